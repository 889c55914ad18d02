section
-- ===== PART A: goes FIRST, ahead of the names: the tables' words, and 'selects' of the private methods out of them =====
/-- a private method of a class that the tables say can be made, by its rows of tables_1 -/
def lw_okq (q : MethodName × Nat) : Prop := (q.1.cls ≠ "java/lang/invoke/MethodHandle" ∧ q.1.cls ≠ "java/lang/invoke/VarHandle") ∧ Cond.instantiable q.1.cls q.2 ∈ tables_1 ∧ Cond.privateMethod q.1 ∈ tables_1 ∧ Cond.instanceMethod q.1 ∈ tables_1
theorem lw_p0 : lw_okq (⟨"ToastBelt$Text", "readItem", "(LToastBelt$Plan;)Z"⟩, 4) := ⟨⟨by decide +kernel, by decide +kernel⟩, List.mem_of_getElem? (i := 24) (by decide +kernel), List.mem_of_getElem? (i := 264) (by decide +kernel), List.mem_of_getElem? (i := 265) (by decide +kernel)⟩
theorem lw_p1 : lw_okq (⟨"ToastBelt$Text", "readNumber", "(I)Z"⟩, 4) := ⟨⟨by decide +kernel, by decide +kernel⟩, List.mem_of_getElem? (i := 24) (by decide +kernel), List.mem_of_getElem? (i := 271) (by decide +kernel), List.mem_of_getElem? (i := 272) (by decide +kernel)⟩
theorem lw_p2 : lw_okq (⟨"ToastBelt$Text", "readSign", "(C)Z"⟩, 4) := ⟨⟨by decide +kernel, by decide +kernel⟩, List.mem_of_getElem? (i := 24) (by decide +kernel), List.mem_of_getElem? (i := 278) (by decide +kernel), List.mem_of_getElem? (i := 279) (by decide +kernel)⟩
theorem lw_p3 : lw_okq (⟨"ToastBelt$Text", "tell", "(LToastBelt$Plan;C)Z"⟩, 4) := ⟨⟨by decide +kernel, by decide +kernel⟩, List.mem_of_getElem? (i := 24) (by decide +kernel), List.mem_of_getElem? (i := 282) (by decide +kernel), List.mem_of_getElem? (i := 283) (by decide +kernel)⟩
theorem lw_p4 : lw_okq (⟨"ToastBelt", "startAnew", "()V"⟩, 11) := ⟨⟨by decide +kernel, by decide +kernel⟩, List.mem_of_getElem? (i := 16) (by decide +kernel), List.mem_of_getElem? (i := 307) (by decide +kernel), List.mem_of_getElem? (i := 308) (by decide +kernel)⟩
theorem lw_p5 : lw_okq (⟨"ToastBelt", "isGuest", "(I)Z"⟩, 11) := ⟨⟨by decide +kernel, by decide +kernel⟩, List.mem_of_getElem? (i := 16) (by decide +kernel), List.mem_of_getElem? (i := 389) (by decide +kernel), List.mem_of_getElem? (i := 390) (by decide +kernel)⟩
theorem lw_p6 : lw_okq (⟨"ToastBelt$Belt", "carry", "(I)V"⟩, 9) := ⟨⟨by decide +kernel, by decide +kernel⟩, List.mem_of_getElem? (i := 90) (by decide +kernel), List.mem_of_getElem? (i := 450) (by decide +kernel), List.mem_of_getElem? (i := 451) (by decide +kernel)⟩
theorem lw_p7 : lw_okq (⟨"ToastBelt", "refusalToGoIn", "(II)I"⟩, 11) := ⟨⟨by decide +kernel, by decide +kernel⟩, List.mem_of_getElem? (i := 16) (by decide +kernel), List.mem_of_getElem? (i := 517) (by decide +kernel), List.mem_of_getElem? (i := 518) (by decide +kernel)⟩
theorem lw_p8 : lw_okq (⟨"ToastBelt", "rightOnesAtKnob", "(I)I"⟩, 11) := ⟨⟨by decide +kernel, by decide +kernel⟩, List.mem_of_getElem? (i := 16) (by decide +kernel), List.mem_of_getElem? (i := 539) (by decide +kernel), List.mem_of_getElem? (i := 540) (by decide +kernel)⟩
theorem lw_p9 : lw_okq (⟨"ToastBelt$Sharing", "findFitting", "(LToastBelt$Belt;)V"⟩, 6) := ⟨⟨by decide +kernel, by decide +kernel⟩, List.mem_of_getElem? (i := 176) (by decide +kernel), List.mem_of_getElem? (i := 551) (by decide +kernel), List.mem_of_getElem? (i := 552) (by decide +kernel)⟩
theorem lw_p10 : lw_okq (⟨"ToastBelt$Sharing", "mostFrom", "(II)I"⟩, 6) := ⟨⟨by decide +kernel, by decide +kernel⟩, List.mem_of_getElem? (i := 176) (by decide +kernel), List.mem_of_getElem? (i := 557) (by decide +kernel), List.mem_of_getElem? (i := 558) (by decide +kernel)⟩
theorem lw_p11 : lw_okq (⟨"ToastBelt$Sharing", "lowestThatServes", "(III)I"⟩, 6) := ⟨⟨by decide +kernel, by decide +kernel⟩, List.mem_of_getElem? (i := 176) (by decide +kernel), List.mem_of_getElem? (i := 564) (by decide +kernel), List.mem_of_getElem? (i := 565) (by decide +kernel)⟩
theorem lw_p12 : lw_okq (⟨"ToastBelt$Belt", "eatLowestRight", "(I)V"⟩, 9) := ⟨⟨by decide +kernel, by decide +kernel⟩, List.mem_of_getElem? (i := 90) (by decide +kernel), List.mem_of_getElem? (i := 621) (by decide +kernel), List.mem_of_getElem? (i := 622) (by decide +kernel)⟩
theorem lw_p13 : lw_okq (⟨"ToastBeltModel", "invite", "(IIII)V"⟩, 26) := ⟨⟨by decide +kernel, by decide +kernel⟩, List.mem_of_getElem? (i := 639) (by decide +kernel), List.mem_of_getElem? (i := 645) (by decide +kernel), List.mem_of_getElem? (i := 646) (by decide +kernel)⟩
theorem lw_p14 : lw_okq (⟨"ToastBeltModel", "takeDraft", "()V"⟩, 26) := ⟨⟨by decide +kernel, by decide +kernel⟩, List.mem_of_getElem? (i := 639) (by decide +kernel), List.mem_of_getElem? (i := 649) (by decide +kernel), List.mem_of_getElem? (i := 650) (by decide +kernel)⟩
theorem lw_p15 : lw_okq (⟨"ToastBeltModel", "readItem", "()V"⟩, 26) := ⟨⟨by decide +kernel, by decide +kernel⟩, List.mem_of_getElem? (i := 639) (by decide +kernel), List.mem_of_getElem? (i := 747) (by decide +kernel), List.mem_of_getElem? (i := 748) (by decide +kernel)⟩
def lw_privs_1 : List (MethodName × Nat) := [(⟨"ToastBelt$Text", "readItem", "(LToastBelt$Plan;)Z"⟩, 4), (⟨"ToastBelt$Text", "readNumber", "(I)Z"⟩, 4), (⟨"ToastBelt$Text", "readSign", "(C)Z"⟩, 4), (⟨"ToastBelt$Text", "tell", "(LToastBelt$Plan;C)Z"⟩, 4), (⟨"ToastBelt", "startAnew", "()V"⟩, 11), (⟨"ToastBelt", "isGuest", "(I)Z"⟩, 11), (⟨"ToastBelt$Belt", "carry", "(I)V"⟩, 9), (⟨"ToastBelt", "refusalToGoIn", "(II)I"⟩, 11), (⟨"ToastBelt", "rightOnesAtKnob", "(I)I"⟩, 11), (⟨"ToastBelt$Sharing", "findFitting", "(LToastBelt$Belt;)V"⟩, 6), (⟨"ToastBelt$Sharing", "mostFrom", "(II)I"⟩, 6), (⟨"ToastBelt$Sharing", "lowestThatServes", "(III)I"⟩, 6), (⟨"ToastBelt$Belt", "eatLowestRight", "(I)V"⟩, 9), (⟨"ToastBeltModel", "invite", "(IIII)V"⟩, 26), (⟨"ToastBeltModel", "takeDraft", "()V"⟩, 26), (⟨"ToastBeltModel", "readItem", "()V"⟩, 26)]
theorem lw_r1 : ∀ q ∈ lw_privs_1, lw_okq q := List.forall_mem_cons.mpr ⟨lw_p0, List.forall_mem_cons.mpr ⟨lw_p1, List.forall_mem_cons.mpr ⟨lw_p2, List.forall_mem_cons.mpr ⟨lw_p3, List.forall_mem_cons.mpr ⟨lw_p4, List.forall_mem_cons.mpr ⟨lw_p5, List.forall_mem_cons.mpr ⟨lw_p6, List.forall_mem_cons.mpr ⟨lw_p7, List.forall_mem_cons.mpr ⟨lw_p8, List.forall_mem_cons.mpr ⟨lw_p9, List.forall_mem_cons.mpr ⟨lw_p10, List.forall_mem_cons.mpr ⟨lw_p11, List.forall_mem_cons.mpr ⟨lw_p12, List.forall_mem_cons.mpr ⟨lw_p13, List.forall_mem_cons.mpr ⟨lw_p14, List.forall_mem_cons.mpr ⟨lw_p15, fun _ h => absurd h List.not_mem_nil⟩⟩⟩⟩⟩⟩⟩⟩⟩⟩⟩⟩⟩⟩⟩⟩
theorem lw_p16 : lw_okq (⟨"ToastBeltModel", "here", "()I"⟩, 26) := ⟨⟨by decide +kernel, by decide +kernel⟩, List.mem_of_getElem? (i := 639) (by decide +kernel), List.mem_of_getElem? (i := 751) (by decide +kernel), List.mem_of_getElem? (i := 752) (by decide +kernel)⟩
theorem lw_p17 : lw_okq (⟨"ToastBeltModel", "readNumber", "(III)V"⟩, 26) := ⟨⟨by decide +kernel, by decide +kernel⟩, List.mem_of_getElem? (i := 639) (by decide +kernel), List.mem_of_getElem? (i := 755) (by decide +kernel), List.mem_of_getElem? (i := 756) (by decide +kernel)⟩
theorem lw_p18 : lw_okq (⟨"ToastBeltModel", "readMark", "(I)V"⟩, 26) := ⟨⟨by decide +kernel, by decide +kernel⟩, List.mem_of_getElem? (i := 639) (by decide +kernel), List.mem_of_getElem? (i := 759) (by decide +kernel), List.mem_of_getElem? (i := 760) (by decide +kernel)⟩
theorem lw_p19 : lw_okq (⟨"ToastBeltModel", "isGuest", "(I)Z"⟩, 26) := ⟨⟨by decide +kernel, by decide +kernel⟩, List.mem_of_getElem? (i := 639) (by decide +kernel), List.mem_of_getElem? (i := 772) (by decide +kernel), List.mem_of_getElem? (i := 773) (by decide +kernel)⟩
theorem lw_p20 : lw_okq (⟨"ToastBeltModel", "isRightFor", "([III)Z"⟩, 26) := ⟨⟨by decide +kernel, by decide +kernel⟩, List.mem_of_getElem? (i := 639) (by decide +kernel), List.mem_of_getElem? (i := 780) (by decide +kernel), List.mem_of_getElem? (i := 781) (by decide +kernel)⟩
theorem lw_p21 : lw_okq (⟨"ToastBeltModel", "isLoose", "(I)Z"⟩, 26) := ⟨⟨by decide +kernel, by decide +kernel⟩, List.mem_of_getElem? (i := 639) (by decide +kernel), List.mem_of_getElem? (i := 791) (by decide +kernel), List.mem_of_getElem? (i := 792) (by decide +kernel)⟩
theorem lw_p22 : lw_okq (⟨"ToastBeltModel", "isFree", "([II)Z"⟩, 26) := ⟨⟨by decide +kernel, by decide +kernel⟩, List.mem_of_getElem? (i := 639) (by decide +kernel), List.mem_of_getElem? (i := 795) (by decide +kernel), List.mem_of_getElem? (i := 796) (by decide +kernel)⟩
theorem lw_p23 : lw_okq (⟨"ToastBeltModel", "know", "()V"⟩, 26) := ⟨⟨by decide +kernel, by decide +kernel⟩, List.mem_of_getElem? (i := 639) (by decide +kernel), List.mem_of_getElem? (i := 799) (by decide +kernel), List.mem_of_getElem? (i := 800) (by decide +kernel)⟩
theorem lw_p24 : lw_okq (⟨"ToastBeltModel", "put", "([III)V"⟩, 26) := ⟨⟨by decide +kernel, by decide +kernel⟩, List.mem_of_getElem? (i := 639) (by decide +kernel), List.mem_of_getElem? (i := 803) (by decide +kernel), List.mem_of_getElem? (i := 804) (by decide +kernel)⟩
theorem lw_p25 : lw_okq (⟨"ToastBeltModel", "manyIn", "([II)I"⟩, 26) := ⟨⟨by decide +kernel, by decide +kernel⟩, List.mem_of_getElem? (i := 639) (by decide +kernel), List.mem_of_getElem? (i := 807) (by decide +kernel), List.mem_of_getElem? (i := 808) (by decide +kernel)⟩
theorem lw_p26 : lw_okq (⟨"ToastBeltModel", "moment", "([I)I"⟩, 26) := ⟨⟨by decide +kernel, by decide +kernel⟩, List.mem_of_getElem? (i := 639) (by decide +kernel), List.mem_of_getElem? (i := 815) (by decide +kernel), List.mem_of_getElem? (i := 816) (by decide +kernel)⟩
theorem lw_p27 : lw_okq (⟨"ToastBeltModel", "canTake", "([III)Z"⟩, 26) := ⟨⟨by decide +kernel, by decide +kernel⟩, List.mem_of_getElem? (i := 639) (by decide +kernel), List.mem_of_getElem? (i := 830) (by decide +kernel), List.mem_of_getElem? (i := 831) (by decide +kernel)⟩
theorem lw_p28 : lw_okq (⟨"ToastBeltModel", "hasEaten", "([II)Z"⟩, 26) := ⟨⟨by decide +kernel, by decide +kernel⟩, List.mem_of_getElem? (i := 639) (by decide +kernel), List.mem_of_getElem? (i := 834) (by decide +kernel), List.mem_of_getElem? (i := 835) (by decide +kernel)⟩
theorem lw_p29 : lw_okq (⟨"ToastBeltModel", "eat", "([III)V"⟩, 26) := ⟨⟨by decide +kernel, by decide +kernel⟩, List.mem_of_getElem? (i := 639) (by decide +kernel), List.mem_of_getElem? (i := 838) (by decide +kernel), List.mem_of_getElem? (i := 839) (by decide +kernel)⟩
theorem lw_p30 : lw_okq (⟨"ToastBeltModel", "takeNow", "()V"⟩, 26) := ⟨⟨by decide +kernel, by decide +kernel⟩, List.mem_of_getElem? (i := 639) (by decide +kernel), List.mem_of_getElem? (i := 854) (by decide +kernel), List.mem_of_getElem? (i := 855) (by decide +kernel)⟩
theorem lw_p31 : lw_okq (⟨"ToastBeltModel", "goOn", "(I)V"⟩, 26) := ⟨⟨by decide +kernel, by decide +kernel⟩, List.mem_of_getElem? (i := 639) (by decide +kernel), List.mem_of_getElem? (i := 858) (by decide +kernel), List.mem_of_getElem? (i := 859) (by decide +kernel)⟩
def lw_privs_2 : List (MethodName × Nat) := [(⟨"ToastBeltModel", "here", "()I"⟩, 26), (⟨"ToastBeltModel", "readNumber", "(III)V"⟩, 26), (⟨"ToastBeltModel", "readMark", "(I)V"⟩, 26), (⟨"ToastBeltModel", "isGuest", "(I)Z"⟩, 26), (⟨"ToastBeltModel", "isRightFor", "([III)Z"⟩, 26), (⟨"ToastBeltModel", "isLoose", "(I)Z"⟩, 26), (⟨"ToastBeltModel", "isFree", "([II)Z"⟩, 26), (⟨"ToastBeltModel", "know", "()V"⟩, 26), (⟨"ToastBeltModel", "put", "([III)V"⟩, 26), (⟨"ToastBeltModel", "manyIn", "([II)I"⟩, 26), (⟨"ToastBeltModel", "moment", "([I)I"⟩, 26), (⟨"ToastBeltModel", "canTake", "([III)Z"⟩, 26), (⟨"ToastBeltModel", "hasEaten", "([II)Z"⟩, 26), (⟨"ToastBeltModel", "eat", "([III)V"⟩, 26), (⟨"ToastBeltModel", "takeNow", "()V"⟩, 26), (⟨"ToastBeltModel", "goOn", "(I)V"⟩, 26)]
theorem lw_r2 : ∀ q ∈ lw_privs_2, lw_okq q := List.forall_mem_cons.mpr ⟨lw_p16, List.forall_mem_cons.mpr ⟨lw_p17, List.forall_mem_cons.mpr ⟨lw_p18, List.forall_mem_cons.mpr ⟨lw_p19, List.forall_mem_cons.mpr ⟨lw_p20, List.forall_mem_cons.mpr ⟨lw_p21, List.forall_mem_cons.mpr ⟨lw_p22, List.forall_mem_cons.mpr ⟨lw_p23, List.forall_mem_cons.mpr ⟨lw_p24, List.forall_mem_cons.mpr ⟨lw_p25, List.forall_mem_cons.mpr ⟨lw_p26, List.forall_mem_cons.mpr ⟨lw_p27, List.forall_mem_cons.mpr ⟨lw_p28, List.forall_mem_cons.mpr ⟨lw_p29, List.forall_mem_cons.mpr ⟨lw_p30, List.forall_mem_cons.mpr ⟨lw_p31, fun _ h => absurd h List.not_mem_nil⟩⟩⟩⟩⟩⟩⟩⟩⟩⟩⟩⟩⟩⟩⟩⟩
theorem lw_p32 : lw_okq (⟨"ToastBeltModel", "contentOf", "([I)I"⟩, 26) := ⟨⟨by decide +kernel, by decide +kernel⟩, List.mem_of_getElem? (i := 639) (by decide +kernel), List.mem_of_getElem? (i := 866) (by decide +kernel), List.mem_of_getElem? (i := 867) (by decide +kernel)⟩
theorem lw_p33 : lw_okq (⟨"ToastBeltModel", "isRightBy", "(II)Z"⟩, 26) := ⟨⟨by decide +kernel, by decide +kernel⟩, List.mem_of_getElem? (i := 639) (by decide +kernel), List.mem_of_getElem? (i := 874) (by decide +kernel), List.mem_of_getElem? (i := 875) (by decide +kernel)⟩
theorem lw_p34 : lw_okq (⟨"ToastBeltModel", "rightBy", "(I)I"⟩, 26) := ⟨⟨by decide +kernel, by decide +kernel⟩, List.mem_of_getElem? (i := 639) (by decide +kernel), List.mem_of_getElem? (i := 890) (by decide +kernel), List.mem_of_getElem? (i := 891) (by decide +kernel)⟩
theorem lw_p35 : lw_okq (⟨"ToastBeltModel", "giveAll", "()V"⟩, 26) := ⟨⟨by decide +kernel, by decide +kernel⟩, List.mem_of_getElem? (i := 639) (by decide +kernel), List.mem_of_getElem? (i := 898) (by decide +kernel), List.mem_of_getElem? (i := 899) (by decide +kernel)⟩
theorem lw_p36 : lw_okq (⟨"ToastBeltModel", "measure", "()V"⟩, 26) := ⟨⟨by decide +kernel, by decide +kernel⟩, List.mem_of_getElem? (i := 639) (by decide +kernel), List.mem_of_getElem? (i := 902) (by decide +kernel), List.mem_of_getElem? (i := 903) (by decide +kernel)⟩
theorem lw_p37 : lw_okq (⟨"ToastBeltModel", "isFor", "(II)Z"⟩, 26) := ⟨⟨by decide +kernel, by decide +kernel⟩, List.mem_of_getElem? (i := 639) (by decide +kernel), List.mem_of_getElem? (i := 906) (by decide +kernel), List.mem_of_getElem? (i := 907) (by decide +kernel)⟩
theorem lw_p38 : lw_okq (⟨"ToastBeltModel", "takeRight", "(I)V"⟩, 26) := ⟨⟨by decide +kernel, by decide +kernel⟩, List.mem_of_getElem? (i := 639) (by decide +kernel), List.mem_of_getElem? (i := 940) (by decide +kernel), List.mem_of_getElem? (i := 941) (by decide +kernel)⟩
def lw_privs_3 : List (MethodName × Nat) := [(⟨"ToastBeltModel", "contentOf", "([I)I"⟩, 26), (⟨"ToastBeltModel", "isRightBy", "(II)Z"⟩, 26), (⟨"ToastBeltModel", "rightBy", "(I)I"⟩, 26), (⟨"ToastBeltModel", "giveAll", "()V"⟩, 26), (⟨"ToastBeltModel", "measure", "()V"⟩, 26), (⟨"ToastBeltModel", "isFor", "(II)Z"⟩, 26), (⟨"ToastBeltModel", "takeRight", "(I)V"⟩, 26)]
theorem lw_r3 : ∀ q ∈ lw_privs_3, lw_okq q := List.forall_mem_cons.mpr ⟨lw_p32, List.forall_mem_cons.mpr ⟨lw_p33, List.forall_mem_cons.mpr ⟨lw_p34, List.forall_mem_cons.mpr ⟨lw_p35, List.forall_mem_cons.mpr ⟨lw_p36, List.forall_mem_cons.mpr ⟨lw_p37, List.forall_mem_cons.mpr ⟨lw_p38, fun _ h => absurd h List.not_mem_nil⟩⟩⟩⟩⟩⟩⟩
def lw_privs : List (MethodName × Nat) := lw_privs_1 ++ (lw_privs_2 ++ (lw_privs_3))
def lw_tbl : List Cond := k2_sels lw_privs ++ tables_1
theorem lw_privs_ok : ∀ q ∈ lw_privs, lw_okq q := by
  show ∀ q ∈ lw_privs_1 ++ (lw_privs_2 ++ (lw_privs_3)), lw_okq q
  exact List.forall_mem_append.mpr ⟨lw_r1, List.forall_mem_append.mpr ⟨lw_r2, lw_r3⟩⟩
end
section
def RX0 : String := "ToastBelt$Belt"
def TX0 : u_T := fun k => match k with
  | 0 => ("ToastBelt$Belt", "plan", "LToastBelt$Plan;", true)
  | 1 => ("ToastBelt$Belt", "knobAt", "I", false)
  | 2 => ("ToastBelt$Belt", "heat", "I", false)
  | 3 => ("ToastBelt$Belt", "moments", "I", false)
  | 4 => ("ToastBelt$Belt", "where", "[I", true)
  | 5 => ("ToastBelt$Belt", "lanes", "[I", true)
  | 6 => ("ToastBelt$Belt", "places", "[I", true)
  | 7 => ("ToastBelt$Belt", "brown", "[I", true)
  | _ => ("ToastBelt$Belt", "eaters", "[I", true)
def tyX0 : Nat → FieldType := fun k => match k with
  | 0 => .object "ToastBelt$Plan"
  | 1 => .int
  | 2 => .int
  | 3 => .int
  | 4 => .array .int
  | 5 => .array .int
  | 6 => .array .int
  | 7 => .array .int
  | _ => .array .int
theorem nmX0 : ∀ a, a < 9 → ∀ b, b < 9 → a ≠ b → (TX0 a).2.1 ≠ (TX0 b).2.1 := by decide +kernel
theorem tyX0_ok : ∀ k, k < 9 → parseFieldDescriptor (TX0 k).2.2.1 = some (tyX0 k) := by decide +kernel
abbrev cX0_init : ByteArray := prog_2_method_1_code
def yX0_init : MethodName := ⟨RX0, "<init>", "(LToastBelt$Plan;)V"⟩
abbrev cX0_begin : ByteArray := prog_2_method_2_code
def yX0_begin : MethodName := ⟨RX0, "begin", "()V"⟩
abbrev cX0_copyFrom : ByteArray := prog_2_method_3_code
def yX0_copyFrom : MethodName := ⟨RX0, "copyFrom", "(LToastBelt$Belt;)V"⟩
abbrev cX0_howMany : ByteArray := prog_2_method_4_code
def yX0_howMany : MethodName := ⟨RX0, "howMany", "(I)I"⟩
abbrev cX0_alikeOnTray : ByteArray := prog_2_method_5_code
def yX0_alikeOnTray : MethodName := ⟨RX0, "alikeOnTray", "(I)I"⟩
abbrev cX0_eatenBy : ByteArray := prog_2_method_6_code
def yX0_eatenBy : MethodName := ⟨RX0, "eatenBy", "(I)I"⟩
abbrev cX0_isRight : ByteArray := prog_2_method_7_code
def yX0_isRight : MethodName := ⟨RX0, "isRight", "(II)Z"⟩
abbrev cX0_canGoIn : ByteArray := prog_2_method_8_code
def yX0_canGoIn : MethodName := ⟨RX0, "canGoIn", "(I)Z"⟩
abbrev cX0_isFreeAtStart : ByteArray := prog_2_method_9_code
def yX0_isFreeAtStart : MethodName := ⟨RX0, "isFreeAtStart", "(I)Z"⟩
abbrev cX0_setAtStart : ByteArray := prog_2_method_10_code
def yX0_setAtStart : MethodName := ⟨RX0, "setAtStart", "(II)V"⟩
abbrev cX0_mayEat : ByteArray := prog_2_method_11_code
def yX0_mayEat : MethodName := ⟨RX0, "mayEat", "(II)Z"⟩
abbrev cX0_eat : ByteArray := prog_2_method_12_code
def yX0_eat : MethodName := ⟨RX0, "eat", "(II)V"⟩
abbrev cX0_goOn : ByteArray := prog_2_method_13_code
def yX0_goOn : MethodName := ⟨RX0, "goOn", "()V"⟩
abbrev cX0_carry : ByteArray := prog_2_method_14_code
def yX0_carry : MethodName := ⟨RX0, "carry", "(I)V"⟩
abbrev cX0_goOnTillFallen : ByteArray := prog_2_method_15_code
def yX0_goOnTillFallen : MethodName := ⟨RX0, "goOnTillFallen", "(I)V"⟩
abbrev cX0_isRightAfterRide : ByteArray := prog_2_method_16_code
def yX0_isRightAfterRide : MethodName := ⟨RX0, "isRightAfterRide", "(II)Z"⟩
abbrev cX0_contentBits : ByteArray := prog_2_method_17_code
def yX0_contentBits : MethodName := ⟨RX0, "contentBits", "()I"⟩
abbrev cX0_actByDraw : ByteArray := prog_2_method_18_code
def yX0_actByDraw : MethodName := ⟨RX0, "actByDraw", "(I)V"⟩
abbrev cX0_eatLowestRight : ByteArray := prog_2_method_19_code
def yX0_eatLowestRight : MethodName := ⟨RX0, "eatLowestRight", "(I)V"⟩
def RX1 : String := "ToastBelt$Past"
def TX1 : u_T := fun k => match k with
  | 0 => ("ToastBelt$Past", "belts", "[LToastBelt$Belt;", true)
  | 1 => ("ToastBelt$Past", "next", "I", false)
  | _ => ("ToastBelt$Past", "many", "I", false)
def tyX1 : Nat → FieldType := fun k => match k with
  | 0 => .array (.object "ToastBelt$Belt")
  | 1 => .int
  | _ => .int
theorem nmX1 : ∀ a, a < 3 → ∀ b, b < 3 → a ≠ b → (TX1 a).2.1 ≠ (TX1 b).2.1 := by decide +kernel
theorem tyX1_ok : ∀ k, k < 3 → parseFieldDescriptor (TX1 k).2.2.1 = some (tyX1 k) := by decide +kernel
abbrev cX1_init : ByteArray := prog_3_method_1_code
def yX1_init : MethodName := ⟨RX1, "<init>", "(LToastBelt$Plan;)V"⟩
abbrev cX1_clear : ByteArray := prog_3_method_2_code
def yX1_clear : MethodName := ⟨RX1, "clear", "()V"⟩
abbrev cX1_remember : ByteArray := prog_3_method_3_code
def yX1_remember : MethodName := ⟨RX1, "remember", "(LToastBelt$Belt;)V"⟩
abbrev cX1_bringBack : ByteArray := prog_3_method_4_code
def yX1_bringBack : MethodName := ⟨RX1, "bringBack", "(LToastBelt$Belt;)V"⟩
def RX2 : String := "ToastBelt$Plan"
def TX2 : u_T := fun k => match k with
  | 0 => ("ToastBelt$Plan", "places", "I", false)
  | 1 => ("ToastBelt$Plan", "knobAt", "I", false)
  | 2 => ("ToastBelt$Plan", "heat", "I", false)
  | 3 => ("ToastBelt$Plan", "mostHeat", "I", false)
  | 4 => ("ToastBelt$Plan", "guests", "I", false)
  | 5 => ("ToastBelt$Plan", "kinds", "[I", true)
  | 6 => ("ToastBelt$Plan", "least", "[I", true)
  | _ => ("ToastBelt$Plan", "most", "[I", true)
def tyX2 : Nat → FieldType := fun k => match k with
  | 0 => .int
  | 1 => .int
  | 2 => .int
  | 3 => .int
  | 4 => .int
  | 5 => .array .int
  | 6 => .array .int
  | _ => .array .int
theorem nmX2 : ∀ a, a < 8 → ∀ b, b < 8 → a ≠ b → (TX2 a).2.1 ≠ (TX2 b).2.1 := by decide +kernel
theorem tyX2_ok : ∀ k, k < 8 → parseFieldDescriptor (TX2 k).2.2.1 = some (tyX2 k) := by decide +kernel
abbrev cX2_init : ByteArray := prog_4_method_1_code
def yX2_init : MethodName := ⟨RX2, "<init>", "()V"⟩
abbrev cX2_begin : ByteArray := prog_4_method_2_code
def yX2_begin : MethodName := ⟨RX2, "begin", "()V"⟩
abbrev cX2_copyFrom : ByteArray := prog_4_method_3_code
def yX2_copyFrom : MethodName := ⟨RX2, "copyFrom", "(LToastBelt$Plan;)V"⟩
abbrev cX2_setPlaces : ByteArray := prog_4_method_4_code
def yX2_setPlaces : MethodName := ⟨RX2, "setPlaces", "(I)Z"⟩
abbrev cX2_setKnob : ByteArray := prog_4_method_5_code
def yX2_setKnob : MethodName := ⟨RX2, "setKnob", "(I)Z"⟩
abbrev cX2_setHeat : ByteArray := prog_4_method_6_code
def yX2_setHeat : MethodName := ⟨RX2, "setHeat", "(II)Z"⟩
abbrev cX2_addGuest : ByteArray := prog_4_method_7_code
def yX2_addGuest : MethodName := ⟨RX2, "addGuest", "(III)Z"⟩
def RX3 : String := "ToastBelt$Sharing"
def TX3 : u_T := fun k => match k with
  | 0 => ("ToastBelt$Sharing", "fitting", "[I", true)
  | 1 => ("ToastBelt$Sharing", "takers", "[I", true)
  | 2 => ("ToastBelt$Sharing", "tried", "I", false)
  | 3 => ("ToastBelt$Sharing", "guests", "I", false)
  | 4 => ("ToastBelt$Sharing", "chosen", "[I", true)
  | _ => ("ToastBelt$Sharing", "total", "I", false)
def tyX3 : Nat → FieldType := fun k => match k with
  | 0 => .array .int
  | 1 => .array .int
  | 2 => .int
  | 3 => .int
  | 4 => .array .int
  | _ => .int
theorem nmX3 : ∀ a, a < 6 → ∀ b, b < 6 → a ≠ b → (TX3 a).2.1 ≠ (TX3 b).2.1 := by decide +kernel
theorem tyX3_ok : ∀ k, k < 6 → parseFieldDescriptor (TX3 k).2.2.1 = some (tyX3 k) := by decide +kernel
abbrev cX3_init : ByteArray := prog_5_method_1_code
def yX3_init : MethodName := ⟨RX3, "<init>", "()V"⟩
abbrev cX3_settle : ByteArray := prog_5_method_2_code
def yX3_settle : MethodName := ⟨RX3, "settle", "(LToastBelt$Belt;)V"⟩
abbrev cX3_findFitting : ByteArray := prog_5_method_3_code
def yX3_findFitting : MethodName := ⟨RX3, "findFitting", "(LToastBelt$Belt;)V"⟩
abbrev cX3_lowestThatServes : ByteArray := prog_5_method_4_code
def yX3_lowestThatServes : MethodName := ⟨RX3, "lowestThatServes", "(III)I"⟩
abbrev cX3_mostFrom : ByteArray := prog_5_method_5_code
def yX3_mostFrom : MethodName := ⟨RX3, "mostFrom", "(II)I"⟩
abbrev cX3_findsOne : ByteArray := prog_5_method_6_code
def yX3_findsOne : MethodName := ⟨RX3, "findsOne", "(LToastBelt$Sharing;II)Z"⟩
def RX4 : String := "ToastBelt$Sightings"
def TX4 : u_T := fun k => match k with
  | 0 => ("ToastBelt$Sightings", "kinds", "[I", true)
  | 1 => ("ToastBelt$Sightings", "lanes", "[I", true)
  | 2 => ("ToastBelt$Sightings", "knobs", "[I", true)
  | 3 => ("ToastBelt$Sightings", "browns", "[I", true)
  | _ => ("ToastBelt$Sightings", "many", "I", false)
def tyX4 : Nat → FieldType := fun k => match k with
  | 0 => .array .int
  | 1 => .array .int
  | 2 => .array .int
  | 3 => .array .int
  | _ => .int
theorem nmX4 : ∀ a, a < 5 → ∀ b, b < 5 → a ≠ b → (TX4 a).2.1 ≠ (TX4 b).2.1 := by decide +kernel
theorem tyX4_ok : ∀ k, k < 5 → parseFieldDescriptor (TX4 k).2.2.1 = some (tyX4 k) := by decide +kernel
abbrev cX4_init : ByteArray := prog_6_method_1_code
def yX4_init : MethodName := ⟨RX4, "<init>", "()V"⟩
abbrev cX4_add : ByteArray := prog_6_method_2_code
def yX4_add : MethodName := ⟨RX4, "add", "(IIII)Z"⟩
abbrev cX4_fit : ByteArray := prog_6_method_3_code
def yX4_fit : MethodName := ⟨RX4, "fit", "(II)Z"⟩
def RX5 : String := "ToastBelt$Text"
def TX5 : u_T := fun k => match k with
  | 0 => ("ToastBelt$Text", "letters", "[C", true)
  | 1 => ("ToastBelt$Text", "numbers", "[I", true)
  | 2 => ("ToastBelt$Text", "size", "I", false)
  | _ => ("ToastBelt$Text", "at", "I", false)
def tyX5 : Nat → FieldType := fun k => match k with
  | 0 => .array .char
  | 1 => .array .int
  | 2 => .int
  | _ => .int
theorem nmX5 : ∀ a, a < 4 → ∀ b, b < 4 → a ≠ b → (TX5 a).2.1 ≠ (TX5 b).2.1 := by decide +kernel
theorem tyX5_ok : ∀ k, k < 4 → parseFieldDescriptor (TX5 k).2.2.1 = some (tyX5 k) := by decide +kernel
abbrev cX5_init : ByteArray := prog_7_method_1_code
def yX5_init : MethodName := ⟨RX5, "<init>", "()V"⟩
abbrev cX5_length : ByteArray := prog_7_method_2_code
def yX5_length : MethodName := ⟨RX5, "length", "()I"⟩
abbrev cX5_add : ByteArray := prog_7_method_3_code
def yX5_add : MethodName := ⟨RX5, "add", "(C)Z"⟩
abbrev cX5_clear : ByteArray := prog_7_method_4_code
def yX5_clear : MethodName := ⟨RX5, "clear", "()V"⟩
abbrev cX5_readInto : ByteArray := prog_7_method_5_code
def yX5_readInto : MethodName := ⟨RX5, "readInto", "(LToastBelt$Plan;)I"⟩
abbrev cX5_readItem : ByteArray := prog_7_method_6_code
def yX5_readItem : MethodName := ⟨RX5, "readItem", "(LToastBelt$Plan;)Z"⟩
abbrev cX5_numbersBehind : ByteArray := prog_7_method_7_code
def yX5_numbersBehind : MethodName := ⟨RX5, "numbersBehind", "(C)I"⟩
abbrev cX5_readNumber : ByteArray := prog_7_method_8_code
def yX5_readNumber : MethodName := ⟨RX5, "readNumber", "(I)Z"⟩
abbrev cX5_readSign : ByteArray := prog_7_method_9_code
def yX5_readSign : MethodName := ⟨RX5, "readSign", "(C)Z"⟩
abbrev cX5_tell : ByteArray := prog_7_method_10_code
def yX5_tell : MethodName := ⟨RX5, "tell", "(LToastBelt$Plan;C)Z"⟩
def RX6 : String := "ToastBelt"
def TX6 : u_T := fun k => match k with
  | 0 => ("ToastBelt", "text", "LToastBelt$Text;", true)
  | 1 => ("ToastBelt", "draft", "LToastBelt$Plan;", true)
  | 2 => ("ToastBelt", "laid", "LToastBelt$Plan;", true)
  | 3 => ("ToastBelt", "now", "LToastBelt$Belt;", true)
  | 4 => ("ToastBelt", "trial", "LToastBelt$Belt;", true)
  | 5 => ("ToastBelt", "later", "LToastBelt$Belt;", true)
  | 6 => ("ToastBelt", "past", "LToastBelt$Past;", true)
  | 7 => ("ToastBelt", "keptBelts", "[LToastBelt$Belt;", true)
  | 8 => ("ToastBelt", "keptMany", "I", false)
  | 9 => ("ToastBelt", "sightings", "LToastBelt$Sightings;", true)
  | _ => ("ToastBelt", "sharing", "LToastBelt$Sharing;", true)
def tyX6 : Nat → FieldType := fun k => match k with
  | 0 => .object "ToastBelt$Text"
  | 1 => .object "ToastBelt$Plan"
  | 2 => .object "ToastBelt$Plan"
  | 3 => .object "ToastBelt$Belt"
  | 4 => .object "ToastBelt$Belt"
  | 5 => .object "ToastBelt$Belt"
  | 6 => .object "ToastBelt$Past"
  | 7 => .array (.object "ToastBelt$Belt")
  | 8 => .int
  | 9 => .object "ToastBelt$Sightings"
  | _ => .object "ToastBelt$Sharing"
theorem nmX6 : ∀ a, a < 11 → ∀ b, b < 11 → a ≠ b → (TX6 a).2.1 ≠ (TX6 b).2.1 := by decide +kernel
theorem tyX6_ok : ∀ k, k < 11 → parseFieldDescriptor (TX6 k).2.2.1 = some (tyX6 k) := by decide +kernel
abbrev cX6_init : ByteArray := prog_1_method_1_code
def yX6_init : MethodName := ⟨RX6, "<init>", "()V"⟩
abbrev cX6_write : ByteArray := prog_1_method_2_code
def yX6_write : MethodName := ⟨RX6, "write", "(I)I"⟩
abbrev cX6_wipe : ByteArray := prog_1_method_3_code
def yX6_wipe : MethodName := ⟨RX6, "wipe", "()I"⟩
abbrev cX6_fault : ByteArray := prog_1_method_4_code
def yX6_fault : MethodName := ⟨RX6, "fault", "()I"⟩
abbrev cX6_lay : ByteArray := prog_1_method_5_code
def yX6_lay : MethodName := ⟨RX6, "lay", "()I"⟩
abbrev cX6_guest : ByteArray := prog_1_method_6_code
def yX6_guest : MethodName := ⟨RX6, "guest", "(II)I"⟩
abbrev cX6_slice : ByteArray := prog_1_method_7_code
def yX6_slice : MethodName := ⟨RX6, "slice", "(II)I"⟩
abbrev cX6_putIn : ByteArray := prog_1_method_8_code
def yX6_putIn : MethodName := ⟨RX6, "putIn", "(II)I"⟩
abbrev cX6_pass : ByteArray := prog_1_method_9_code
def yX6_pass : MethodName := ⟨RX6, "pass", "(I)I"⟩
abbrev cX6_knob : ByteArray := prog_1_method_10_code
def yX6_knob : MethodName := ⟨RX6, "knob", "(I)I"⟩
abbrev cX6_take : ByteArray := prog_1_method_11_code
def yX6_take : MethodName := ⟨RX6, "take", "(II)I"⟩
abbrev cX6_undo : ByteArray := prog_1_method_12_code
def yX6_undo : MethodName := ⟨RX6, "undo", "()I"⟩
abbrev cX6_falls : ByteArray := prog_1_method_13_code
def yX6_falls : MethodName := ⟨RX6, "falls", "(I)I"⟩
abbrev cX6_willBe : ByteArray := prog_1_method_14_code
def yX6_willBe : MethodName := ⟨RX6, "willBe", "(I)I"⟩
abbrev cX6_content : ByteArray := prog_1_method_15_code
def yX6_content : MethodName := ⟨RX6, "content", "()I"⟩
abbrev cX6_knobFor : ByteArray := prog_1_method_16_code
def yX6_knobFor : MethodName := ⟨RX6, "knobFor", "(II)I"⟩
abbrev cX6_often : ByteArray := prog_1_method_17_code
def yX6_often : MethodName := ⟨RX6, "often", "(II)I"⟩
abbrev cX6_waits : ByteArray := prog_1_method_18_code
def yX6_waits : MethodName := ⟨RX6, "waits", "(II)I"⟩
abbrev cX6_harm : ByteArray := prog_1_method_19_code
def yX6_harm : MethodName := ⟨RX6, "harm", "(I)I"⟩
abbrev cX6_share : ByteArray := prog_1_method_20_code
def yX6_share : MethodName := ⟨RX6, "share", "(I)I"⟩
abbrev cX6_round : ByteArray := prog_1_method_21_code
def yX6_round : MethodName := ⟨RX6, "round", "()I"⟩
abbrev cX6_seen : ByteArray := prog_1_method_22_code
def yX6_seen : MethodName := ⟨RX6, "seen", "(IIII)I"⟩
abbrev cX6_forget : ByteArray := prog_1_method_23_code
def yX6_forget : MethodName := ⟨RX6, "forget", "()I"⟩
abbrev cX6_hot : ByteArray := prog_1_method_24_code
def yX6_hot : MethodName := ⟨RX6, "hot", "(I)I"⟩
abbrev cX6_left : ByteArray := prog_1_method_25_code
def yX6_left : MethodName := ⟨RX6, "left", "(III)I"⟩
abbrev cX6_morning : ByteArray := prog_1_method_26_code
def yX6_morning : MethodName := ⟨RX6, "morning", "(III)I"⟩
abbrev cX6_keep : ByteArray := prog_1_method_27_code
def yX6_keep : MethodName := ⟨RX6, "keep", "()I"⟩
abbrev cX6_back : ByteArray := prog_1_method_28_code
def yX6_back : MethodName := ⟨RX6, "back", "()I"⟩
abbrev cX6_count : ByteArray := prog_1_method_29_code
def yX6_count : MethodName := ⟨RX6, "count", "(I)I"⟩
abbrev cX6_startAnew : ByteArray := prog_1_method_30_code
def yX6_startAnew : MethodName := ⟨RX6, "startAnew", "()V"⟩
abbrev cX6_isGuest : ByteArray := prog_1_method_31_code
def yX6_isGuest : MethodName := ⟨RX6, "isGuest", "(I)Z"⟩
abbrev cX6_isLane : ByteArray := prog_1_method_32_code
def yX6_isLane : MethodName := ⟨RX6, "isLane", "(I)Z"⟩
abbrev cX6_isKnob : ByteArray := prog_1_method_33_code
def yX6_isKnob : MethodName := ⟨RX6, "isKnob", "(I)Z"⟩
abbrev cX6_within : ByteArray := prog_1_method_34_code
def yX6_within : MethodName := ⟨RX6, "within", "(III)Z"⟩
abbrev cX6_refusalToGoIn : ByteArray := prog_1_method_35_code
def yX6_refusalToGoIn : MethodName := ⟨RX6, "refusalToGoIn", "(II)I"⟩
abbrev cX6_rightOnesAtKnob : ByteArray := prog_1_method_36_code
def yX6_rightOnesAtKnob : MethodName := ⟨RX6, "rightOnesAtKnob", "(I)I"⟩
abbrev cX6_momentsThrough : ByteArray := prog_1_method_37_code
def yX6_momentsThrough : MethodName := ⟨RX6, "momentsThrough", "(II)I"⟩
abbrev cX6_browning : ByteArray := prog_1_method_38_code
def yX6_browning : MethodName := ⟨RX6, "browning", "(III)I"⟩
abbrev cX6_greatestDivisor : ByteArray := prog_1_method_39_code
def yX6_greatestDivisor : MethodName := ⟨RX6, "greatestDivisor", "(II)I"⟩
abbrev cX6_draw : ByteArray := prog_1_method_40_code
def yX6_draw : MethodName := ⟨RX6, "draw", "(II)I"⟩
def RX7 : String := "ToastBeltModel"
def TX7 : u_T := fun k => match k with
  | 0 => ("ToastBeltModel", "text", "[B", true)
  | 1 => ("ToastBeltModel", "typed", "I", false)
  | 2 => ("ToastBeltModel", "guests", "[I", true)
  | 3 => ("ToastBeltModel", "length", "[I", true)
  | 4 => ("ToastBeltModel", "knob", "[I", true)
  | 5 => ("ToastBeltModel", "heat", "[I", true)
  | 6 => ("ToastBeltModel", "most", "[I", true)
  | 7 => ("ToastBeltModel", "kind", "[I", true)
  | 8 => ("ToastBeltModel", "low", "[I", true)
  | 9 => ("ToastBeltModel", "high", "[I", true)
  | 10 => ("ToastBeltModel", "at", "I", false)
  | 11 => ("ToastBeltModel", "isRight", "Z", false)
  | 12 => ("ToastBeltModel", "told", "[I", true)
  | 13 => ("ToastBeltModel", "now", "[I", true)
  | 14 => ("ToastBeltModel", "tried", "[I", true)
  | 15 => ("ToastBeltModel", "before", "[I", true)
  | 16 => ("ToastBeltModel", "acts", "I", false)
  | 17 => ("ToastBeltModel", "images", "[I", true)
  | 18 => ("ToastBeltModel", "kept", "I", false)
  | 19 => ("ToastBeltModel", "can", "[I", true)
  | 20 => ("ToastBeltModel", "given", "[I", true)
  | 21 => ("ToastBeltModel", "factKind", "[I", true)
  | 22 => ("ToastBeltModel", "factLane", "[I", true)
  | 23 => ("ToastBeltModel", "factKnob", "[I", true)
  | 24 => ("ToastBeltModel", "factBrown", "[I", true)
  | _ => ("ToastBeltModel", "seen", "I", false)
def tyX7 : Nat → FieldType := fun k => match k with
  | 0 => .array .byte
  | 1 => .int
  | 2 => .array .int
  | 3 => .array .int
  | 4 => .array .int
  | 5 => .array .int
  | 6 => .array .int
  | 7 => .array .int
  | 8 => .array .int
  | 9 => .array .int
  | 10 => .int
  | 11 => .boolean
  | 12 => .array .int
  | 13 => .array .int
  | 14 => .array .int
  | 15 => .array .int
  | 16 => .int
  | 17 => .array .int
  | 18 => .int
  | 19 => .array .int
  | 20 => .array .int
  | 21 => .array .int
  | 22 => .array .int
  | 23 => .array .int
  | 24 => .array .int
  | _ => .int
theorem nmX7 : ∀ a, a < 26 → ∀ b, b < 26 → a ≠ b → (TX7 a).2.1 ≠ (TX7 b).2.1 := by decide +kernel
theorem tyX7_ok : ∀ k, k < 26 → parseFieldDescriptor (TX7 k).2.2.1 = some (tyX7 k) := by decide +kernel
abbrev cX7_init : ByteArray := prog_9_method_1_code
def yX7_init : MethodName := ⟨RX7, "<init>", "()V"⟩
abbrev cX7_in : ByteArray := prog_9_method_3_code
def yX7_in : MethodName := ⟨RX7, "in", "(III)Z"⟩
abbrev cX7_invite : ByteArray := prog_9_method_4_code
def yX7_invite : MethodName := ⟨RX7, "invite", "(IIII)V"⟩
abbrev cX7_write : ByteArray := prog_9_method_5_code
def yX7_write : MethodName := ⟨RX7, "write", "(I)I"⟩
abbrev cX7_wipe : ByteArray := prog_9_method_6_code
def yX7_wipe : MethodName := ⟨RX7, "wipe", "()I"⟩
abbrev cX7_here : ByteArray := prog_9_method_7_code
def yX7_here : MethodName := ⟨RX7, "here", "()I"⟩
abbrev cX7_readNumber : ByteArray := prog_9_method_8_code
def yX7_readNumber : MethodName := ⟨RX7, "readNumber", "(III)V"⟩
abbrev cX7_readMark : ByteArray := prog_9_method_9_code
def yX7_readMark : MethodName := ⟨RX7, "readMark", "(I)V"⟩
abbrev cX7_readItem : ByteArray := prog_9_method_10_code
def yX7_readItem : MethodName := ⟨RX7, "readItem", "()V"⟩
abbrev cX7_fault : ByteArray := prog_9_method_11_code
def yX7_fault : MethodName := ⟨RX7, "fault", "()I"⟩
abbrev cX7_takeDraft : ByteArray := prog_9_method_12_code
def yX7_takeDraft : MethodName := ⟨RX7, "takeDraft", "()V"⟩
abbrev cX7_lay : ByteArray := prog_9_method_13_code
def yX7_lay : MethodName := ⟨RX7, "lay", "()I"⟩
abbrev cX7_isGuest : ByteArray := prog_9_method_14_code
def yX7_isGuest : MethodName := ⟨RX7, "isGuest", "(I)Z"⟩
abbrev cX7_takeNow : ByteArray := prog_9_method_15_code
def yX7_takeNow : MethodName := ⟨RX7, "takeNow", "()V"⟩
abbrev cX7_manyIn : ByteArray := prog_9_method_16_code
def yX7_manyIn : MethodName := ⟨RX7, "manyIn", "([II)I"⟩
abbrev cX7_isRightFor : ByteArray := prog_9_method_17_code
def yX7_isRightFor : MethodName := ⟨RX7, "isRightFor", "([III)Z"⟩
abbrev cX7_browner : ByteArray := prog_9_method_18_code
def yX7_browner : MethodName := ⟨RX7, "browner", "(II)I"⟩
abbrev cX7_moment : ByteArray := prog_9_method_19_code
def yX7_moment : MethodName := ⟨RX7, "moment", "([I)I"⟩
abbrev cX7_isFree : ByteArray := prog_9_method_20_code
def yX7_isFree : MethodName := ⟨RX7, "isFree", "([II)Z"⟩
abbrev cX7_put : ByteArray := prog_9_method_21_code
def yX7_put : MethodName := ⟨RX7, "put", "([III)V"⟩
abbrev cX7_hasEaten : ByteArray := prog_9_method_22_code
def yX7_hasEaten : MethodName := ⟨RX7, "hasEaten", "([II)Z"⟩
abbrev cX7_canTake : ByteArray := prog_9_method_23_code
def yX7_canTake : MethodName := ⟨RX7, "canTake", "([III)Z"⟩
abbrev cX7_eat : ByteArray := prog_9_method_24_code
def yX7_eat : MethodName := ⟨RX7, "eat", "([III)V"⟩
abbrev cX7_guest : ByteArray := prog_9_method_25_code
def yX7_guest : MethodName := ⟨RX7, "guest", "(II)I"⟩
abbrev cX7_slice : ByteArray := prog_9_method_26_code
def yX7_slice : MethodName := ⟨RX7, "slice", "(II)I"⟩
abbrev cX7_know : ByteArray := prog_9_method_27_code
def yX7_know : MethodName := ⟨RX7, "know", "()V"⟩
abbrev cX7_isLane : ByteArray := prog_9_method_28_code
def yX7_isLane : MethodName := ⟨RX7, "isLane", "(I)Z"⟩
abbrev cX7_isLoose : ByteArray := prog_9_method_29_code
def yX7_isLoose : MethodName := ⟨RX7, "isLoose", "(I)Z"⟩
abbrev cX7_putIn : ByteArray := prog_9_method_30_code
def yX7_putIn : MethodName := ⟨RX7, "putIn", "(II)I"⟩
abbrev cX7_pass : ByteArray := prog_9_method_31_code
def yX7_pass : MethodName := ⟨RX7, "pass", "(I)I"⟩
abbrev cX7_knob : ByteArray := prog_9_method_32_code
def yX7_knob : MethodName := ⟨RX7, "knob", "(I)I"⟩
abbrev cX7_take : ByteArray := prog_9_method_33_code
def yX7_take : MethodName := ⟨RX7, "take", "(II)I"⟩
abbrev cX7_undo : ByteArray := prog_9_method_34_code
def yX7_undo : MethodName := ⟨RX7, "undo", "()I"⟩
abbrev cX7_falls : ByteArray := prog_9_method_35_code
def yX7_falls : MethodName := ⟨RX7, "falls", "(I)I"⟩
abbrev cX7_goOn : ByteArray := prog_9_method_36_code
def yX7_goOn : MethodName := ⟨RX7, "goOn", "(I)V"⟩
abbrev cX7_willBe : ByteArray := prog_9_method_37_code
def yX7_willBe : MethodName := ⟨RX7, "willBe", "(I)I"⟩
abbrev cX7_contentOf : ByteArray := prog_9_method_38_code
def yX7_contentOf : MethodName := ⟨RX7, "contentOf", "([I)I"⟩
abbrev cX7_content : ByteArray := prog_9_method_39_code
def yX7_content : MethodName := ⟨RX7, "content", "()I"⟩
abbrev cX7_isRightBy : ByteArray := prog_9_method_40_code
def yX7_isRightBy : MethodName := ⟨RX7, "isRightBy", "(II)Z"⟩
abbrev cX7_knobFor : ByteArray := prog_9_method_41_code
def yX7_knobFor : MethodName := ⟨RX7, "knobFor", "(II)I"⟩
abbrev cX7_often : ByteArray := prog_9_method_42_code
def yX7_often : MethodName := ⟨RX7, "often", "(II)I"⟩
abbrev cX7_waits : ByteArray := prog_9_method_43_code
def yX7_waits : MethodName := ⟨RX7, "waits", "(II)I"⟩
abbrev cX7_rightBy : ByteArray := prog_9_method_44_code
def yX7_rightBy : MethodName := ⟨RX7, "rightBy", "(I)I"⟩
abbrev cX7_harm : ByteArray := prog_9_method_45_code
def yX7_harm : MethodName := ⟨RX7, "harm", "(I)I"⟩
abbrev cX7_isFor : ByteArray := prog_9_method_46_code
def yX7_isFor : MethodName := ⟨RX7, "isFor", "(II)Z"⟩
abbrev cX7_measure : ByteArray := prog_9_method_47_code
def yX7_measure : MethodName := ⟨RX7, "measure", "()V"⟩
abbrev cX7_giveAll : ByteArray := prog_9_method_48_code
def yX7_giveAll : MethodName := ⟨RX7, "giveAll", "()V"⟩
abbrev cX7_share : ByteArray := prog_9_method_49_code
def yX7_share : MethodName := ⟨RX7, "share", "(I)I"⟩
abbrev cX7_round : ByteArray := prog_9_method_50_code
def yX7_round : MethodName := ⟨RX7, "round", "()I"⟩
abbrev cX7_seen : ByteArray := prog_9_method_51_code
def yX7_seen : MethodName := ⟨RX7, "seen", "(IIII)I"⟩
abbrev cX7_forget : ByteArray := prog_9_method_52_code
def yX7_forget : MethodName := ⟨RX7, "forget", "()I"⟩
abbrev cX7_hot : ByteArray := prog_9_method_53_code
def yX7_hot : MethodName := ⟨RX7, "hot", "(I)I"⟩
abbrev cX7_part : ByteArray := prog_9_method_54_code
def yX7_part : MethodName := ⟨RX7, "part", "(III)I"⟩
abbrev cX7_left : ByteArray := prog_9_method_55_code
def yX7_left : MethodName := ⟨RX7, "left", "(III)I"⟩
abbrev cX7_takeRight : ByteArray := prog_9_method_56_code
def yX7_takeRight : MethodName := ⟨RX7, "takeRight", "(I)V"⟩
abbrev cX7_morning : ByteArray := prog_9_method_57_code
def yX7_morning : MethodName := ⟨RX7, "morning", "(III)I"⟩
abbrev cX7_keep : ByteArray := prog_9_method_58_code
def yX7_keep : MethodName := ⟨RX7, "keep", "()I"⟩
abbrev cX7_back : ByteArray := prog_9_method_59_code
def yX7_back : MethodName := ⟨RX7, "back", "()I"⟩
abbrev cX7_count : ByteArray := prog_9_method_60_code
def yX7_count : MethodName := ⟨RX7, "count", "(I)I"⟩
def RL : String := "ToastBeltLaw"
abbrev cL_law : ByteArray := code
def yL_law : MethodName := ⟨RL, "law", "([I)Z"⟩
abbrev vwCl : List vw_C := [(RX0, TX0, 9), (RX1, TX1, 3), (RX2, TX2, 8), (RX3, TX3, 6), (RX4, TX4, 5), (RX5, TX5, 4), (RX6, TX6, 11), (RX7, TX7, 26)]
end
section
theorem dX0_init_0 : decode cX0_init 0 = .ok (.aload_n 0, 1) := by decide +kernel
theorem dX0_init_1 : decode cX0_init 1 = .ok (.invokespecial 3, 3) := by decide +kernel
theorem dX0_init_4 : decode cX0_init 4 = .ok (.aload_n 0, 1) := by decide +kernel
theorem dX0_init_5 : decode cX0_init 5 = .ok (.bipush 9, 2) := by decide +kernel
theorem dX0_init_7 : decode cX0_init 7 = .ok (.newarray .int, 2) := by decide +kernel
theorem dX0_init_9 : decode cX0_init 9 = .ok (.putfield 9, 3) := by decide +kernel
theorem dX0_init_12 : decode cX0_init 12 = .ok (.aload_n 0, 1) := by decide +kernel
theorem dX0_init_13 : decode cX0_init 13 = .ok (.bipush 9, 2) := by decide +kernel
theorem dX0_init_15 : decode cX0_init 15 = .ok (.newarray .int, 2) := by decide +kernel
theorem dX0_init_17 : decode cX0_init 17 = .ok (.putfield 15, 3) := by decide +kernel
theorem dX0_init_20 : decode cX0_init 20 = .ok (.aload_n 0, 1) := by decide +kernel
theorem dX0_init_21 : decode cX0_init 21 = .ok (.bipush 9, 2) := by decide +kernel
theorem dX0_init_23 : decode cX0_init 23 = .ok (.newarray .int, 2) := by decide +kernel
theorem dX0_init_25 : decode cX0_init 25 = .ok (.putfield 18, 3) := by decide +kernel
theorem dX0_init_28 : decode cX0_init 28 = .ok (.aload_n 0, 1) := by decide +kernel
theorem dX0_init_29 : decode cX0_init 29 = .ok (.bipush 9, 2) := by decide +kernel
theorem dX0_init_31 : decode cX0_init 31 = .ok (.newarray .int, 2) := by decide +kernel
theorem dX0_init_33 : decode cX0_init 33 = .ok (.putfield 21, 3) := by decide +kernel
theorem dX0_init_36 : decode cX0_init 36 = .ok (.aload_n 0, 1) := by decide +kernel
theorem dX0_init_37 : decode cX0_init 37 = .ok (.bipush 9, 2) := by decide +kernel
theorem dX0_init_39 : decode cX0_init 39 = .ok (.newarray .int, 2) := by decide +kernel
theorem dX0_init_41 : decode cX0_init 41 = .ok (.putfield 24, 3) := by decide +kernel
theorem dX0_init_44 : decode cX0_init 44 = .ok (.aload_n 0, 1) := by decide +kernel
theorem dX0_init_45 : decode cX0_init 45 = .ok (.aload_n 1, 1) := by decide +kernel
theorem dX0_init_46 : decode cX0_init 46 = .ok (.putfield 27, 3) := by decide +kernel
theorem dX0_init_49 : decode cX0_init 49 = .ok (.return_, 1) := by decide +kernel
theorem dX0_begin_0 : decode cX0_begin 0 = .ok (.aload_n 0, 1) := by decide +kernel
theorem dX0_begin_1 : decode cX0_begin 1 = .ok (.aload_n 0, 1) := by decide +kernel
theorem dX0_begin_2 : decode cX0_begin 2 = .ok (.getfield 27, 3) := by decide +kernel
theorem dX0_begin_5 : decode cX0_begin 5 = .ok (.getfield 31, 3) := by decide +kernel
theorem dX0_begin_8 : decode cX0_begin 8 = .ok (.putfield 37, 3) := by decide +kernel
theorem dX0_begin_11 : decode cX0_begin 11 = .ok (.aload_n 0, 1) := by decide +kernel
theorem dX0_begin_12 : decode cX0_begin 12 = .ok (.aload_n 0, 1) := by decide +kernel
theorem dX0_begin_13 : decode cX0_begin 13 = .ok (.getfield 27, 3) := by decide +kernel
theorem dX0_begin_16 : decode cX0_begin 16 = .ok (.getfield 38, 3) := by decide +kernel
theorem dX0_begin_19 : decode cX0_begin 19 = .ok (.putfield 41, 3) := by decide +kernel
theorem dX0_begin_22 : decode cX0_begin 22 = .ok (.aload_n 0, 1) := by decide +kernel
theorem dX0_begin_23 : decode cX0_begin 23 = .ok (.iconst 0, 1) := by decide +kernel
theorem dX0_begin_24 : decode cX0_begin 24 = .ok (.putfield 42, 3) := by decide +kernel
theorem dX0_begin_27 : decode cX0_begin 27 = .ok (.iconst 0, 1) := by decide +kernel
theorem dX0_begin_28 : decode cX0_begin 28 = .ok (.istore_n 1, 1) := by decide +kernel
theorem dX0_begin_29 : decode cX0_begin 29 = .ok (.iload_n 1, 1) := by decide +kernel
theorem dX0_begin_30 : decode cX0_begin 30 = .ok (.bipush 9, 2) := by decide +kernel
theorem dX0_begin_32 : decode cX0_begin 32 = .ok (.if_icmp .ge 45, 3) := by decide +kernel
theorem dX0_begin_35 : decode cX0_begin 35 = .ok (.aload_n 0, 1) := by decide +kernel
theorem dX0_begin_36 : decode cX0_begin 36 = .ok (.getfield 9, 3) := by decide +kernel
theorem dX0_begin_39 : decode cX0_begin 39 = .ok (.iload_n 1, 1) := by decide +kernel
theorem dX0_begin_40 : decode cX0_begin 40 = .ok (.iconst 0, 1) := by decide +kernel
theorem dX0_begin_41 : decode cX0_begin 41 = .ok (.iastore, 1) := by decide +kernel
theorem dX0_begin_42 : decode cX0_begin 42 = .ok (.aload_n 0, 1) := by decide +kernel
theorem dX0_begin_43 : decode cX0_begin 43 = .ok (.getfield 15, 3) := by decide +kernel
theorem dX0_begin_46 : decode cX0_begin 46 = .ok (.iload_n 1, 1) := by decide +kernel
theorem dX0_begin_47 : decode cX0_begin 47 = .ok (.iconst 0, 1) := by decide +kernel
theorem dX0_begin_48 : decode cX0_begin 48 = .ok (.iastore, 1) := by decide +kernel
theorem dX0_begin_49 : decode cX0_begin 49 = .ok (.aload_n 0, 1) := by decide +kernel
theorem dX0_begin_50 : decode cX0_begin 50 = .ok (.getfield 18, 3) := by decide +kernel
theorem dX0_begin_53 : decode cX0_begin 53 = .ok (.iload_n 1, 1) := by decide +kernel
theorem dX0_begin_54 : decode cX0_begin 54 = .ok (.iconst 0, 1) := by decide +kernel
theorem dX0_begin_55 : decode cX0_begin 55 = .ok (.iastore, 1) := by decide +kernel
theorem dX0_begin_56 : decode cX0_begin 56 = .ok (.aload_n 0, 1) := by decide +kernel
theorem dX0_begin_57 : decode cX0_begin 57 = .ok (.getfield 21, 3) := by decide +kernel
theorem dX0_begin_60 : decode cX0_begin 60 = .ok (.iload_n 1, 1) := by decide +kernel
theorem dX0_begin_61 : decode cX0_begin 61 = .ok (.iconst 0, 1) := by decide +kernel
theorem dX0_begin_62 : decode cX0_begin 62 = .ok (.iastore, 1) := by decide +kernel
theorem dX0_begin_63 : decode cX0_begin 63 = .ok (.aload_n 0, 1) := by decide +kernel
theorem dX0_begin_64 : decode cX0_begin 64 = .ok (.getfield 24, 3) := by decide +kernel
theorem dX0_begin_67 : decode cX0_begin 67 = .ok (.iload_n 1, 1) := by decide +kernel
theorem dX0_begin_68 : decode cX0_begin 68 = .ok (.bipush (-4), 2) := by decide +kernel
theorem dX0_begin_70 : decode cX0_begin 70 = .ok (.iastore, 1) := by decide +kernel
theorem dX0_begin_71 : decode cX0_begin 71 = .ok (.iinc 1 1, 3) := by decide +kernel
theorem dX0_begin_74 : decode cX0_begin 74 = .ok (.goto (-45), 3) := by decide +kernel
theorem dX0_begin_77 : decode cX0_begin 77 = .ok (.return_, 1) := by decide +kernel
theorem dX0_copyFrom_0 : decode cX0_copyFrom 0 = .ok (.aload_n 0, 1) := by decide +kernel
theorem dX0_copyFrom_1 : decode cX0_copyFrom 1 = .ok (.aload_n 1, 1) := by decide +kernel
theorem dX0_copyFrom_2 : decode cX0_copyFrom 2 = .ok (.getfield 37, 3) := by decide +kernel
theorem dX0_copyFrom_5 : decode cX0_copyFrom 5 = .ok (.putfield 37, 3) := by decide +kernel
theorem dX0_copyFrom_8 : decode cX0_copyFrom 8 = .ok (.aload_n 0, 1) := by decide +kernel
theorem dX0_copyFrom_9 : decode cX0_copyFrom 9 = .ok (.aload_n 1, 1) := by decide +kernel
theorem dX0_copyFrom_10 : decode cX0_copyFrom 10 = .ok (.getfield 41, 3) := by decide +kernel
theorem dX0_copyFrom_13 : decode cX0_copyFrom 13 = .ok (.putfield 41, 3) := by decide +kernel
theorem dX0_copyFrom_16 : decode cX0_copyFrom 16 = .ok (.aload_n 0, 1) := by decide +kernel
theorem dX0_copyFrom_17 : decode cX0_copyFrom 17 = .ok (.aload_n 1, 1) := by decide +kernel
theorem dX0_copyFrom_18 : decode cX0_copyFrom 18 = .ok (.getfield 42, 3) := by decide +kernel
theorem dX0_copyFrom_21 : decode cX0_copyFrom 21 = .ok (.putfield 42, 3) := by decide +kernel
theorem dX0_copyFrom_24 : decode cX0_copyFrom 24 = .ok (.aload_n 1, 1) := by decide +kernel
theorem dX0_copyFrom_25 : decode cX0_copyFrom 25 = .ok (.getfield 9, 3) := by decide +kernel
theorem dX0_copyFrom_28 : decode cX0_copyFrom 28 = .ok (.iconst 0, 1) := by decide +kernel
theorem dX0_copyFrom_29 : decode cX0_copyFrom 29 = .ok (.aload_n 0, 1) := by decide +kernel
theorem dX0_copyFrom_30 : decode cX0_copyFrom 30 = .ok (.getfield 9, 3) := by decide +kernel
theorem dX0_copyFrom_33 : decode cX0_copyFrom 33 = .ok (.iconst 0, 1) := by decide +kernel
theorem dX0_copyFrom_34 : decode cX0_copyFrom 34 = .ok (.bipush 9, 2) := by decide +kernel
theorem dX0_copyFrom_36 : decode cX0_copyFrom 36 = .ok (.invokestatic 45, 3) := by decide +kernel
theorem dX0_copyFrom_39 : decode cX0_copyFrom 39 = .ok (.aload_n 1, 1) := by decide +kernel
theorem dX0_copyFrom_40 : decode cX0_copyFrom 40 = .ok (.getfield 15, 3) := by decide +kernel
theorem dX0_copyFrom_43 : decode cX0_copyFrom 43 = .ok (.iconst 0, 1) := by decide +kernel
theorem dX0_copyFrom_44 : decode cX0_copyFrom 44 = .ok (.aload_n 0, 1) := by decide +kernel
theorem dX0_copyFrom_45 : decode cX0_copyFrom 45 = .ok (.getfield 15, 3) := by decide +kernel
theorem dX0_copyFrom_48 : decode cX0_copyFrom 48 = .ok (.iconst 0, 1) := by decide +kernel
theorem dX0_copyFrom_49 : decode cX0_copyFrom 49 = .ok (.bipush 9, 2) := by decide +kernel
theorem dX0_copyFrom_51 : decode cX0_copyFrom 51 = .ok (.invokestatic 45, 3) := by decide +kernel
theorem dX0_copyFrom_54 : decode cX0_copyFrom 54 = .ok (.aload_n 1, 1) := by decide +kernel
theorem dX0_copyFrom_55 : decode cX0_copyFrom 55 = .ok (.getfield 18, 3) := by decide +kernel
theorem dX0_copyFrom_58 : decode cX0_copyFrom 58 = .ok (.iconst 0, 1) := by decide +kernel
theorem dX0_copyFrom_59 : decode cX0_copyFrom 59 = .ok (.aload_n 0, 1) := by decide +kernel
theorem dX0_copyFrom_60 : decode cX0_copyFrom 60 = .ok (.getfield 18, 3) := by decide +kernel
theorem dX0_copyFrom_63 : decode cX0_copyFrom 63 = .ok (.iconst 0, 1) := by decide +kernel
theorem dX0_copyFrom_64 : decode cX0_copyFrom 64 = .ok (.bipush 9, 2) := by decide +kernel
theorem dX0_copyFrom_66 : decode cX0_copyFrom 66 = .ok (.invokestatic 45, 3) := by decide +kernel
theorem dX0_copyFrom_69 : decode cX0_copyFrom 69 = .ok (.aload_n 1, 1) := by decide +kernel
theorem dX0_copyFrom_70 : decode cX0_copyFrom 70 = .ok (.getfield 21, 3) := by decide +kernel
theorem dX0_copyFrom_73 : decode cX0_copyFrom 73 = .ok (.iconst 0, 1) := by decide +kernel
theorem dX0_copyFrom_74 : decode cX0_copyFrom 74 = .ok (.aload_n 0, 1) := by decide +kernel
theorem dX0_copyFrom_75 : decode cX0_copyFrom 75 = .ok (.getfield 21, 3) := by decide +kernel
theorem dX0_copyFrom_78 : decode cX0_copyFrom 78 = .ok (.iconst 0, 1) := by decide +kernel
theorem dX0_copyFrom_79 : decode cX0_copyFrom 79 = .ok (.bipush 9, 2) := by decide +kernel
theorem dX0_copyFrom_81 : decode cX0_copyFrom 81 = .ok (.invokestatic 45, 3) := by decide +kernel
theorem dX0_copyFrom_84 : decode cX0_copyFrom 84 = .ok (.aload_n 1, 1) := by decide +kernel
theorem dX0_copyFrom_85 : decode cX0_copyFrom 85 = .ok (.getfield 24, 3) := by decide +kernel
theorem dX0_copyFrom_88 : decode cX0_copyFrom 88 = .ok (.iconst 0, 1) := by decide +kernel
theorem dX0_copyFrom_89 : decode cX0_copyFrom 89 = .ok (.aload_n 0, 1) := by decide +kernel
theorem dX0_copyFrom_90 : decode cX0_copyFrom 90 = .ok (.getfield 24, 3) := by decide +kernel
theorem dX0_copyFrom_93 : decode cX0_copyFrom 93 = .ok (.iconst 0, 1) := by decide +kernel
theorem dX0_copyFrom_94 : decode cX0_copyFrom 94 = .ok (.bipush 9, 2) := by decide +kernel
theorem dX0_copyFrom_96 : decode cX0_copyFrom 96 = .ok (.invokestatic 45, 3) := by decide +kernel
theorem dX0_copyFrom_99 : decode cX0_copyFrom 99 = .ok (.return_, 1) := by decide +kernel
theorem dX0_howMany_0 : decode cX0_howMany 0 = .ok (.iconst 0, 1) := by decide +kernel
theorem dX0_howMany_1 : decode cX0_howMany 1 = .ok (.istore_n 2, 1) := by decide +kernel
theorem dX0_howMany_2 : decode cX0_howMany 2 = .ok (.iconst 0, 1) := by decide +kernel
theorem dX0_howMany_3 : decode cX0_howMany 3 = .ok (.istore_n 3, 1) := by decide +kernel
theorem dX0_howMany_4 : decode cX0_howMany 4 = .ok (.iload_n 3, 1) := by decide +kernel
theorem dX0_howMany_5 : decode cX0_howMany 5 = .ok (.aload_n 0, 1) := by decide +kernel
theorem dX0_howMany_6 : decode cX0_howMany 6 = .ok (.getfield 27, 3) := by decide +kernel
theorem dX0_howMany_9 : decode cX0_howMany 9 = .ok (.getfield 51, 3) := by decide +kernel
theorem dX0_howMany_12 : decode cX0_howMany 12 = .ok (.if_icmp .ge 22, 3) := by decide +kernel
theorem dX0_howMany_15 : decode cX0_howMany 15 = .ok (.aload_n 0, 1) := by decide +kernel
theorem dX0_howMany_16 : decode cX0_howMany 16 = .ok (.getfield 9, 3) := by decide +kernel
theorem dX0_howMany_19 : decode cX0_howMany 19 = .ok (.iload_n 3, 1) := by decide +kernel
theorem dX0_howMany_20 : decode cX0_howMany 20 = .ok (.iaload, 1) := by decide +kernel
theorem dX0_howMany_21 : decode cX0_howMany 21 = .ok (.iload_n 1, 1) := by decide +kernel
theorem dX0_howMany_22 : decode cX0_howMany 22 = .ok (.if_icmp .ne 6, 3) := by decide +kernel
theorem dX0_howMany_25 : decode cX0_howMany 25 = .ok (.iinc 2 1, 3) := by decide +kernel
theorem dX0_howMany_28 : decode cX0_howMany 28 = .ok (.iinc 3 1, 3) := by decide +kernel
theorem dX0_howMany_31 : decode cX0_howMany 31 = .ok (.goto (-27), 3) := by decide +kernel
theorem dX0_howMany_34 : decode cX0_howMany 34 = .ok (.iload_n 2, 1) := by decide +kernel
theorem dX0_howMany_35 : decode cX0_howMany 35 = .ok (.ireturn, 1) := by decide +kernel
theorem dX0_alikeOnTray_0 : decode cX0_alikeOnTray 0 = .ok (.iconst 0, 1) := by decide +kernel
theorem dX0_alikeOnTray_1 : decode cX0_alikeOnTray 1 = .ok (.istore_n 2, 1) := by decide +kernel
theorem dX0_alikeOnTray_2 : decode cX0_alikeOnTray 2 = .ok (.iconst 0, 1) := by decide +kernel
theorem dX0_alikeOnTray_3 : decode cX0_alikeOnTray 3 = .ok (.istore_n 3, 1) := by decide +kernel
theorem dX0_alikeOnTray_4 : decode cX0_alikeOnTray 4 = .ok (.iload_n 3, 1) := by decide +kernel
theorem dX0_alikeOnTray_5 : decode cX0_alikeOnTray 5 = .ok (.aload_n 0, 1) := by decide +kernel
theorem dX0_alikeOnTray_6 : decode cX0_alikeOnTray 6 = .ok (.getfield 27, 3) := by decide +kernel
theorem dX0_alikeOnTray_9 : decode cX0_alikeOnTray 9 = .ok (.getfield 51, 3) := by decide +kernel
theorem dX0_alikeOnTray_12 : decode cX0_alikeOnTray 12 = .ok (.if_icmp .ge 35, 3) := by decide +kernel
theorem dX0_alikeOnTray_15 : decode cX0_alikeOnTray 15 = .ok (.aload_n 0, 1) := by decide +kernel
theorem dX0_alikeOnTray_16 : decode cX0_alikeOnTray 16 = .ok (.getfield 9, 3) := by decide +kernel
theorem dX0_alikeOnTray_19 : decode cX0_alikeOnTray 19 = .ok (.iload_n 3, 1) := by decide +kernel
theorem dX0_alikeOnTray_20 : decode cX0_alikeOnTray 20 = .ok (.iaload, 1) := by decide +kernel
theorem dX0_alikeOnTray_21 : decode cX0_alikeOnTray 21 = .ok (.iconst 2, 1) := by decide +kernel
theorem dX0_alikeOnTray_22 : decode cX0_alikeOnTray 22 = .ok (.if_icmp .ne 19, 3) := by decide +kernel
theorem dX0_alikeOnTray_25 : decode cX0_alikeOnTray 25 = .ok (.aload_n 0, 1) := by decide +kernel
theorem dX0_alikeOnTray_26 : decode cX0_alikeOnTray 26 = .ok (.getfield 27, 3) := by decide +kernel
theorem dX0_alikeOnTray_29 : decode cX0_alikeOnTray 29 = .ok (.getfield 54, 3) := by decide +kernel
theorem dX0_alikeOnTray_32 : decode cX0_alikeOnTray 32 = .ok (.iload_n 3, 1) := by decide +kernel
theorem dX0_alikeOnTray_33 : decode cX0_alikeOnTray 33 = .ok (.iaload, 1) := by decide +kernel
theorem dX0_alikeOnTray_34 : decode cX0_alikeOnTray 34 = .ok (.iload_n 1, 1) := by decide +kernel
theorem dX0_alikeOnTray_35 : decode cX0_alikeOnTray 35 = .ok (.if_icmp .ne 6, 3) := by decide +kernel
theorem dX0_alikeOnTray_38 : decode cX0_alikeOnTray 38 = .ok (.iinc 2 1, 3) := by decide +kernel
theorem dX0_alikeOnTray_41 : decode cX0_alikeOnTray 41 = .ok (.iinc 3 1, 3) := by decide +kernel
theorem dX0_alikeOnTray_44 : decode cX0_alikeOnTray 44 = .ok (.goto (-40), 3) := by decide +kernel
theorem dX0_alikeOnTray_47 : decode cX0_alikeOnTray 47 = .ok (.iload_n 2, 1) := by decide +kernel
theorem dX0_alikeOnTray_48 : decode cX0_alikeOnTray 48 = .ok (.ireturn, 1) := by decide +kernel
theorem dX0_eatenBy_0 : decode cX0_eatenBy 0 = .ok (.iconst 0, 1) := by decide +kernel
theorem dX0_eatenBy_1 : decode cX0_eatenBy 1 = .ok (.istore_n 2, 1) := by decide +kernel
theorem dX0_eatenBy_2 : decode cX0_eatenBy 2 = .ok (.iload_n 2, 1) := by decide +kernel
theorem dX0_eatenBy_3 : decode cX0_eatenBy 3 = .ok (.aload_n 0, 1) := by decide +kernel
theorem dX0_eatenBy_4 : decode cX0_eatenBy 4 = .ok (.getfield 27, 3) := by decide +kernel
theorem dX0_eatenBy_7 : decode cX0_eatenBy 7 = .ok (.getfield 51, 3) := by decide +kernel
theorem dX0_eatenBy_10 : decode cX0_eatenBy 10 = .ok (.if_icmp .ge 21, 3) := by decide +kernel
theorem dX0_eatenBy_13 : decode cX0_eatenBy 13 = .ok (.aload_n 0, 1) := by decide +kernel
theorem dX0_eatenBy_14 : decode cX0_eatenBy 14 = .ok (.getfield 24, 3) := by decide +kernel
theorem dX0_eatenBy_17 : decode cX0_eatenBy 17 = .ok (.iload_n 2, 1) := by decide +kernel
theorem dX0_eatenBy_18 : decode cX0_eatenBy 18 = .ok (.iaload, 1) := by decide +kernel
theorem dX0_eatenBy_19 : decode cX0_eatenBy 19 = .ok (.iload_n 1, 1) := by decide +kernel
theorem dX0_eatenBy_20 : decode cX0_eatenBy 20 = .ok (.if_icmp .ne 5, 3) := by decide +kernel
theorem dX0_eatenBy_23 : decode cX0_eatenBy 23 = .ok (.iload_n 2, 1) := by decide +kernel
theorem dX0_eatenBy_24 : decode cX0_eatenBy 24 = .ok (.ireturn, 1) := by decide +kernel
theorem dX0_eatenBy_25 : decode cX0_eatenBy 25 = .ok (.iinc 2 1, 3) := by decide +kernel
theorem dX0_eatenBy_28 : decode cX0_eatenBy 28 = .ok (.goto (-26), 3) := by decide +kernel
theorem dX0_eatenBy_31 : decode cX0_eatenBy 31 = .ok (.bipush (-4), 2) := by decide +kernel
theorem dX0_eatenBy_33 : decode cX0_eatenBy 33 = .ok (.ireturn, 1) := by decide +kernel
theorem dX0_isRight_0 : decode cX0_isRight 0 = .ok (.aload_n 0, 1) := by decide +kernel
theorem dX0_isRight_1 : decode cX0_isRight 1 = .ok (.getfield 21, 3) := by decide +kernel
theorem dX0_isRight_4 : decode cX0_isRight 4 = .ok (.iload_n 2, 1) := by decide +kernel
theorem dX0_isRight_5 : decode cX0_isRight 5 = .ok (.iaload, 1) := by decide +kernel
theorem dX0_isRight_6 : decode cX0_isRight 6 = .ok (.aload_n 0, 1) := by decide +kernel
theorem dX0_isRight_7 : decode cX0_isRight 7 = .ok (.getfield 27, 3) := by decide +kernel
theorem dX0_isRight_10 : decode cX0_isRight 10 = .ok (.getfield 57, 3) := by decide +kernel
theorem dX0_isRight_13 : decode cX0_isRight 13 = .ok (.iload_n 1, 1) := by decide +kernel
theorem dX0_isRight_14 : decode cX0_isRight 14 = .ok (.iaload, 1) := by decide +kernel
theorem dX0_isRight_15 : decode cX0_isRight 15 = .ok (.aload_n 0, 1) := by decide +kernel
theorem dX0_isRight_16 : decode cX0_isRight 16 = .ok (.getfield 27, 3) := by decide +kernel
theorem dX0_isRight_19 : decode cX0_isRight 19 = .ok (.getfield 60, 3) := by decide +kernel
theorem dX0_isRight_22 : decode cX0_isRight 22 = .ok (.iload_n 1, 1) := by decide +kernel
theorem dX0_isRight_23 : decode cX0_isRight 23 = .ok (.iaload, 1) := by decide +kernel
theorem dX0_isRight_24 : decode cX0_isRight 24 = .ok (.invokestatic 63, 3) := by decide +kernel
theorem dX0_isRight_27 : decode cX0_isRight 27 = .ok (.ireturn, 1) := by decide +kernel
theorem dX0_canGoIn_0 : decode cX0_canGoIn 0 = .ok (.aload_n 0, 1) := by decide +kernel
theorem dX0_canGoIn_1 : decode cX0_canGoIn 1 = .ok (.getfield 9, 3) := by decide +kernel
theorem dX0_canGoIn_4 : decode cX0_canGoIn 4 = .ok (.iload_n 1, 1) := by decide +kernel
theorem dX0_canGoIn_5 : decode cX0_canGoIn 5 = .ok (.iaload, 1) := by decide +kernel
theorem dX0_canGoIn_6 : decode cX0_canGoIn 6 = .ok (.ifCond .eq 13, 3) := by decide +kernel
theorem dX0_canGoIn_9 : decode cX0_canGoIn 9 = .ok (.aload_n 0, 1) := by decide +kernel
theorem dX0_canGoIn_10 : decode cX0_canGoIn 10 = .ok (.getfield 9, 3) := by decide +kernel
theorem dX0_canGoIn_13 : decode cX0_canGoIn 13 = .ok (.iload_n 1, 1) := by decide +kernel
theorem dX0_canGoIn_14 : decode cX0_canGoIn 14 = .ok (.iaload, 1) := by decide +kernel
theorem dX0_canGoIn_15 : decode cX0_canGoIn 15 = .ok (.iconst 2, 1) := by decide +kernel
theorem dX0_canGoIn_16 : decode cX0_canGoIn 16 = .ok (.if_icmp .ne 7, 3) := by decide +kernel
theorem dX0_canGoIn_19 : decode cX0_canGoIn 19 = .ok (.iconst 1, 1) := by decide +kernel
theorem dX0_canGoIn_20 : decode cX0_canGoIn 20 = .ok (.goto 4, 3) := by decide +kernel
theorem dX0_canGoIn_23 : decode cX0_canGoIn 23 = .ok (.iconst 0, 1) := by decide +kernel
theorem dX0_canGoIn_24 : decode cX0_canGoIn 24 = .ok (.ireturn, 1) := by decide +kernel
theorem dX0_isFreeAtStart_0 : decode cX0_isFreeAtStart 0 = .ok (.iconst 0, 1) := by decide +kernel
theorem dX0_isFreeAtStart_1 : decode cX0_isFreeAtStart 1 = .ok (.istore_n 2, 1) := by decide +kernel
theorem dX0_isFreeAtStart_2 : decode cX0_isFreeAtStart 2 = .ok (.iload_n 2, 1) := by decide +kernel
theorem dX0_isFreeAtStart_3 : decode cX0_isFreeAtStart 3 = .ok (.aload_n 0, 1) := by decide +kernel
theorem dX0_isFreeAtStart_4 : decode cX0_isFreeAtStart 4 = .ok (.getfield 27, 3) := by decide +kernel
theorem dX0_isFreeAtStart_7 : decode cX0_isFreeAtStart 7 = .ok (.getfield 51, 3) := by decide +kernel
theorem dX0_isFreeAtStart_10 : decode cX0_isFreeAtStart 10 = .ok (.if_icmp .ge 40, 3) := by decide +kernel
theorem dX0_isFreeAtStart_13 : decode cX0_isFreeAtStart 13 = .ok (.aload_n 0, 1) := by decide +kernel
theorem dX0_isFreeAtStart_14 : decode cX0_isFreeAtStart 14 = .ok (.getfield 9, 3) := by decide +kernel
theorem dX0_isFreeAtStart_17 : decode cX0_isFreeAtStart 17 = .ok (.iload_n 2, 1) := by decide +kernel
theorem dX0_isFreeAtStart_18 : decode cX0_isFreeAtStart 18 = .ok (.iaload, 1) := by decide +kernel
theorem dX0_isFreeAtStart_19 : decode cX0_isFreeAtStart 19 = .ok (.iconst 1, 1) := by decide +kernel
theorem dX0_isFreeAtStart_20 : decode cX0_isFreeAtStart 20 = .ok (.if_icmp .ne 24, 3) := by decide +kernel
theorem dX0_isFreeAtStart_23 : decode cX0_isFreeAtStart 23 = .ok (.aload_n 0, 1) := by decide +kernel
theorem dX0_isFreeAtStart_24 : decode cX0_isFreeAtStart 24 = .ok (.getfield 15, 3) := by decide +kernel
theorem dX0_isFreeAtStart_27 : decode cX0_isFreeAtStart 27 = .ok (.iload_n 2, 1) := by decide +kernel
theorem dX0_isFreeAtStart_28 : decode cX0_isFreeAtStart 28 = .ok (.iaload, 1) := by decide +kernel
theorem dX0_isFreeAtStart_29 : decode cX0_isFreeAtStart 29 = .ok (.iload_n 1, 1) := by decide +kernel
theorem dX0_isFreeAtStart_30 : decode cX0_isFreeAtStart 30 = .ok (.if_icmp .ne 14, 3) := by decide +kernel
theorem dX0_isFreeAtStart_33 : decode cX0_isFreeAtStart 33 = .ok (.aload_n 0, 1) := by decide +kernel
theorem dX0_isFreeAtStart_34 : decode cX0_isFreeAtStart 34 = .ok (.getfield 18, 3) := by decide +kernel
theorem dX0_isFreeAtStart_37 : decode cX0_isFreeAtStart 37 = .ok (.iload_n 2, 1) := by decide +kernel
theorem dX0_isFreeAtStart_38 : decode cX0_isFreeAtStart 38 = .ok (.iaload, 1) := by decide +kernel
theorem dX0_isFreeAtStart_39 : decode cX0_isFreeAtStart 39 = .ok (.ifCond .ne 5, 3) := by decide +kernel
theorem dX0_isFreeAtStart_42 : decode cX0_isFreeAtStart 42 = .ok (.iconst 0, 1) := by decide +kernel
theorem dX0_isFreeAtStart_43 : decode cX0_isFreeAtStart 43 = .ok (.ireturn, 1) := by decide +kernel
theorem dX0_isFreeAtStart_44 : decode cX0_isFreeAtStart 44 = .ok (.iinc 2 1, 3) := by decide +kernel
theorem dX0_isFreeAtStart_47 : decode cX0_isFreeAtStart 47 = .ok (.goto (-45), 3) := by decide +kernel
theorem dX0_isFreeAtStart_50 : decode cX0_isFreeAtStart 50 = .ok (.iconst 1, 1) := by decide +kernel
theorem dX0_isFreeAtStart_51 : decode cX0_isFreeAtStart 51 = .ok (.ireturn, 1) := by decide +kernel
theorem dX0_setAtStart_0 : decode cX0_setAtStart 0 = .ok (.aload_n 0, 1) := by decide +kernel
theorem dX0_setAtStart_1 : decode cX0_setAtStart 1 = .ok (.getfield 9, 3) := by decide +kernel
theorem dX0_setAtStart_4 : decode cX0_setAtStart 4 = .ok (.iload_n 1, 1) := by decide +kernel
theorem dX0_setAtStart_5 : decode cX0_setAtStart 5 = .ok (.iconst 1, 1) := by decide +kernel
theorem dX0_setAtStart_6 : decode cX0_setAtStart 6 = .ok (.iastore, 1) := by decide +kernel
theorem dX0_setAtStart_7 : decode cX0_setAtStart 7 = .ok (.aload_n 0, 1) := by decide +kernel
theorem dX0_setAtStart_8 : decode cX0_setAtStart 8 = .ok (.getfield 15, 3) := by decide +kernel
theorem dX0_setAtStart_11 : decode cX0_setAtStart 11 = .ok (.iload_n 1, 1) := by decide +kernel
theorem dX0_setAtStart_12 : decode cX0_setAtStart 12 = .ok (.iload_n 2, 1) := by decide +kernel
theorem dX0_setAtStart_13 : decode cX0_setAtStart 13 = .ok (.iastore, 1) := by decide +kernel
theorem dX0_setAtStart_14 : decode cX0_setAtStart 14 = .ok (.aload_n 0, 1) := by decide +kernel
theorem dX0_setAtStart_15 : decode cX0_setAtStart 15 = .ok (.getfield 18, 3) := by decide +kernel
theorem dX0_setAtStart_18 : decode cX0_setAtStart 18 = .ok (.iload_n 1, 1) := by decide +kernel
theorem dX0_setAtStart_19 : decode cX0_setAtStart 19 = .ok (.iconst 0, 1) := by decide +kernel
theorem dX0_setAtStart_20 : decode cX0_setAtStart 20 = .ok (.iastore, 1) := by decide +kernel
theorem dX0_setAtStart_21 : decode cX0_setAtStart 21 = .ok (.return_, 1) := by decide +kernel
theorem dX0_mayEat_0 : decode cX0_mayEat 0 = .ok (.aload_n 0, 1) := by decide +kernel
theorem dX0_mayEat_1 : decode cX0_mayEat 1 = .ok (.getfield 9, 3) := by decide +kernel
theorem dX0_mayEat_4 : decode cX0_mayEat 4 = .ok (.iload_n 2, 1) := by decide +kernel
theorem dX0_mayEat_5 : decode cX0_mayEat 5 = .ok (.iaload, 1) := by decide +kernel
theorem dX0_mayEat_6 : decode cX0_mayEat 6 = .ok (.iconst 2, 1) := by decide +kernel
theorem dX0_mayEat_7 : decode cX0_mayEat 7 = .ok (.if_icmp .ne 38, 3) := by decide +kernel
theorem dX0_mayEat_10 : decode cX0_mayEat 10 = .ok (.aload_n 0, 1) := by decide +kernel
theorem dX0_mayEat_11 : decode cX0_mayEat 11 = .ok (.getfield 27, 3) := by decide +kernel
theorem dX0_mayEat_14 : decode cX0_mayEat 14 = .ok (.getfield 54, 3) := by decide +kernel
theorem dX0_mayEat_17 : decode cX0_mayEat 17 = .ok (.iload_n 2, 1) := by decide +kernel
theorem dX0_mayEat_18 : decode cX0_mayEat 18 = .ok (.iaload, 1) := by decide +kernel
theorem dX0_mayEat_19 : decode cX0_mayEat 19 = .ok (.aload_n 0, 1) := by decide +kernel
theorem dX0_mayEat_20 : decode cX0_mayEat 20 = .ok (.getfield 27, 3) := by decide +kernel
theorem dX0_mayEat_23 : decode cX0_mayEat 23 = .ok (.getfield 54, 3) := by decide +kernel
theorem dX0_mayEat_26 : decode cX0_mayEat 26 = .ok (.iload_n 1, 1) := by decide +kernel
theorem dX0_mayEat_27 : decode cX0_mayEat 27 = .ok (.iaload, 1) := by decide +kernel
theorem dX0_mayEat_28 : decode cX0_mayEat 28 = .ok (.if_icmp .ne 17, 3) := by decide +kernel
theorem dX0_mayEat_31 : decode cX0_mayEat 31 = .ok (.aload_n 0, 1) := by decide +kernel
theorem dX0_mayEat_32 : decode cX0_mayEat 32 = .ok (.iload_n 1, 1) := by decide +kernel
theorem dX0_mayEat_33 : decode cX0_mayEat 33 = .ok (.invokevirtual 67, 3) := by decide +kernel
theorem dX0_mayEat_36 : decode cX0_mayEat 36 = .ok (.bipush (-4), 2) := by decide +kernel
theorem dX0_mayEat_38 : decode cX0_mayEat 38 = .ok (.if_icmp .ne 7, 3) := by decide +kernel
theorem dX0_mayEat_41 : decode cX0_mayEat 41 = .ok (.iconst 1, 1) := by decide +kernel
theorem dX0_mayEat_42 : decode cX0_mayEat 42 = .ok (.goto 4, 3) := by decide +kernel
theorem dX0_mayEat_45 : decode cX0_mayEat 45 = .ok (.iconst 0, 1) := by decide +kernel
theorem dX0_mayEat_46 : decode cX0_mayEat 46 = .ok (.ireturn, 1) := by decide +kernel
theorem dX0_eat_0 : decode cX0_eat 0 = .ok (.aload_n 0, 1) := by decide +kernel
theorem dX0_eat_1 : decode cX0_eat 1 = .ok (.getfield 9, 3) := by decide +kernel
theorem dX0_eat_4 : decode cX0_eat 4 = .ok (.iload_n 2, 1) := by decide +kernel
theorem dX0_eat_5 : decode cX0_eat 5 = .ok (.iconst 3, 1) := by decide +kernel
theorem dX0_eat_6 : decode cX0_eat 6 = .ok (.iastore, 1) := by decide +kernel
theorem dX0_eat_7 : decode cX0_eat 7 = .ok (.aload_n 0, 1) := by decide +kernel
theorem dX0_eat_8 : decode cX0_eat 8 = .ok (.getfield 24, 3) := by decide +kernel
theorem dX0_eat_11 : decode cX0_eat 11 = .ok (.iload_n 2, 1) := by decide +kernel
theorem dX0_eat_12 : decode cX0_eat 12 = .ok (.iload_n 1, 1) := by decide +kernel
theorem dX0_eat_13 : decode cX0_eat 13 = .ok (.iastore, 1) := by decide +kernel
theorem dX0_eat_14 : decode cX0_eat 14 = .ok (.return_, 1) := by decide +kernel
theorem dX0_goOn_0 : decode cX0_goOn 0 = .ok (.aload_n 0, 1) := by decide +kernel
theorem dX0_goOn_1 : decode cX0_goOn 1 = .ok (.iconst 1, 1) := by decide +kernel
theorem dX0_goOn_2 : decode cX0_goOn 2 = .ok (.invokevirtual 71, 3) := by decide +kernel
theorem dX0_goOn_5 : decode cX0_goOn 5 = .ok (.istore_n 1, 1) := by decide +kernel
theorem dX0_goOn_6 : decode cX0_goOn 6 = .ok (.iconst 0, 1) := by decide +kernel
theorem dX0_goOn_7 : decode cX0_goOn 7 = .ok (.istore_n 2, 1) := by decide +kernel
theorem dX0_goOn_8 : decode cX0_goOn 8 = .ok (.iload_n 2, 1) := by decide +kernel
theorem dX0_goOn_9 : decode cX0_goOn 9 = .ok (.aload_n 0, 1) := by decide +kernel
theorem dX0_goOn_10 : decode cX0_goOn 10 = .ok (.getfield 27, 3) := by decide +kernel
theorem dX0_goOn_13 : decode cX0_goOn 13 = .ok (.getfield 51, 3) := by decide +kernel
theorem dX0_goOn_16 : decode cX0_goOn 16 = .ok (.if_icmp .ge 24, 3) := by decide +kernel
theorem dX0_goOn_19 : decode cX0_goOn 19 = .ok (.aload_n 0, 1) := by decide +kernel
theorem dX0_goOn_20 : decode cX0_goOn 20 = .ok (.getfield 9, 3) := by decide +kernel
theorem dX0_goOn_23 : decode cX0_goOn 23 = .ok (.iload_n 2, 1) := by decide +kernel
theorem dX0_goOn_24 : decode cX0_goOn 24 = .ok (.iaload, 1) := by decide +kernel
theorem dX0_goOn_25 : decode cX0_goOn 25 = .ok (.iconst 1, 1) := by decide +kernel
theorem dX0_goOn_26 : decode cX0_goOn 26 = .ok (.if_icmp .ne 8, 3) := by decide +kernel
theorem dX0_goOn_29 : decode cX0_goOn 29 = .ok (.aload_n 0, 1) := by decide +kernel
theorem dX0_goOn_30 : decode cX0_goOn 30 = .ok (.iload_n 2, 1) := by decide +kernel
theorem dX0_goOn_31 : decode cX0_goOn 31 = .ok (.invokevirtual 74, 3) := by decide +kernel
theorem dX0_goOn_34 : decode cX0_goOn 34 = .ok (.iinc 2 1, 3) := by decide +kernel
theorem dX0_goOn_37 : decode cX0_goOn 37 = .ok (.goto (-29), 3) := by decide +kernel
theorem dX0_goOn_40 : decode cX0_goOn 40 = .ok (.iload_n 1, 1) := by decide +kernel
theorem dX0_goOn_41 : decode cX0_goOn 41 = .ok (.ifCond .le 22, 3) := by decide +kernel
theorem dX0_goOn_44 : decode cX0_goOn 44 = .ok (.aload_n 0, 1) := by decide +kernel
theorem dX0_goOn_45 : decode cX0_goOn 45 = .ok (.iconst 0, 1) := by decide +kernel
theorem dX0_goOn_46 : decode cX0_goOn 46 = .ok (.aload_n 0, 1) := by decide +kernel
theorem dX0_goOn_47 : decode cX0_goOn 47 = .ok (.getfield 41, 3) := by decide +kernel
theorem dX0_goOn_50 : decode cX0_goOn 50 = .ok (.iload_n 1, 1) := by decide +kernel
theorem dX0_goOn_51 : decode cX0_goOn 51 = .ok (.iconst 2, 1) := by decide +kernel
theorem dX0_goOn_52 : decode cX0_goOn 52 = .ok (.idiv, 1) := by decide +kernel
theorem dX0_goOn_53 : decode cX0_goOn 53 = .ok (.isub, 1) := by decide +kernel
theorem dX0_goOn_54 : decode cX0_goOn 54 = .ok (.invokestatic 78, 3) := by decide +kernel
theorem dX0_goOn_57 : decode cX0_goOn 57 = .ok (.putfield 41, 3) := by decide +kernel
theorem dX0_goOn_60 : decode cX0_goOn 60 = .ok (.goto 27, 3) := by decide +kernel
theorem dX0_goOn_63 : decode cX0_goOn 63 = .ok (.aload_n 0, 1) := by decide +kernel
theorem dX0_goOn_64 : decode cX0_goOn 64 = .ok (.getfield 41, 3) := by decide +kernel
theorem dX0_goOn_67 : decode cX0_goOn 67 = .ok (.aload_n 0, 1) := by decide +kernel
theorem dX0_goOn_68 : decode cX0_goOn 68 = .ok (.getfield 27, 3) := by decide +kernel
theorem dX0_goOn_71 : decode cX0_goOn 71 = .ok (.getfield 84, 3) := by decide +kernel
theorem dX0_goOn_74 : decode cX0_goOn 74 = .ok (.if_icmp .ge 13, 3) := by decide +kernel
theorem dX0_goOn_77 : decode cX0_goOn 77 = .ok (.aload_n 0, 1) := by decide +kernel
theorem dX0_goOn_78 : decode cX0_goOn 78 = .ok (.dup, 1) := by decide +kernel
theorem dX0_goOn_79 : decode cX0_goOn 79 = .ok (.getfield 41, 3) := by decide +kernel
theorem dX0_goOn_82 : decode cX0_goOn 82 = .ok (.iconst 1, 1) := by decide +kernel
theorem dX0_goOn_83 : decode cX0_goOn 83 = .ok (.iadd, 1) := by decide +kernel
theorem dX0_goOn_84 : decode cX0_goOn 84 = .ok (.putfield 41, 3) := by decide +kernel
theorem dX0_goOn_87 : decode cX0_goOn 87 = .ok (.aload_n 0, 1) := by decide +kernel
theorem dX0_goOn_88 : decode cX0_goOn 88 = .ok (.dup, 1) := by decide +kernel
theorem dX0_goOn_89 : decode cX0_goOn 89 = .ok (.getfield 42, 3) := by decide +kernel
theorem dX0_goOn_92 : decode cX0_goOn 92 = .ok (.iconst 1, 1) := by decide +kernel
theorem dX0_goOn_93 : decode cX0_goOn 93 = .ok (.iadd, 1) := by decide +kernel
theorem dX0_goOn_94 : decode cX0_goOn 94 = .ok (.putfield 42, 3) := by decide +kernel
theorem dX0_goOn_97 : decode cX0_goOn 97 = .ok (.return_, 1) := by decide +kernel
theorem dX0_carry_0 : decode cX0_carry 0 = .ok (.aload_n 0, 1) := by decide +kernel
theorem dX0_carry_1 : decode cX0_carry 1 = .ok (.getfield 21, 3) := by decide +kernel
theorem dX0_carry_4 : decode cX0_carry 4 = .ok (.iload_n 1, 1) := by decide +kernel
theorem dX0_carry_5 : decode cX0_carry 5 = .ok (.dup2, 1) := by decide +kernel
theorem dX0_carry_6 : decode cX0_carry 6 = .ok (.iaload, 1) := by decide +kernel
theorem dX0_carry_7 : decode cX0_carry 7 = .ok (.aload_n 0, 1) := by decide +kernel
theorem dX0_carry_8 : decode cX0_carry 8 = .ok (.getfield 27, 3) := by decide +kernel
theorem dX0_carry_11 : decode cX0_carry 11 = .ok (.getfield 54, 3) := by decide +kernel
theorem dX0_carry_14 : decode cX0_carry 14 = .ok (.iload_n 1, 1) := by decide +kernel
theorem dX0_carry_15 : decode cX0_carry 15 = .ok (.iaload, 1) := by decide +kernel
theorem dX0_carry_16 : decode cX0_carry 16 = .ok (.aload_n 0, 1) := by decide +kernel
theorem dX0_carry_17 : decode cX0_carry 17 = .ok (.getfield 15, 3) := by decide +kernel
theorem dX0_carry_20 : decode cX0_carry 20 = .ok (.iload_n 1, 1) := by decide +kernel
theorem dX0_carry_21 : decode cX0_carry 21 = .ok (.iaload, 1) := by decide +kernel
theorem dX0_carry_22 : decode cX0_carry 22 = .ok (.aload_n 0, 1) := by decide +kernel
theorem dX0_carry_23 : decode cX0_carry 23 = .ok (.getfield 41, 3) := by decide +kernel
theorem dX0_carry_26 : decode cX0_carry 26 = .ok (.invokestatic 87, 3) := by decide +kernel
theorem dX0_carry_29 : decode cX0_carry 29 = .ok (.iadd, 1) := by decide +kernel
theorem dX0_carry_30 : decode cX0_carry 30 = .ok (.iastore, 1) := by decide +kernel
theorem dX0_carry_31 : decode cX0_carry 31 = .ok (.aload_n 0, 1) := by decide +kernel
theorem dX0_carry_32 : decode cX0_carry 32 = .ok (.getfield 18, 3) := by decide +kernel
theorem dX0_carry_35 : decode cX0_carry 35 = .ok (.iload_n 1, 1) := by decide +kernel
theorem dX0_carry_36 : decode cX0_carry 36 = .ok (.dup2, 1) := by decide +kernel
theorem dX0_carry_37 : decode cX0_carry 37 = .ok (.iaload, 1) := by decide +kernel
theorem dX0_carry_38 : decode cX0_carry 38 = .ok (.aload_n 0, 1) := by decide +kernel
theorem dX0_carry_39 : decode cX0_carry 39 = .ok (.getfield 37, 3) := by decide +kernel
theorem dX0_carry_42 : decode cX0_carry 42 = .ok (.iadd, 1) := by decide +kernel
theorem dX0_carry_43 : decode cX0_carry 43 = .ok (.iastore, 1) := by decide +kernel
theorem dX0_carry_44 : decode cX0_carry 44 = .ok (.aload_n 0, 1) := by decide +kernel
theorem dX0_carry_45 : decode cX0_carry 45 = .ok (.getfield 18, 3) := by decide +kernel
theorem dX0_carry_48 : decode cX0_carry 48 = .ok (.iload_n 1, 1) := by decide +kernel
theorem dX0_carry_49 : decode cX0_carry 49 = .ok (.iaload, 1) := by decide +kernel
theorem dX0_carry_50 : decode cX0_carry 50 = .ok (.aload_n 0, 1) := by decide +kernel
theorem dX0_carry_51 : decode cX0_carry 51 = .ok (.getfield 27, 3) := by decide +kernel
theorem dX0_carry_54 : decode cX0_carry 54 = .ok (.getfield 91, 3) := by decide +kernel
theorem dX0_carry_57 : decode cX0_carry 57 = .ok (.if_icmp .lt 10, 3) := by decide +kernel
theorem dX0_carry_60 : decode cX0_carry 60 = .ok (.aload_n 0, 1) := by decide +kernel
theorem dX0_carry_61 : decode cX0_carry 61 = .ok (.getfield 9, 3) := by decide +kernel
theorem dX0_carry_64 : decode cX0_carry 64 = .ok (.iload_n 1, 1) := by decide +kernel
theorem dX0_carry_65 : decode cX0_carry 65 = .ok (.iconst 2, 1) := by decide +kernel
theorem dX0_carry_66 : decode cX0_carry 66 = .ok (.iastore, 1) := by decide +kernel
theorem dX0_carry_67 : decode cX0_carry 67 = .ok (.return_, 1) := by decide +kernel
theorem dX0_goOnTillFallen_0 : decode cX0_goOnTillFallen 0 = .ok (.iconst 0, 1) := by decide +kernel
theorem dX0_goOnTillFallen_1 : decode cX0_goOnTillFallen 1 = .ok (.istore_n 2, 1) := by decide +kernel
theorem dX0_goOnTillFallen_2 : decode cX0_goOnTillFallen 2 = .ok (.iload_n 2, 1) := by decide +kernel
theorem dX0_goOnTillFallen_3 : decode cX0_goOnTillFallen 3 = .ok (.bipush 40, 2) := by decide +kernel
theorem dX0_goOnTillFallen_5 : decode cX0_goOnTillFallen 5 = .ok (.if_icmp .ge 23, 3) := by decide +kernel
theorem dX0_goOnTillFallen_8 : decode cX0_goOnTillFallen 8 = .ok (.aload_n 0, 1) := by decide +kernel
theorem dX0_goOnTillFallen_9 : decode cX0_goOnTillFallen 9 = .ok (.getfield 9, 3) := by decide +kernel
theorem dX0_goOnTillFallen_12 : decode cX0_goOnTillFallen 12 = .ok (.iload_n 1, 1) := by decide +kernel
theorem dX0_goOnTillFallen_13 : decode cX0_goOnTillFallen 13 = .ok (.iaload, 1) := by decide +kernel
theorem dX0_goOnTillFallen_14 : decode cX0_goOnTillFallen 14 = .ok (.iconst 1, 1) := by decide +kernel
theorem dX0_goOnTillFallen_15 : decode cX0_goOnTillFallen 15 = .ok (.if_icmp .ne 13, 3) := by decide +kernel
theorem dX0_goOnTillFallen_18 : decode cX0_goOnTillFallen 18 = .ok (.aload_n 0, 1) := by decide +kernel
theorem dX0_goOnTillFallen_19 : decode cX0_goOnTillFallen 19 = .ok (.invokevirtual 93, 3) := by decide +kernel
theorem dX0_goOnTillFallen_22 : decode cX0_goOnTillFallen 22 = .ok (.iinc 2 1, 3) := by decide +kernel
theorem dX0_goOnTillFallen_25 : decode cX0_goOnTillFallen 25 = .ok (.goto (-23), 3) := by decide +kernel
theorem dX0_goOnTillFallen_28 : decode cX0_goOnTillFallen 28 = .ok (.return_, 1) := by decide +kernel
theorem dX0_isRightAfterRide_0 : decode cX0_isRightAfterRide 0 = .ok (.aload_n 0, 1) := by decide +kernel
theorem dX0_isRightAfterRide_1 : decode cX0_isRightAfterRide 1 = .ok (.iload_n 1, 1) := by decide +kernel
theorem dX0_isRightAfterRide_2 : decode cX0_isRightAfterRide 2 = .ok (.iload_n 2, 1) := by decide +kernel
theorem dX0_isRightAfterRide_3 : decode cX0_isRightAfterRide 3 = .ok (.invokevirtual 96, 3) := by decide +kernel
theorem dX0_isRightAfterRide_6 : decode cX0_isRightAfterRide 6 = .ok (.aload_n 0, 1) := by decide +kernel
theorem dX0_isRightAfterRide_7 : decode cX0_isRightAfterRide 7 = .ok (.iload_n 1, 1) := by decide +kernel
theorem dX0_isRightAfterRide_8 : decode cX0_isRightAfterRide 8 = .ok (.invokevirtual 100, 3) := by decide +kernel
theorem dX0_isRightAfterRide_11 : decode cX0_isRightAfterRide 11 = .ok (.aload_n 0, 1) := by decide +kernel
theorem dX0_isRightAfterRide_12 : decode cX0_isRightAfterRide 12 = .ok (.iload_n 1, 1) := by decide +kernel
theorem dX0_isRightAfterRide_13 : decode cX0_isRightAfterRide 13 = .ok (.iload_n 1, 1) := by decide +kernel
theorem dX0_isRightAfterRide_14 : decode cX0_isRightAfterRide 14 = .ok (.invokevirtual 103, 3) := by decide +kernel
theorem dX0_isRightAfterRide_17 : decode cX0_isRightAfterRide 17 = .ok (.ireturn, 1) := by decide +kernel
theorem dX0_contentBits_0 : decode cX0_contentBits 0 = .ok (.iconst 0, 1) := by decide +kernel
theorem dX0_contentBits_1 : decode cX0_contentBits 1 = .ok (.istore_n 1, 1) := by decide +kernel
theorem dX0_contentBits_2 : decode cX0_contentBits 2 = .ok (.iconst 0, 1) := by decide +kernel
theorem dX0_contentBits_3 : decode cX0_contentBits 3 = .ok (.istore_n 2, 1) := by decide +kernel
theorem dX0_contentBits_4 : decode cX0_contentBits 4 = .ok (.iload_n 2, 1) := by decide +kernel
theorem dX0_contentBits_5 : decode cX0_contentBits 5 = .ok (.aload_n 0, 1) := by decide +kernel
theorem dX0_contentBits_6 : decode cX0_contentBits 6 = .ok (.getfield 27, 3) := by decide +kernel
theorem dX0_contentBits_9 : decode cX0_contentBits 9 = .ok (.getfield 51, 3) := by decide +kernel
theorem dX0_contentBits_12 : decode cX0_contentBits 12 = .ok (.if_icmp .ge 35, 3) := by decide +kernel
theorem dX0_contentBits_15 : decode cX0_contentBits 15 = .ok (.aload_n 0, 1) := by decide +kernel
theorem dX0_contentBits_16 : decode cX0_contentBits 16 = .ok (.getfield 24, 3) := by decide +kernel
theorem dX0_contentBits_19 : decode cX0_contentBits 19 = .ok (.iload_n 2, 1) := by decide +kernel
theorem dX0_contentBits_20 : decode cX0_contentBits 20 = .ok (.iaload, 1) := by decide +kernel
theorem dX0_contentBits_21 : decode cX0_contentBits 21 = .ok (.istore_n 3, 1) := by decide +kernel
theorem dX0_contentBits_22 : decode cX0_contentBits 22 = .ok (.iload_n 3, 1) := by decide +kernel
theorem dX0_contentBits_23 : decode cX0_contentBits 23 = .ok (.ifCond .lt 18, 3) := by decide +kernel
theorem dX0_contentBits_26 : decode cX0_contentBits 26 = .ok (.aload_n 0, 1) := by decide +kernel
theorem dX0_contentBits_27 : decode cX0_contentBits 27 = .ok (.iload_n 3, 1) := by decide +kernel
theorem dX0_contentBits_28 : decode cX0_contentBits 28 = .ok (.iload_n 2, 1) := by decide +kernel
theorem dX0_contentBits_29 : decode cX0_contentBits 29 = .ok (.invokevirtual 103, 3) := by decide +kernel
theorem dX0_contentBits_32 : decode cX0_contentBits 32 = .ok (.ifCond .eq 9, 3) := by decide +kernel
theorem dX0_contentBits_35 : decode cX0_contentBits 35 = .ok (.iload_n 1, 1) := by decide +kernel
theorem dX0_contentBits_36 : decode cX0_contentBits 36 = .ok (.iconst 1, 1) := by decide +kernel
theorem dX0_contentBits_37 : decode cX0_contentBits 37 = .ok (.iload_n 3, 1) := by decide +kernel
theorem dX0_contentBits_38 : decode cX0_contentBits 38 = .ok (.ishl, 1) := by decide +kernel
theorem dX0_contentBits_39 : decode cX0_contentBits 39 = .ok (.ior, 1) := by decide +kernel
theorem dX0_contentBits_40 : decode cX0_contentBits 40 = .ok (.istore_n 1, 1) := by decide +kernel
theorem dX0_contentBits_41 : decode cX0_contentBits 41 = .ok (.iinc 2 1, 3) := by decide +kernel
theorem dX0_contentBits_44 : decode cX0_contentBits 44 = .ok (.goto (-40), 3) := by decide +kernel
theorem dX0_contentBits_47 : decode cX0_contentBits 47 = .ok (.iload_n 1, 1) := by decide +kernel
theorem dX0_contentBits_48 : decode cX0_contentBits 48 = .ok (.ireturn, 1) := by decide +kernel
theorem dX0_actByDraw_0 : decode cX0_actByDraw 0 = .ok (.aload_n 0, 1) := by decide +kernel
theorem dX0_actByDraw_1 : decode cX0_actByDraw 1 = .ok (.getfield 27, 3) := by decide +kernel
theorem dX0_actByDraw_4 : decode cX0_actByDraw 4 = .ok (.getfield 51, 3) := by decide +kernel
theorem dX0_actByDraw_7 : decode cX0_actByDraw 7 = .ok (.iconst 1, 1) := by decide +kernel
theorem dX0_actByDraw_8 : decode cX0_actByDraw 8 = .ok (.if_icmp .ge 4, 3) := by decide +kernel
theorem dX0_actByDraw_11 : decode cX0_actByDraw 11 = .ok (.return_, 1) := by decide +kernel
theorem dX0_actByDraw_12 : decode cX0_actByDraw 12 = .ok (.iload_n 1, 1) := by decide +kernel
theorem dX0_actByDraw_13 : decode cX0_actByDraw 13 = .ok (.aload_n 0, 1) := by decide +kernel
theorem dX0_actByDraw_14 : decode cX0_actByDraw 14 = .ok (.getfield 27, 3) := by decide +kernel
theorem dX0_actByDraw_17 : decode cX0_actByDraw 17 = .ok (.getfield 51, 3) := by decide +kernel
theorem dX0_actByDraw_20 : decode cX0_actByDraw 20 = .ok (.irem, 1) := by decide +kernel
theorem dX0_actByDraw_21 : decode cX0_actByDraw 21 = .ok (.istore_n 2, 1) := by decide +kernel
theorem dX0_actByDraw_22 : decode cX0_actByDraw 22 = .ok (.iload_n 1, 1) := by decide +kernel
theorem dX0_actByDraw_23 : decode cX0_actByDraw 23 = .ok (.bipush 16, 2) := by decide +kernel
theorem dX0_actByDraw_25 : decode cX0_actByDraw 25 = .ok (.idiv, 1) := by decide +kernel
theorem dX0_actByDraw_26 : decode cX0_actByDraw 26 = .ok (.iconst 2, 1) := by decide +kernel
theorem dX0_actByDraw_27 : decode cX0_actByDraw 27 = .ok (.irem, 1) := by decide +kernel
theorem dX0_actByDraw_28 : decode cX0_actByDraw 28 = .ok (.istore_n 3, 1) := by decide +kernel
theorem dX0_actByDraw_29 : decode cX0_actByDraw 29 = .ok (.aload_n 0, 1) := by decide +kernel
theorem dX0_actByDraw_30 : decode cX0_actByDraw 30 = .ok (.getfield 9, 3) := by decide +kernel
theorem dX0_actByDraw_33 : decode cX0_actByDraw 33 = .ok (.iload_n 2, 1) := by decide +kernel
theorem dX0_actByDraw_34 : decode cX0_actByDraw 34 = .ok (.iaload, 1) := by decide +kernel
theorem dX0_actByDraw_35 : decode cX0_actByDraw 35 = .ok (.ifCond .ne 17, 3) := by decide +kernel
theorem dX0_actByDraw_38 : decode cX0_actByDraw 38 = .ok (.aload_n 0, 1) := by decide +kernel
theorem dX0_actByDraw_39 : decode cX0_actByDraw 39 = .ok (.iload_n 3, 1) := by decide +kernel
theorem dX0_actByDraw_40 : decode cX0_actByDraw 40 = .ok (.invokevirtual 107, 3) := by decide +kernel
theorem dX0_actByDraw_43 : decode cX0_actByDraw 43 = .ok (.ifCond .eq 9, 3) := by decide +kernel
theorem dX0_actByDraw_46 : decode cX0_actByDraw 46 = .ok (.aload_n 0, 1) := by decide +kernel
theorem dX0_actByDraw_47 : decode cX0_actByDraw 47 = .ok (.iload_n 2, 1) := by decide +kernel
theorem dX0_actByDraw_48 : decode cX0_actByDraw 48 = .ok (.iload_n 3, 1) := by decide +kernel
theorem dX0_actByDraw_49 : decode cX0_actByDraw 49 = .ok (.invokevirtual 96, 3) := by decide +kernel
theorem dX0_actByDraw_52 : decode cX0_actByDraw 52 = .ok (.aload_n 0, 1) := by decide +kernel
theorem dX0_actByDraw_53 : decode cX0_actByDraw 53 = .ok (.iload_n 2, 1) := by decide +kernel
theorem dX0_actByDraw_54 : decode cX0_actByDraw 54 = .ok (.invokevirtual 111, 3) := by decide +kernel
theorem dX0_actByDraw_57 : decode cX0_actByDraw 57 = .ok (.return_, 1) := by decide +kernel
theorem dX0_eatLowestRight_0 : decode cX0_eatLowestRight 0 = .ok (.iconst 0, 1) := by decide +kernel
theorem dX0_eatLowestRight_1 : decode cX0_eatLowestRight 1 = .ok (.istore_n 2, 1) := by decide +kernel
theorem dX0_eatLowestRight_2 : decode cX0_eatLowestRight 2 = .ok (.iload_n 2, 1) := by decide +kernel
theorem dX0_eatLowestRight_3 : decode cX0_eatLowestRight 3 = .ok (.aload_n 0, 1) := by decide +kernel
theorem dX0_eatLowestRight_4 : decode cX0_eatLowestRight 4 = .ok (.getfield 27, 3) := by decide +kernel
theorem dX0_eatLowestRight_7 : decode cX0_eatLowestRight 7 = .ok (.getfield 51, 3) := by decide +kernel
theorem dX0_eatLowestRight_10 : decode cX0_eatLowestRight 10 = .ok (.if_icmp .ge 34, 3) := by decide +kernel
theorem dX0_eatLowestRight_13 : decode cX0_eatLowestRight 13 = .ok (.aload_n 0, 1) := by decide +kernel
theorem dX0_eatLowestRight_14 : decode cX0_eatLowestRight 14 = .ok (.iload_n 1, 1) := by decide +kernel
theorem dX0_eatLowestRight_15 : decode cX0_eatLowestRight 15 = .ok (.iload_n 2, 1) := by decide +kernel
theorem dX0_eatLowestRight_16 : decode cX0_eatLowestRight 16 = .ok (.invokevirtual 114, 3) := by decide +kernel
theorem dX0_eatLowestRight_19 : decode cX0_eatLowestRight 19 = .ok (.ifCond .eq 19, 3) := by decide +kernel
theorem dX0_eatLowestRight_22 : decode cX0_eatLowestRight 22 = .ok (.aload_n 0, 1) := by decide +kernel
theorem dX0_eatLowestRight_23 : decode cX0_eatLowestRight 23 = .ok (.iload_n 1, 1) := by decide +kernel
theorem dX0_eatLowestRight_24 : decode cX0_eatLowestRight 24 = .ok (.iload_n 2, 1) := by decide +kernel
theorem dX0_eatLowestRight_25 : decode cX0_eatLowestRight 25 = .ok (.invokevirtual 103, 3) := by decide +kernel
theorem dX0_eatLowestRight_28 : decode cX0_eatLowestRight 28 = .ok (.ifCond .eq 10, 3) := by decide +kernel
theorem dX0_eatLowestRight_31 : decode cX0_eatLowestRight 31 = .ok (.aload_n 0, 1) := by decide +kernel
theorem dX0_eatLowestRight_32 : decode cX0_eatLowestRight 32 = .ok (.iload_n 1, 1) := by decide +kernel
theorem dX0_eatLowestRight_33 : decode cX0_eatLowestRight 33 = .ok (.iload_n 2, 1) := by decide +kernel
theorem dX0_eatLowestRight_34 : decode cX0_eatLowestRight 34 = .ok (.invokevirtual 117, 3) := by decide +kernel
theorem dX0_eatLowestRight_37 : decode cX0_eatLowestRight 37 = .ok (.return_, 1) := by decide +kernel
theorem dX0_eatLowestRight_38 : decode cX0_eatLowestRight 38 = .ok (.iinc 2 1, 3) := by decide +kernel
theorem dX0_eatLowestRight_41 : decode cX0_eatLowestRight 41 = .ok (.goto (-39), 3) := by decide +kernel
theorem dX0_eatLowestRight_44 : decode cX0_eatLowestRight 44 = .ok (.return_, 1) := by decide +kernel
theorem dX1_init_0 : decode cX1_init 0 = .ok (.aload_n 0, 1) := by decide +kernel
theorem dX1_init_1 : decode cX1_init 1 = .ok (.invokespecial 3, 3) := by decide +kernel
theorem dX1_init_4 : decode cX1_init 4 = .ok (.aload_n 0, 1) := by decide +kernel
theorem dX1_init_5 : decode cX1_init 5 = .ok (.bipush 8, 2) := by decide +kernel
theorem dX1_init_7 : decode cX1_init 7 = .ok (.anewarray 9, 3) := by decide +kernel
theorem dX1_init_10 : decode cX1_init 10 = .ok (.putfield 11, 3) := by decide +kernel
theorem dX1_init_13 : decode cX1_init 13 = .ok (.iconst 0, 1) := by decide +kernel
theorem dX1_init_14 : decode cX1_init 14 = .ok (.istore_n 2, 1) := by decide +kernel
theorem dX1_init_15 : decode cX1_init 15 = .ok (.iload_n 2, 1) := by decide +kernel
theorem dX1_init_16 : decode cX1_init 16 = .ok (.bipush 8, 2) := by decide +kernel
theorem dX1_init_18 : decode cX1_init 18 = .ok (.if_icmp .ge 23, 3) := by decide +kernel
theorem dX1_init_21 : decode cX1_init 21 = .ok (.aload_n 0, 1) := by decide +kernel
theorem dX1_init_22 : decode cX1_init 22 = .ok (.getfield 11, 3) := by decide +kernel
theorem dX1_init_25 : decode cX1_init 25 = .ok (.iload_n 2, 1) := by decide +kernel
theorem dX1_init_26 : decode cX1_init 26 = .ok (.new 9, 3) := by decide +kernel
theorem dX1_init_29 : decode cX1_init 29 = .ok (.dup, 1) := by decide +kernel
theorem dX1_init_30 : decode cX1_init 30 = .ok (.aload_n 1, 1) := by decide +kernel
theorem dX1_init_31 : decode cX1_init 31 = .ok (.invokespecial 17, 3) := by decide +kernel
theorem dX1_init_34 : decode cX1_init 34 = .ok (.aastore, 1) := by decide +kernel
theorem dX1_init_35 : decode cX1_init 35 = .ok (.iinc 2 1, 3) := by decide +kernel
theorem dX1_init_38 : decode cX1_init 38 = .ok (.goto (-23), 3) := by decide +kernel
theorem dX1_init_41 : decode cX1_init 41 = .ok (.return_, 1) := by decide +kernel
theorem dX1_clear_0 : decode cX1_clear 0 = .ok (.aload_n 0, 1) := by decide +kernel
theorem dX1_clear_1 : decode cX1_clear 1 = .ok (.iconst 0, 1) := by decide +kernel
theorem dX1_clear_2 : decode cX1_clear 2 = .ok (.putfield 20, 3) := by decide +kernel
theorem dX1_clear_5 : decode cX1_clear 5 = .ok (.return_, 1) := by decide +kernel
theorem dX1_remember_0 : decode cX1_remember 0 = .ok (.aload_n 0, 1) := by decide +kernel
theorem dX1_remember_1 : decode cX1_remember 1 = .ok (.getfield 11, 3) := by decide +kernel
theorem dX1_remember_4 : decode cX1_remember 4 = .ok (.aload_n 0, 1) := by decide +kernel
theorem dX1_remember_5 : decode cX1_remember 5 = .ok (.getfield 24, 3) := by decide +kernel
theorem dX1_remember_8 : decode cX1_remember 8 = .ok (.aaload, 1) := by decide +kernel
theorem dX1_remember_9 : decode cX1_remember 9 = .ok (.aload_n 1, 1) := by decide +kernel
theorem dX1_remember_10 : decode cX1_remember 10 = .ok (.invokevirtual 27, 3) := by decide +kernel
theorem dX1_remember_13 : decode cX1_remember 13 = .ok (.aload_n 0, 1) := by decide +kernel
theorem dX1_remember_14 : decode cX1_remember 14 = .ok (.aload_n 0, 1) := by decide +kernel
theorem dX1_remember_15 : decode cX1_remember 15 = .ok (.getfield 24, 3) := by decide +kernel
theorem dX1_remember_18 : decode cX1_remember 18 = .ok (.iconst 1, 1) := by decide +kernel
theorem dX1_remember_19 : decode cX1_remember 19 = .ok (.iadd, 1) := by decide +kernel
theorem dX1_remember_20 : decode cX1_remember 20 = .ok (.bipush 8, 2) := by decide +kernel
theorem dX1_remember_22 : decode cX1_remember 22 = .ok (.irem, 1) := by decide +kernel
theorem dX1_remember_23 : decode cX1_remember 23 = .ok (.putfield 24, 3) := by decide +kernel
theorem dX1_remember_26 : decode cX1_remember 26 = .ok (.aload_n 0, 1) := by decide +kernel
theorem dX1_remember_27 : decode cX1_remember 27 = .ok (.bipush 8, 2) := by decide +kernel
theorem dX1_remember_29 : decode cX1_remember 29 = .ok (.aload_n 0, 1) := by decide +kernel
theorem dX1_remember_30 : decode cX1_remember 30 = .ok (.getfield 20, 3) := by decide +kernel
theorem dX1_remember_33 : decode cX1_remember 33 = .ok (.iconst 1, 1) := by decide +kernel
theorem dX1_remember_34 : decode cX1_remember 34 = .ok (.iadd, 1) := by decide +kernel
theorem dX1_remember_35 : decode cX1_remember 35 = .ok (.invokestatic 31, 3) := by decide +kernel
theorem dX1_remember_38 : decode cX1_remember 38 = .ok (.putfield 20, 3) := by decide +kernel
theorem dX1_remember_41 : decode cX1_remember 41 = .ok (.return_, 1) := by decide +kernel
theorem dX1_bringBack_0 : decode cX1_bringBack 0 = .ok (.aload_n 0, 1) := by decide +kernel
theorem dX1_bringBack_1 : decode cX1_bringBack 1 = .ok (.aload_n 0, 1) := by decide +kernel
theorem dX1_bringBack_2 : decode cX1_bringBack 2 = .ok (.getfield 24, 3) := by decide +kernel
theorem dX1_bringBack_5 : decode cX1_bringBack 5 = .ok (.bipush 8, 2) := by decide +kernel
theorem dX1_bringBack_7 : decode cX1_bringBack 7 = .ok (.iadd, 1) := by decide +kernel
theorem dX1_bringBack_8 : decode cX1_bringBack 8 = .ok (.iconst 1, 1) := by decide +kernel
theorem dX1_bringBack_9 : decode cX1_bringBack 9 = .ok (.isub, 1) := by decide +kernel
theorem dX1_bringBack_10 : decode cX1_bringBack 10 = .ok (.bipush 8, 2) := by decide +kernel
theorem dX1_bringBack_12 : decode cX1_bringBack 12 = .ok (.irem, 1) := by decide +kernel
theorem dX1_bringBack_13 : decode cX1_bringBack 13 = .ok (.putfield 24, 3) := by decide +kernel
theorem dX1_bringBack_16 : decode cX1_bringBack 16 = .ok (.aload_n 1, 1) := by decide +kernel
theorem dX1_bringBack_17 : decode cX1_bringBack 17 = .ok (.aload_n 0, 1) := by decide +kernel
theorem dX1_bringBack_18 : decode cX1_bringBack 18 = .ok (.getfield 11, 3) := by decide +kernel
theorem dX1_bringBack_21 : decode cX1_bringBack 21 = .ok (.aload_n 0, 1) := by decide +kernel
theorem dX1_bringBack_22 : decode cX1_bringBack 22 = .ok (.getfield 24, 3) := by decide +kernel
theorem dX1_bringBack_25 : decode cX1_bringBack 25 = .ok (.aaload, 1) := by decide +kernel
theorem dX1_bringBack_26 : decode cX1_bringBack 26 = .ok (.invokevirtual 27, 3) := by decide +kernel
theorem dX1_bringBack_29 : decode cX1_bringBack 29 = .ok (.aload_n 0, 1) := by decide +kernel
theorem dX1_bringBack_30 : decode cX1_bringBack 30 = .ok (.dup, 1) := by decide +kernel
theorem dX1_bringBack_31 : decode cX1_bringBack 31 = .ok (.getfield 20, 3) := by decide +kernel
theorem dX1_bringBack_34 : decode cX1_bringBack 34 = .ok (.iconst 1, 1) := by decide +kernel
theorem dX1_bringBack_35 : decode cX1_bringBack 35 = .ok (.isub, 1) := by decide +kernel
theorem dX1_bringBack_36 : decode cX1_bringBack 36 = .ok (.putfield 20, 3) := by decide +kernel
theorem dX1_bringBack_39 : decode cX1_bringBack 39 = .ok (.return_, 1) := by decide +kernel
theorem dX2_init_0 : decode cX2_init 0 = .ok (.aload_n 0, 1) := by decide +kernel
theorem dX2_init_1 : decode cX2_init 1 = .ok (.invokespecial 3, 3) := by decide +kernel
theorem dX2_init_4 : decode cX2_init 4 = .ok (.aload_n 0, 1) := by decide +kernel
theorem dX2_init_5 : decode cX2_init 5 = .ok (.bipush 9, 2) := by decide +kernel
theorem dX2_init_7 : decode cX2_init 7 = .ok (.newarray .int, 2) := by decide +kernel
theorem dX2_init_9 : decode cX2_init 9 = .ok (.putfield 9, 3) := by decide +kernel
theorem dX2_init_12 : decode cX2_init 12 = .ok (.aload_n 0, 1) := by decide +kernel
theorem dX2_init_13 : decode cX2_init 13 = .ok (.bipush 9, 2) := by decide +kernel
theorem dX2_init_15 : decode cX2_init 15 = .ok (.newarray .int, 2) := by decide +kernel
theorem dX2_init_17 : decode cX2_init 17 = .ok (.putfield 15, 3) := by decide +kernel
theorem dX2_init_20 : decode cX2_init 20 = .ok (.aload_n 0, 1) := by decide +kernel
theorem dX2_init_21 : decode cX2_init 21 = .ok (.bipush 9, 2) := by decide +kernel
theorem dX2_init_23 : decode cX2_init 23 = .ok (.newarray .int, 2) := by decide +kernel
theorem dX2_init_25 : decode cX2_init 25 = .ok (.putfield 18, 3) := by decide +kernel
theorem dX2_init_28 : decode cX2_init 28 = .ok (.return_, 1) := by decide +kernel
theorem dX2_begin_0 : decode cX2_begin 0 = .ok (.aload_n 0, 1) := by decide +kernel
theorem dX2_begin_1 : decode cX2_begin 1 = .ok (.bipush 18, 2) := by decide +kernel
theorem dX2_begin_3 : decode cX2_begin 3 = .ok (.putfield 21, 3) := by decide +kernel
theorem dX2_begin_6 : decode cX2_begin 6 = .ok (.aload_n 0, 1) := by decide +kernel
theorem dX2_begin_7 : decode cX2_begin 7 = .ok (.iconst 3, 1) := by decide +kernel
theorem dX2_begin_8 : decode cX2_begin 8 = .ok (.putfield 25, 3) := by decide +kernel
theorem dX2_begin_11 : decode cX2_begin 11 = .ok (.aload_n 0, 1) := by decide +kernel
theorem dX2_begin_12 : decode cX2_begin 12 = .ok (.bipush 8, 2) := by decide +kernel
theorem dX2_begin_14 : decode cX2_begin 14 = .ok (.putfield 28, 3) := by decide +kernel
theorem dX2_begin_17 : decode cX2_begin 17 = .ok (.aload_n 0, 1) := by decide +kernel
theorem dX2_begin_18 : decode cX2_begin 18 = .ok (.bipush 12, 2) := by decide +kernel
theorem dX2_begin_20 : decode cX2_begin 20 = .ok (.putfield 31, 3) := by decide +kernel
theorem dX2_begin_23 : decode cX2_begin 23 = .ok (.aload_n 0, 1) := by decide +kernel
theorem dX2_begin_24 : decode cX2_begin 24 = .ok (.iconst 0, 1) := by decide +kernel
theorem dX2_begin_25 : decode cX2_begin 25 = .ok (.putfield 34, 3) := by decide +kernel
theorem dX2_begin_28 : decode cX2_begin 28 = .ok (.return_, 1) := by decide +kernel
theorem dX2_copyFrom_0 : decode cX2_copyFrom 0 = .ok (.aload_n 0, 1) := by decide +kernel
theorem dX2_copyFrom_1 : decode cX2_copyFrom 1 = .ok (.aload_n 1, 1) := by decide +kernel
theorem dX2_copyFrom_2 : decode cX2_copyFrom 2 = .ok (.getfield 21, 3) := by decide +kernel
theorem dX2_copyFrom_5 : decode cX2_copyFrom 5 = .ok (.putfield 21, 3) := by decide +kernel
theorem dX2_copyFrom_8 : decode cX2_copyFrom 8 = .ok (.aload_n 0, 1) := by decide +kernel
theorem dX2_copyFrom_9 : decode cX2_copyFrom 9 = .ok (.aload_n 1, 1) := by decide +kernel
theorem dX2_copyFrom_10 : decode cX2_copyFrom 10 = .ok (.getfield 25, 3) := by decide +kernel
theorem dX2_copyFrom_13 : decode cX2_copyFrom 13 = .ok (.putfield 25, 3) := by decide +kernel
theorem dX2_copyFrom_16 : decode cX2_copyFrom 16 = .ok (.aload_n 0, 1) := by decide +kernel
theorem dX2_copyFrom_17 : decode cX2_copyFrom 17 = .ok (.aload_n 1, 1) := by decide +kernel
theorem dX2_copyFrom_18 : decode cX2_copyFrom 18 = .ok (.getfield 28, 3) := by decide +kernel
theorem dX2_copyFrom_21 : decode cX2_copyFrom 21 = .ok (.putfield 28, 3) := by decide +kernel
theorem dX2_copyFrom_24 : decode cX2_copyFrom 24 = .ok (.aload_n 0, 1) := by decide +kernel
theorem dX2_copyFrom_25 : decode cX2_copyFrom 25 = .ok (.aload_n 1, 1) := by decide +kernel
theorem dX2_copyFrom_26 : decode cX2_copyFrom 26 = .ok (.getfield 31, 3) := by decide +kernel
theorem dX2_copyFrom_29 : decode cX2_copyFrom 29 = .ok (.putfield 31, 3) := by decide +kernel
theorem dX2_copyFrom_32 : decode cX2_copyFrom 32 = .ok (.aload_n 0, 1) := by decide +kernel
theorem dX2_copyFrom_33 : decode cX2_copyFrom 33 = .ok (.aload_n 1, 1) := by decide +kernel
theorem dX2_copyFrom_34 : decode cX2_copyFrom 34 = .ok (.getfield 34, 3) := by decide +kernel
theorem dX2_copyFrom_37 : decode cX2_copyFrom 37 = .ok (.putfield 34, 3) := by decide +kernel
theorem dX2_copyFrom_40 : decode cX2_copyFrom 40 = .ok (.aload_n 1, 1) := by decide +kernel
theorem dX2_copyFrom_41 : decode cX2_copyFrom 41 = .ok (.getfield 9, 3) := by decide +kernel
theorem dX2_copyFrom_44 : decode cX2_copyFrom 44 = .ok (.iconst 0, 1) := by decide +kernel
theorem dX2_copyFrom_45 : decode cX2_copyFrom 45 = .ok (.aload_n 0, 1) := by decide +kernel
theorem dX2_copyFrom_46 : decode cX2_copyFrom 46 = .ok (.getfield 9, 3) := by decide +kernel
theorem dX2_copyFrom_49 : decode cX2_copyFrom 49 = .ok (.iconst 0, 1) := by decide +kernel
theorem dX2_copyFrom_50 : decode cX2_copyFrom 50 = .ok (.bipush 9, 2) := by decide +kernel
theorem dX2_copyFrom_52 : decode cX2_copyFrom 52 = .ok (.invokestatic 37, 3) := by decide +kernel
theorem dX2_copyFrom_55 : decode cX2_copyFrom 55 = .ok (.aload_n 1, 1) := by decide +kernel
theorem dX2_copyFrom_56 : decode cX2_copyFrom 56 = .ok (.getfield 15, 3) := by decide +kernel
theorem dX2_copyFrom_59 : decode cX2_copyFrom 59 = .ok (.iconst 0, 1) := by decide +kernel
theorem dX2_copyFrom_60 : decode cX2_copyFrom 60 = .ok (.aload_n 0, 1) := by decide +kernel
theorem dX2_copyFrom_61 : decode cX2_copyFrom 61 = .ok (.getfield 15, 3) := by decide +kernel
theorem dX2_copyFrom_64 : decode cX2_copyFrom 64 = .ok (.iconst 0, 1) := by decide +kernel
theorem dX2_copyFrom_65 : decode cX2_copyFrom 65 = .ok (.bipush 9, 2) := by decide +kernel
theorem dX2_copyFrom_67 : decode cX2_copyFrom 67 = .ok (.invokestatic 37, 3) := by decide +kernel
theorem dX2_copyFrom_70 : decode cX2_copyFrom 70 = .ok (.aload_n 1, 1) := by decide +kernel
theorem dX2_copyFrom_71 : decode cX2_copyFrom 71 = .ok (.getfield 18, 3) := by decide +kernel
theorem dX2_copyFrom_74 : decode cX2_copyFrom 74 = .ok (.iconst 0, 1) := by decide +kernel
theorem dX2_copyFrom_75 : decode cX2_copyFrom 75 = .ok (.aload_n 0, 1) := by decide +kernel
theorem dX2_copyFrom_76 : decode cX2_copyFrom 76 = .ok (.getfield 18, 3) := by decide +kernel
theorem dX2_copyFrom_79 : decode cX2_copyFrom 79 = .ok (.iconst 0, 1) := by decide +kernel
theorem dX2_copyFrom_80 : decode cX2_copyFrom 80 = .ok (.bipush 9, 2) := by decide +kernel
theorem dX2_copyFrom_82 : decode cX2_copyFrom 82 = .ok (.invokestatic 37, 3) := by decide +kernel
theorem dX2_copyFrom_85 : decode cX2_copyFrom 85 = .ok (.return_, 1) := by decide +kernel
theorem dX2_setPlaces_0 : decode cX2_setPlaces 0 = .ok (.aload_n 0, 1) := by decide +kernel
theorem dX2_setPlaces_1 : decode cX2_setPlaces 1 = .ok (.iload_n 1, 1) := by decide +kernel
theorem dX2_setPlaces_2 : decode cX2_setPlaces 2 = .ok (.putfield 21, 3) := by decide +kernel
theorem dX2_setPlaces_5 : decode cX2_setPlaces 5 = .ok (.iload_n 1, 1) := by decide +kernel
theorem dX2_setPlaces_6 : decode cX2_setPlaces 6 = .ok (.iconst 2, 1) := by decide +kernel
theorem dX2_setPlaces_7 : decode cX2_setPlaces 7 = .ok (.bipush 40, 2) := by decide +kernel
theorem dX2_setPlaces_9 : decode cX2_setPlaces 9 = .ok (.invokestatic 43, 3) := by decide +kernel
theorem dX2_setPlaces_12 : decode cX2_setPlaces 12 = .ok (.ireturn, 1) := by decide +kernel
theorem dX2_setKnob_0 : decode cX2_setKnob 0 = .ok (.aload_n 0, 1) := by decide +kernel
theorem dX2_setKnob_1 : decode cX2_setKnob 1 = .ok (.iload_n 1, 1) := by decide +kernel
theorem dX2_setKnob_2 : decode cX2_setKnob 2 = .ok (.putfield 25, 3) := by decide +kernel
theorem dX2_setKnob_5 : decode cX2_setKnob 5 = .ok (.iload_n 1, 1) := by decide +kernel
theorem dX2_setKnob_6 : decode cX2_setKnob 6 = .ok (.invokestatic 47, 3) := by decide +kernel
theorem dX2_setKnob_9 : decode cX2_setKnob 9 = .ok (.ireturn, 1) := by decide +kernel
theorem dX2_setHeat_0 : decode cX2_setHeat 0 = .ok (.aload_n 0, 1) := by decide +kernel
theorem dX2_setHeat_1 : decode cX2_setHeat 1 = .ok (.iload_n 1, 1) := by decide +kernel
theorem dX2_setHeat_2 : decode cX2_setHeat 2 = .ok (.putfield 28, 3) := by decide +kernel
theorem dX2_setHeat_5 : decode cX2_setHeat 5 = .ok (.aload_n 0, 1) := by decide +kernel
theorem dX2_setHeat_6 : decode cX2_setHeat 6 = .ok (.iload_n 2, 1) := by decide +kernel
theorem dX2_setHeat_7 : decode cX2_setHeat 7 = .ok (.putfield 31, 3) := by decide +kernel
theorem dX2_setHeat_10 : decode cX2_setHeat 10 = .ok (.iload_n 1, 1) := by decide +kernel
theorem dX2_setHeat_11 : decode cX2_setHeat 11 = .ok (.iconst 0, 1) := by decide +kernel
theorem dX2_setHeat_12 : decode cX2_setHeat 12 = .ok (.bipush 30, 2) := by decide +kernel
theorem dX2_setHeat_14 : decode cX2_setHeat 14 = .ok (.invokestatic 43, 3) := by decide +kernel
theorem dX2_setHeat_17 : decode cX2_setHeat 17 = .ok (.ifCond .eq 17, 3) := by decide +kernel
theorem dX2_setHeat_20 : decode cX2_setHeat 20 = .ok (.iload_n 2, 1) := by decide +kernel
theorem dX2_setHeat_21 : decode cX2_setHeat 21 = .ok (.iconst 0, 1) := by decide +kernel
theorem dX2_setHeat_22 : decode cX2_setHeat 22 = .ok (.bipush 30, 2) := by decide +kernel
theorem dX2_setHeat_24 : decode cX2_setHeat 24 = .ok (.invokestatic 43, 3) := by decide +kernel
theorem dX2_setHeat_27 : decode cX2_setHeat 27 = .ok (.ifCond .eq 7, 3) := by decide +kernel
theorem dX2_setHeat_30 : decode cX2_setHeat 30 = .ok (.iconst 1, 1) := by decide +kernel
theorem dX2_setHeat_31 : decode cX2_setHeat 31 = .ok (.goto 4, 3) := by decide +kernel
theorem dX2_setHeat_34 : decode cX2_setHeat 34 = .ok (.iconst 0, 1) := by decide +kernel
theorem dX2_setHeat_35 : decode cX2_setHeat 35 = .ok (.ireturn, 1) := by decide +kernel
theorem dX2_addGuest_0 : decode cX2_addGuest 0 = .ok (.aload_n 0, 1) := by decide +kernel
theorem dX2_addGuest_1 : decode cX2_addGuest 1 = .ok (.getfield 34, 3) := by decide +kernel
theorem dX2_addGuest_4 : decode cX2_addGuest 4 = .ok (.bipush 9, 2) := by decide +kernel
theorem dX2_addGuest_6 : decode cX2_addGuest 6 = .ok (.if_icmp .ge 12, 3) := by decide +kernel
theorem dX2_addGuest_9 : decode cX2_addGuest 9 = .ok (.iload_n 1, 1) := by decide +kernel
theorem dX2_addGuest_10 : decode cX2_addGuest 10 = .ok (.iconst 0, 1) := by decide +kernel
theorem dX2_addGuest_11 : decode cX2_addGuest 11 = .ok (.iconst 3, 1) := by decide +kernel
theorem dX2_addGuest_12 : decode cX2_addGuest 12 = .ok (.invokestatic 43, 3) := by decide +kernel
theorem dX2_addGuest_15 : decode cX2_addGuest 15 = .ok (.ifCond .ne 5, 3) := by decide +kernel
theorem dX2_addGuest_18 : decode cX2_addGuest 18 = .ok (.iconst 0, 1) := by decide +kernel
theorem dX2_addGuest_19 : decode cX2_addGuest 19 = .ok (.ireturn, 1) := by decide +kernel
theorem dX2_addGuest_20 : decode cX2_addGuest 20 = .ok (.aload_n 0, 1) := by decide +kernel
theorem dX2_addGuest_21 : decode cX2_addGuest 21 = .ok (.getfield 9, 3) := by decide +kernel
theorem dX2_addGuest_24 : decode cX2_addGuest 24 = .ok (.aload_n 0, 1) := by decide +kernel
theorem dX2_addGuest_25 : decode cX2_addGuest 25 = .ok (.getfield 34, 3) := by decide +kernel
theorem dX2_addGuest_28 : decode cX2_addGuest 28 = .ok (.iload_n 1, 1) := by decide +kernel
theorem dX2_addGuest_29 : decode cX2_addGuest 29 = .ok (.iastore, 1) := by decide +kernel
theorem dX2_addGuest_30 : decode cX2_addGuest 30 = .ok (.aload_n 0, 1) := by decide +kernel
theorem dX2_addGuest_31 : decode cX2_addGuest 31 = .ok (.getfield 15, 3) := by decide +kernel
theorem dX2_addGuest_34 : decode cX2_addGuest 34 = .ok (.aload_n 0, 1) := by decide +kernel
theorem dX2_addGuest_35 : decode cX2_addGuest 35 = .ok (.getfield 34, 3) := by decide +kernel
theorem dX2_addGuest_38 : decode cX2_addGuest 38 = .ok (.iload_n 2, 1) := by decide +kernel
theorem dX2_addGuest_39 : decode cX2_addGuest 39 = .ok (.iastore, 1) := by decide +kernel
theorem dX2_addGuest_40 : decode cX2_addGuest 40 = .ok (.aload_n 0, 1) := by decide +kernel
theorem dX2_addGuest_41 : decode cX2_addGuest 41 = .ok (.getfield 18, 3) := by decide +kernel
theorem dX2_addGuest_44 : decode cX2_addGuest 44 = .ok (.aload_n 0, 1) := by decide +kernel
theorem dX2_addGuest_45 : decode cX2_addGuest 45 = .ok (.getfield 34, 3) := by decide +kernel
theorem dX2_addGuest_48 : decode cX2_addGuest 48 = .ok (.iload_n 3, 1) := by decide +kernel
theorem dX2_addGuest_49 : decode cX2_addGuest 49 = .ok (.iastore, 1) := by decide +kernel
theorem dX2_addGuest_50 : decode cX2_addGuest 50 = .ok (.aload_n 0, 1) := by decide +kernel
theorem dX2_addGuest_51 : decode cX2_addGuest 51 = .ok (.dup, 1) := by decide +kernel
theorem dX2_addGuest_52 : decode cX2_addGuest 52 = .ok (.getfield 34, 3) := by decide +kernel
theorem dX2_addGuest_55 : decode cX2_addGuest 55 = .ok (.iconst 1, 1) := by decide +kernel
theorem dX2_addGuest_56 : decode cX2_addGuest 56 = .ok (.iadd, 1) := by decide +kernel
theorem dX2_addGuest_57 : decode cX2_addGuest 57 = .ok (.putfield 34, 3) := by decide +kernel
theorem dX2_addGuest_60 : decode cX2_addGuest 60 = .ok (.iconst 1, 1) := by decide +kernel
theorem dX2_addGuest_61 : decode cX2_addGuest 61 = .ok (.ireturn, 1) := by decide +kernel
theorem dX3_init_0 : decode cX3_init 0 = .ok (.aload_n 0, 1) := by decide +kernel
theorem dX3_init_1 : decode cX3_init 1 = .ok (.invokespecial 3, 3) := by decide +kernel
theorem dX3_init_4 : decode cX3_init 4 = .ok (.aload_n 0, 1) := by decide +kernel
theorem dX3_init_5 : decode cX3_init 5 = .ok (.bipush 9, 2) := by decide +kernel
theorem dX3_init_7 : decode cX3_init 7 = .ok (.newarray .int, 2) := by decide +kernel
theorem dX3_init_9 : decode cX3_init 9 = .ok (.putfield 9, 3) := by decide +kernel
theorem dX3_init_12 : decode cX3_init 12 = .ok (.aload_n 0, 1) := by decide +kernel
theorem dX3_init_13 : decode cX3_init 13 = .ok (.bipush 9, 2) := by decide +kernel
theorem dX3_init_15 : decode cX3_init 15 = .ok (.newarray .int, 2) := by decide +kernel
theorem dX3_init_17 : decode cX3_init 17 = .ok (.putfield 15, 3) := by decide +kernel
theorem dX3_init_20 : decode cX3_init 20 = .ok (.aload_n 0, 1) := by decide +kernel
theorem dX3_init_21 : decode cX3_init 21 = .ok (.bipush 9, 2) := by decide +kernel
theorem dX3_init_23 : decode cX3_init 23 = .ok (.newarray .int, 2) := by decide +kernel
theorem dX3_init_25 : decode cX3_init 25 = .ok (.putfield 18, 3) := by decide +kernel
theorem dX3_init_28 : decode cX3_init 28 = .ok (.return_, 1) := by decide +kernel
theorem dX3_settle_0 : decode cX3_settle 0 = .ok (.aload_n 0, 1) := by decide +kernel
theorem dX3_settle_1 : decode cX3_settle 1 = .ok (.aload_n 1, 1) := by decide +kernel
theorem dX3_settle_2 : decode cX3_settle 2 = .ok (.invokevirtual 21, 3) := by decide +kernel
theorem dX3_settle_5 : decode cX3_settle 5 = .ok (.sipush 511, 3) := by decide +kernel
theorem dX3_settle_8 : decode cX3_settle 8 = .ok (.istore_n 2, 1) := by decide +kernel
theorem dX3_settle_9 : decode cX3_settle 9 = .ok (.aload_n 0, 1) := by decide +kernel
theorem dX3_settle_10 : decode cX3_settle 10 = .ok (.aload_n 0, 1) := by decide +kernel
theorem dX3_settle_11 : decode cX3_settle 11 = .ok (.iconst 0, 1) := by decide +kernel
theorem dX3_settle_12 : decode cX3_settle 12 = .ok (.iload_n 2, 1) := by decide +kernel
theorem dX3_settle_13 : decode cX3_settle 13 = .ok (.invokevirtual 25, 3) := by decide +kernel
theorem dX3_settle_16 : decode cX3_settle 16 = .ok (.putfield 29, 3) := by decide +kernel
theorem dX3_settle_19 : decode cX3_settle 19 = .ok (.aload_n 0, 1) := by decide +kernel
theorem dX3_settle_20 : decode cX3_settle 20 = .ok (.getfield 29, 3) := by decide +kernel
theorem dX3_settle_23 : decode cX3_settle 23 = .ok (.istore_n 3, 1) := by decide +kernel
theorem dX3_settle_24 : decode cX3_settle 24 = .ok (.iconst 0, 1) := by decide +kernel
theorem dX3_settle_25 : decode cX3_settle 25 = .ok (.istore 4, 2) := by decide +kernel
theorem dX3_settle_27 : decode cX3_settle 27 = .ok (.iload 4, 2) := by decide +kernel
theorem dX3_settle_29 : decode cX3_settle 29 = .ok (.aload_n 0, 1) := by decide +kernel
theorem dX3_settle_30 : decode cX3_settle 30 = .ok (.getfield 33, 3) := by decide +kernel
theorem dX3_settle_33 : decode cX3_settle 33 = .ok (.if_icmp .ge 53, 3) := by decide +kernel
theorem dX3_settle_36 : decode cX3_settle 36 = .ok (.aload_n 0, 1) := by decide +kernel
theorem dX3_settle_37 : decode cX3_settle 37 = .ok (.getfield 18, 3) := by decide +kernel
theorem dX3_settle_40 : decode cX3_settle 40 = .ok (.iload 4, 2) := by decide +kernel
theorem dX3_settle_42 : decode cX3_settle 42 = .ok (.aload_n 0, 1) := by decide +kernel
theorem dX3_settle_43 : decode cX3_settle 43 = .ok (.iload 4, 2) := by decide +kernel
theorem dX3_settle_45 : decode cX3_settle 45 = .ok (.iload_n 2, 1) := by decide +kernel
theorem dX3_settle_46 : decode cX3_settle 46 = .ok (.iload_n 3, 1) := by decide +kernel
theorem dX3_settle_47 : decode cX3_settle 47 = .ok (.invokevirtual 36, 3) := by decide +kernel
theorem dX3_settle_50 : decode cX3_settle 50 = .ok (.iastore, 1) := by decide +kernel
theorem dX3_settle_51 : decode cX3_settle 51 = .ok (.aload_n 0, 1) := by decide +kernel
theorem dX3_settle_52 : decode cX3_settle 52 = .ok (.getfield 18, 3) := by decide +kernel
theorem dX3_settle_55 : decode cX3_settle 55 = .ok (.iload 4, 2) := by decide +kernel
theorem dX3_settle_57 : decode cX3_settle 57 = .ok (.iaload, 1) := by decide +kernel
theorem dX3_settle_58 : decode cX3_settle 58 = .ok (.bipush (-4), 2) := by decide +kernel
theorem dX3_settle_60 : decode cX3_settle 60 = .ok (.if_icmp .eq 20, 3) := by decide +kernel
theorem dX3_settle_63 : decode cX3_settle 63 = .ok (.iload_n 2, 1) := by decide +kernel
theorem dX3_settle_64 : decode cX3_settle 64 = .ok (.iconst 1, 1) := by decide +kernel
theorem dX3_settle_65 : decode cX3_settle 65 = .ok (.aload_n 0, 1) := by decide +kernel
theorem dX3_settle_66 : decode cX3_settle 66 = .ok (.getfield 18, 3) := by decide +kernel
theorem dX3_settle_69 : decode cX3_settle 69 = .ok (.iload 4, 2) := by decide +kernel
theorem dX3_settle_71 : decode cX3_settle 71 = .ok (.iaload, 1) := by decide +kernel
theorem dX3_settle_72 : decode cX3_settle 72 = .ok (.ishl, 1) := by decide +kernel
theorem dX3_settle_73 : decode cX3_settle 73 = .ok (.iconst (-1), 1) := by decide +kernel
theorem dX3_settle_74 : decode cX3_settle 74 = .ok (.ixor, 1) := by decide +kernel
theorem dX3_settle_75 : decode cX3_settle 75 = .ok (.iand, 1) := by decide +kernel
theorem dX3_settle_76 : decode cX3_settle 76 = .ok (.istore_n 2, 1) := by decide +kernel
theorem dX3_settle_77 : decode cX3_settle 77 = .ok (.iinc 3 (-1), 3) := by decide +kernel
theorem dX3_settle_80 : decode cX3_settle 80 = .ok (.iinc 4 1, 3) := by decide +kernel
theorem dX3_settle_83 : decode cX3_settle 83 = .ok (.goto (-56), 3) := by decide +kernel
theorem dX3_settle_86 : decode cX3_settle 86 = .ok (.return_, 1) := by decide +kernel
theorem dX3_findFitting_0 : decode cX3_findFitting 0 = .ok (.aload_n 0, 1) := by decide +kernel
theorem dX3_findFitting_1 : decode cX3_findFitting 1 = .ok (.aload_n 1, 1) := by decide +kernel
theorem dX3_findFitting_2 : decode cX3_findFitting 2 = .ok (.getfield 40, 3) := by decide +kernel
theorem dX3_findFitting_5 : decode cX3_findFitting 5 = .ok (.getfield 46, 3) := by decide +kernel
theorem dX3_findFitting_8 : decode cX3_findFitting 8 = .ok (.putfield 33, 3) := by decide +kernel
theorem dX3_findFitting_11 : decode cX3_findFitting 11 = .ok (.iconst 0, 1) := by decide +kernel
theorem dX3_findFitting_12 : decode cX3_findFitting 12 = .ok (.istore_n 2, 1) := by decide +kernel
theorem dX3_findFitting_13 : decode cX3_findFitting 13 = .ok (.iload_n 2, 1) := by decide +kernel
theorem dX3_findFitting_14 : decode cX3_findFitting 14 = .ok (.aload_n 0, 1) := by decide +kernel
theorem dX3_findFitting_15 : decode cX3_findFitting 15 = .ok (.getfield 33, 3) := by decide +kernel
theorem dX3_findFitting_18 : decode cX3_findFitting 18 = .ok (.if_icmp .ge 62, 3) := by decide +kernel
theorem dX3_findFitting_21 : decode cX3_findFitting 21 = .ok (.aload_n 0, 1) := by decide +kernel
theorem dX3_findFitting_22 : decode cX3_findFitting 22 = .ok (.getfield 9, 3) := by decide +kernel
theorem dX3_findFitting_25 : decode cX3_findFitting 25 = .ok (.iload_n 2, 1) := by decide +kernel
theorem dX3_findFitting_26 : decode cX3_findFitting 26 = .ok (.iconst 0, 1) := by decide +kernel
theorem dX3_findFitting_27 : decode cX3_findFitting 27 = .ok (.iastore, 1) := by decide +kernel
theorem dX3_findFitting_28 : decode cX3_findFitting 28 = .ok (.iconst 0, 1) := by decide +kernel
theorem dX3_findFitting_29 : decode cX3_findFitting 29 = .ok (.istore_n 3, 1) := by decide +kernel
theorem dX3_findFitting_30 : decode cX3_findFitting 30 = .ok (.iload_n 3, 1) := by decide +kernel
theorem dX3_findFitting_31 : decode cX3_findFitting 31 = .ok (.aload_n 0, 1) := by decide +kernel
theorem dX3_findFitting_32 : decode cX3_findFitting 32 = .ok (.getfield 33, 3) := by decide +kernel
theorem dX3_findFitting_35 : decode cX3_findFitting 35 = .ok (.if_icmp .ge 39, 3) := by decide +kernel
theorem dX3_findFitting_38 : decode cX3_findFitting 38 = .ok (.aload_n 1, 1) := by decide +kernel
theorem dX3_findFitting_39 : decode cX3_findFitting 39 = .ok (.iload_n 2, 1) := by decide +kernel
theorem dX3_findFitting_40 : decode cX3_findFitting 40 = .ok (.iload_n 3, 1) := by decide +kernel
theorem dX3_findFitting_41 : decode cX3_findFitting 41 = .ok (.invokevirtual 49, 3) := by decide +kernel
theorem dX3_findFitting_44 : decode cX3_findFitting 44 = .ok (.ifCond .eq 24, 3) := by decide +kernel
theorem dX3_findFitting_47 : decode cX3_findFitting 47 = .ok (.aload_n 1, 1) := by decide +kernel
theorem dX3_findFitting_48 : decode cX3_findFitting 48 = .ok (.iload_n 2, 1) := by decide +kernel
theorem dX3_findFitting_49 : decode cX3_findFitting 49 = .ok (.iload_n 3, 1) := by decide +kernel
theorem dX3_findFitting_50 : decode cX3_findFitting 50 = .ok (.invokevirtual 53, 3) := by decide +kernel
theorem dX3_findFitting_53 : decode cX3_findFitting 53 = .ok (.ifCond .eq 15, 3) := by decide +kernel
theorem dX3_findFitting_56 : decode cX3_findFitting 56 = .ok (.aload_n 0, 1) := by decide +kernel
theorem dX3_findFitting_57 : decode cX3_findFitting 57 = .ok (.getfield 9, 3) := by decide +kernel
theorem dX3_findFitting_60 : decode cX3_findFitting 60 = .ok (.iload_n 2, 1) := by decide +kernel
theorem dX3_findFitting_61 : decode cX3_findFitting 61 = .ok (.dup2, 1) := by decide +kernel
theorem dX3_findFitting_62 : decode cX3_findFitting 62 = .ok (.iaload, 1) := by decide +kernel
theorem dX3_findFitting_63 : decode cX3_findFitting 63 = .ok (.iconst 1, 1) := by decide +kernel
theorem dX3_findFitting_64 : decode cX3_findFitting 64 = .ok (.iload_n 3, 1) := by decide +kernel
theorem dX3_findFitting_65 : decode cX3_findFitting 65 = .ok (.ishl, 1) := by decide +kernel
theorem dX3_findFitting_66 : decode cX3_findFitting 66 = .ok (.ior, 1) := by decide +kernel
theorem dX3_findFitting_67 : decode cX3_findFitting 67 = .ok (.iastore, 1) := by decide +kernel
theorem dX3_findFitting_68 : decode cX3_findFitting 68 = .ok (.iinc 3 1, 3) := by decide +kernel
theorem dX3_findFitting_71 : decode cX3_findFitting 71 = .ok (.goto (-41), 3) := by decide +kernel
theorem dX3_findFitting_74 : decode cX3_findFitting 74 = .ok (.iinc 2 1, 3) := by decide +kernel
theorem dX3_findFitting_77 : decode cX3_findFitting 77 = .ok (.goto (-64), 3) := by decide +kernel
theorem dX3_findFitting_80 : decode cX3_findFitting 80 = .ok (.return_, 1) := by decide +kernel
theorem dX3_lowestThatServes_0 : decode cX3_lowestThatServes 0 = .ok (.iconst 0, 1) := by decide +kernel
theorem dX3_lowestThatServes_1 : decode cX3_lowestThatServes 1 = .ok (.istore 4, 2) := by decide +kernel
theorem dX3_lowestThatServes_3 : decode cX3_lowestThatServes 3 = .ok (.iload 4, 2) := by decide +kernel
theorem dX3_lowestThatServes_5 : decode cX3_lowestThatServes 5 = .ok (.aload_n 0, 1) := by decide +kernel
theorem dX3_lowestThatServes_6 : decode cX3_lowestThatServes 6 = .ok (.getfield 33, 3) := by decide +kernel
theorem dX3_lowestThatServes_9 : decode cX3_lowestThatServes 9 = .ok (.if_icmp .ge 51, 3) := by decide +kernel
theorem dX3_lowestThatServes_12 : decode cX3_lowestThatServes 12 = .ok (.iconst 1, 1) := by decide +kernel
theorem dX3_lowestThatServes_13 : decode cX3_lowestThatServes 13 = .ok (.iload 4, 2) := by decide +kernel
theorem dX3_lowestThatServes_15 : decode cX3_lowestThatServes 15 = .ok (.ishl, 1) := by decide +kernel
theorem dX3_lowestThatServes_16 : decode cX3_lowestThatServes 16 = .ok (.istore 5, 2) := by decide +kernel
theorem dX3_lowestThatServes_18 : decode cX3_lowestThatServes 18 = .ok (.aload_n 0, 1) := by decide +kernel
theorem dX3_lowestThatServes_19 : decode cX3_lowestThatServes 19 = .ok (.getfield 9, 3) := by decide +kernel
theorem dX3_lowestThatServes_22 : decode cX3_lowestThatServes 22 = .ok (.iload_n 1, 1) := by decide +kernel
theorem dX3_lowestThatServes_23 : decode cX3_lowestThatServes 23 = .ok (.iaload, 1) := by decide +kernel
theorem dX3_lowestThatServes_24 : decode cX3_lowestThatServes 24 = .ok (.iload_n 2, 1) := by decide +kernel
theorem dX3_lowestThatServes_25 : decode cX3_lowestThatServes 25 = .ok (.iand, 1) := by decide +kernel
theorem dX3_lowestThatServes_26 : decode cX3_lowestThatServes 26 = .ok (.iload 5, 2) := by decide +kernel
theorem dX3_lowestThatServes_28 : decode cX3_lowestThatServes 28 = .ok (.iand, 1) := by decide +kernel
theorem dX3_lowestThatServes_29 : decode cX3_lowestThatServes 29 = .ok (.ifCond .eq 25, 3) := by decide +kernel
theorem dX3_lowestThatServes_32 : decode cX3_lowestThatServes 32 = .ok (.iconst 1, 1) := by decide +kernel
theorem dX3_lowestThatServes_33 : decode cX3_lowestThatServes 33 = .ok (.aload_n 0, 1) := by decide +kernel
theorem dX3_lowestThatServes_34 : decode cX3_lowestThatServes 34 = .ok (.iload_n 1, 1) := by decide +kernel
theorem dX3_lowestThatServes_35 : decode cX3_lowestThatServes 35 = .ok (.iconst 1, 1) := by decide +kernel
theorem dX3_lowestThatServes_36 : decode cX3_lowestThatServes 36 = .ok (.iadd, 1) := by decide +kernel
theorem dX3_lowestThatServes_37 : decode cX3_lowestThatServes 37 = .ok (.iload_n 2, 1) := by decide +kernel
theorem dX3_lowestThatServes_38 : decode cX3_lowestThatServes 38 = .ok (.iload 5, 2) := by decide +kernel
theorem dX3_lowestThatServes_40 : decode cX3_lowestThatServes 40 = .ok (.iconst (-1), 1) := by decide +kernel
theorem dX3_lowestThatServes_41 : decode cX3_lowestThatServes 41 = .ok (.ixor, 1) := by decide +kernel
theorem dX3_lowestThatServes_42 : decode cX3_lowestThatServes 42 = .ok (.iand, 1) := by decide +kernel
theorem dX3_lowestThatServes_43 : decode cX3_lowestThatServes 43 = .ok (.invokevirtual 25, 3) := by decide +kernel
theorem dX3_lowestThatServes_46 : decode cX3_lowestThatServes 46 = .ok (.iadd, 1) := by decide +kernel
theorem dX3_lowestThatServes_47 : decode cX3_lowestThatServes 47 = .ok (.iload_n 3, 1) := by decide +kernel
theorem dX3_lowestThatServes_48 : decode cX3_lowestThatServes 48 = .ok (.if_icmp .ne 6, 3) := by decide +kernel
theorem dX3_lowestThatServes_51 : decode cX3_lowestThatServes 51 = .ok (.iload 4, 2) := by decide +kernel
theorem dX3_lowestThatServes_53 : decode cX3_lowestThatServes 53 = .ok (.ireturn, 1) := by decide +kernel
theorem dX3_lowestThatServes_54 : decode cX3_lowestThatServes 54 = .ok (.iinc 4 1, 3) := by decide +kernel
theorem dX3_lowestThatServes_57 : decode cX3_lowestThatServes 57 = .ok (.goto (-54), 3) := by decide +kernel
theorem dX3_lowestThatServes_60 : decode cX3_lowestThatServes 60 = .ok (.bipush (-4), 2) := by decide +kernel
theorem dX3_lowestThatServes_62 : decode cX3_lowestThatServes 62 = .ok (.ireturn, 1) := by decide +kernel
theorem dX3_mostFrom_0 : decode cX3_mostFrom 0 = .ok (.iconst 0, 1) := by decide +kernel
theorem dX3_mostFrom_1 : decode cX3_mostFrom 1 = .ok (.istore_n 3, 1) := by decide +kernel
theorem dX3_mostFrom_2 : decode cX3_mostFrom 2 = .ok (.iload_n 3, 1) := by decide +kernel
theorem dX3_mostFrom_3 : decode cX3_mostFrom 3 = .ok (.bipush 9, 2) := by decide +kernel
theorem dX3_mostFrom_5 : decode cX3_mostFrom 5 = .ok (.if_icmp .ge 17, 3) := by decide +kernel
theorem dX3_mostFrom_8 : decode cX3_mostFrom 8 = .ok (.aload_n 0, 1) := by decide +kernel
theorem dX3_mostFrom_9 : decode cX3_mostFrom 9 = .ok (.getfield 15, 3) := by decide +kernel
theorem dX3_mostFrom_12 : decode cX3_mostFrom 12 = .ok (.iload_n 3, 1) := by decide +kernel
theorem dX3_mostFrom_13 : decode cX3_mostFrom 13 = .ok (.bipush (-4), 2) := by decide +kernel
theorem dX3_mostFrom_15 : decode cX3_mostFrom 15 = .ok (.iastore, 1) := by decide +kernel
theorem dX3_mostFrom_16 : decode cX3_mostFrom 16 = .ok (.iinc 3 1, 3) := by decide +kernel
theorem dX3_mostFrom_19 : decode cX3_mostFrom 19 = .ok (.goto (-17), 3) := by decide +kernel
theorem dX3_mostFrom_22 : decode cX3_mostFrom 22 = .ok (.iconst 0, 1) := by decide +kernel
theorem dX3_mostFrom_23 : decode cX3_mostFrom 23 = .ok (.istore_n 3, 1) := by decide +kernel
theorem dX3_mostFrom_24 : decode cX3_mostFrom 24 = .ok (.iload_n 1, 1) := by decide +kernel
theorem dX3_mostFrom_25 : decode cX3_mostFrom 25 = .ok (.istore 4, 2) := by decide +kernel
theorem dX3_mostFrom_27 : decode cX3_mostFrom 27 = .ok (.iload 4, 2) := by decide +kernel
theorem dX3_mostFrom_29 : decode cX3_mostFrom 29 = .ok (.aload_n 0, 1) := by decide +kernel
theorem dX3_mostFrom_30 : decode cX3_mostFrom 30 = .ok (.getfield 33, 3) := by decide +kernel
theorem dX3_mostFrom_33 : decode cX3_mostFrom 33 = .ok (.if_icmp .ge 29, 3) := by decide +kernel
theorem dX3_mostFrom_36 : decode cX3_mostFrom 36 = .ok (.aload_n 0, 1) := by decide +kernel
theorem dX3_mostFrom_37 : decode cX3_mostFrom 37 = .ok (.iload_n 2, 1) := by decide +kernel
theorem dX3_mostFrom_38 : decode cX3_mostFrom 38 = .ok (.iconst (-1), 1) := by decide +kernel
theorem dX3_mostFrom_39 : decode cX3_mostFrom 39 = .ok (.ixor, 1) := by decide +kernel
theorem dX3_mostFrom_40 : decode cX3_mostFrom 40 = .ok (.putfield 56, 3) := by decide +kernel
theorem dX3_mostFrom_43 : decode cX3_mostFrom 43 = .ok (.aload_n 0, 1) := by decide +kernel
theorem dX3_mostFrom_44 : decode cX3_mostFrom 44 = .ok (.iload 4, 2) := by decide +kernel
theorem dX3_mostFrom_46 : decode cX3_mostFrom 46 = .ok (.iconst 0, 1) := by decide +kernel
theorem dX3_mostFrom_47 : decode cX3_mostFrom 47 = .ok (.invokestatic 59, 3) := by decide +kernel
theorem dX3_mostFrom_50 : decode cX3_mostFrom 50 = .ok (.ifCond .eq 6, 3) := by decide +kernel
theorem dX3_mostFrom_53 : decode cX3_mostFrom 53 = .ok (.iinc 3 1, 3) := by decide +kernel
theorem dX3_mostFrom_56 : decode cX3_mostFrom 56 = .ok (.iinc 4 1, 3) := by decide +kernel
theorem dX3_mostFrom_59 : decode cX3_mostFrom 59 = .ok (.goto (-32), 3) := by decide +kernel
theorem dX3_mostFrom_62 : decode cX3_mostFrom 62 = .ok (.iload_n 3, 1) := by decide +kernel
theorem dX3_mostFrom_63 : decode cX3_mostFrom 63 = .ok (.ireturn, 1) := by decide +kernel
theorem dX3_findsOne_0 : decode cX3_findsOne 0 = .ok (.iload_n 2, 1) := by decide +kernel
theorem dX3_findsOne_1 : decode cX3_findsOne 1 = .ok (.bipush 9, 2) := by decide +kernel
theorem dX3_findsOne_3 : decode cX3_findsOne 3 = .ok (.if_icmp .lt 5, 3) := by decide +kernel
theorem dX3_findsOne_6 : decode cX3_findsOne 6 = .ok (.iconst 0, 1) := by decide +kernel
theorem dX3_findsOne_7 : decode cX3_findsOne 7 = .ok (.ireturn, 1) := by decide +kernel
theorem dX3_findsOne_8 : decode cX3_findsOne 8 = .ok (.iconst 0, 1) := by decide +kernel
theorem dX3_findsOne_9 : decode cX3_findsOne 9 = .ok (.istore_n 3, 1) := by decide +kernel
theorem dX3_findsOne_10 : decode cX3_findsOne 10 = .ok (.iload_n 3, 1) := by decide +kernel
theorem dX3_findsOne_11 : decode cX3_findsOne 11 = .ok (.aload_n 0, 1) := by decide +kernel
theorem dX3_findsOne_12 : decode cX3_findsOne 12 = .ok (.getfield 33, 3) := by decide +kernel
theorem dX3_findsOne_15 : decode cX3_findsOne 15 = .ok (.if_icmp .ge 83, 3) := by decide +kernel
theorem dX3_findsOne_18 : decode cX3_findsOne 18 = .ok (.iconst 1, 1) := by decide +kernel
theorem dX3_findsOne_19 : decode cX3_findsOne 19 = .ok (.iload_n 3, 1) := by decide +kernel
theorem dX3_findsOne_20 : decode cX3_findsOne 20 = .ok (.ishl, 1) := by decide +kernel
theorem dX3_findsOne_21 : decode cX3_findsOne 21 = .ok (.istore 4, 2) := by decide +kernel
theorem dX3_findsOne_23 : decode cX3_findsOne 23 = .ok (.aload_n 0, 1) := by decide +kernel
theorem dX3_findsOne_24 : decode cX3_findsOne 24 = .ok (.getfield 9, 3) := by decide +kernel
theorem dX3_findsOne_27 : decode cX3_findsOne 27 = .ok (.iload_n 1, 1) := by decide +kernel
theorem dX3_findsOne_28 : decode cX3_findsOne 28 = .ok (.iaload, 1) := by decide +kernel
theorem dX3_findsOne_29 : decode cX3_findsOne 29 = .ok (.aload_n 0, 1) := by decide +kernel
theorem dX3_findsOne_30 : decode cX3_findsOne 30 = .ok (.getfield 56, 3) := by decide +kernel
theorem dX3_findsOne_33 : decode cX3_findsOne 33 = .ok (.iconst (-1), 1) := by decide +kernel
theorem dX3_findsOne_34 : decode cX3_findsOne 34 = .ok (.ixor, 1) := by decide +kernel
theorem dX3_findsOne_35 : decode cX3_findsOne 35 = .ok (.iand, 1) := by decide +kernel
theorem dX3_findsOne_36 : decode cX3_findsOne 36 = .ok (.iload 4, 2) := by decide +kernel
theorem dX3_findsOne_38 : decode cX3_findsOne 38 = .ok (.iand, 1) := by decide +kernel
theorem dX3_findsOne_39 : decode cX3_findsOne 39 = .ok (.ifCond .ne 6, 3) := by decide +kernel
theorem dX3_findsOne_42 : decode cX3_findsOne 42 = .ok (.goto 50, 3) := by decide +kernel
theorem dX3_findsOne_45 : decode cX3_findsOne 45 = .ok (.aload_n 0, 1) := by decide +kernel
theorem dX3_findsOne_46 : decode cX3_findsOne 46 = .ok (.dup, 1) := by decide +kernel
theorem dX3_findsOne_47 : decode cX3_findsOne 47 = .ok (.getfield 56, 3) := by decide +kernel
theorem dX3_findsOne_50 : decode cX3_findsOne 50 = .ok (.iload 4, 2) := by decide +kernel
theorem dX3_findsOne_52 : decode cX3_findsOne 52 = .ok (.ior, 1) := by decide +kernel
theorem dX3_findsOne_53 : decode cX3_findsOne 53 = .ok (.putfield 56, 3) := by decide +kernel
theorem dX3_findsOne_56 : decode cX3_findsOne 56 = .ok (.aload_n 0, 1) := by decide +kernel
theorem dX3_findsOne_57 : decode cX3_findsOne 57 = .ok (.getfield 15, 3) := by decide +kernel
theorem dX3_findsOne_60 : decode cX3_findsOne 60 = .ok (.iload_n 3, 1) := by decide +kernel
theorem dX3_findsOne_61 : decode cX3_findsOne 61 = .ok (.iaload, 1) := by decide +kernel
theorem dX3_findsOne_62 : decode cX3_findsOne 62 = .ok (.istore 5, 2) := by decide +kernel
theorem dX3_findsOne_64 : decode cX3_findsOne 64 = .ok (.iload 5, 2) := by decide +kernel
theorem dX3_findsOne_66 : decode cX3_findsOne 66 = .ok (.bipush (-4), 2) := by decide +kernel
theorem dX3_findsOne_68 : decode cX3_findsOne 68 = .ok (.if_icmp .eq 15, 3) := by decide +kernel
theorem dX3_findsOne_71 : decode cX3_findsOne 71 = .ok (.aload_n 0, 1) := by decide +kernel
theorem dX3_findsOne_72 : decode cX3_findsOne 72 = .ok (.iload 5, 2) := by decide +kernel
theorem dX3_findsOne_74 : decode cX3_findsOne 74 = .ok (.iload_n 2, 1) := by decide +kernel
theorem dX3_findsOne_75 : decode cX3_findsOne 75 = .ok (.iconst 1, 1) := by decide +kernel
theorem dX3_findsOne_76 : decode cX3_findsOne 76 = .ok (.iadd, 1) := by decide +kernel
theorem dX3_findsOne_77 : decode cX3_findsOne 77 = .ok (.invokestatic 59, 3) := by decide +kernel
theorem dX3_findsOne_80 : decode cX3_findsOne 80 = .ok (.ifCond .eq 12, 3) := by decide +kernel
theorem dX3_findsOne_83 : decode cX3_findsOne 83 = .ok (.aload_n 0, 1) := by decide +kernel
theorem dX3_findsOne_84 : decode cX3_findsOne 84 = .ok (.getfield 15, 3) := by decide +kernel
theorem dX3_findsOne_87 : decode cX3_findsOne 87 = .ok (.iload_n 3, 1) := by decide +kernel
theorem dX3_findsOne_88 : decode cX3_findsOne 88 = .ok (.iload_n 1, 1) := by decide +kernel
theorem dX3_findsOne_89 : decode cX3_findsOne 89 = .ok (.iastore, 1) := by decide +kernel
theorem dX3_findsOne_90 : decode cX3_findsOne 90 = .ok (.iconst 1, 1) := by decide +kernel
theorem dX3_findsOne_91 : decode cX3_findsOne 91 = .ok (.ireturn, 1) := by decide +kernel
theorem dX3_findsOne_92 : decode cX3_findsOne 92 = .ok (.iinc 3 1, 3) := by decide +kernel
theorem dX3_findsOne_95 : decode cX3_findsOne 95 = .ok (.goto (-85), 3) := by decide +kernel
theorem dX3_findsOne_98 : decode cX3_findsOne 98 = .ok (.iconst 0, 1) := by decide +kernel
theorem dX3_findsOne_99 : decode cX3_findsOne 99 = .ok (.ireturn, 1) := by decide +kernel
theorem dX4_init_0 : decode cX4_init 0 = .ok (.aload_n 0, 1) := by decide +kernel
theorem dX4_init_1 : decode cX4_init 1 = .ok (.invokespecial 3, 3) := by decide +kernel
theorem dX4_init_4 : decode cX4_init 4 = .ok (.aload_n 0, 1) := by decide +kernel
theorem dX4_init_5 : decode cX4_init 5 = .ok (.bipush 6, 2) := by decide +kernel
theorem dX4_init_7 : decode cX4_init 7 = .ok (.newarray .int, 2) := by decide +kernel
theorem dX4_init_9 : decode cX4_init 9 = .ok (.putfield 9, 3) := by decide +kernel
theorem dX4_init_12 : decode cX4_init 12 = .ok (.aload_n 0, 1) := by decide +kernel
theorem dX4_init_13 : decode cX4_init 13 = .ok (.bipush 6, 2) := by decide +kernel
theorem dX4_init_15 : decode cX4_init 15 = .ok (.newarray .int, 2) := by decide +kernel
theorem dX4_init_17 : decode cX4_init 17 = .ok (.putfield 15, 3) := by decide +kernel
theorem dX4_init_20 : decode cX4_init 20 = .ok (.aload_n 0, 1) := by decide +kernel
theorem dX4_init_21 : decode cX4_init 21 = .ok (.bipush 6, 2) := by decide +kernel
theorem dX4_init_23 : decode cX4_init 23 = .ok (.newarray .int, 2) := by decide +kernel
theorem dX4_init_25 : decode cX4_init 25 = .ok (.putfield 18, 3) := by decide +kernel
theorem dX4_init_28 : decode cX4_init 28 = .ok (.aload_n 0, 1) := by decide +kernel
theorem dX4_init_29 : decode cX4_init 29 = .ok (.bipush 6, 2) := by decide +kernel
theorem dX4_init_31 : decode cX4_init 31 = .ok (.newarray .int, 2) := by decide +kernel
theorem dX4_init_33 : decode cX4_init 33 = .ok (.putfield 21, 3) := by decide +kernel
theorem dX4_init_36 : decode cX4_init 36 = .ok (.return_, 1) := by decide +kernel
theorem dX4_add_0 : decode cX4_add 0 = .ok (.aload_n 0, 1) := by decide +kernel
theorem dX4_add_1 : decode cX4_add 1 = .ok (.getfield 24, 3) := by decide +kernel
theorem dX4_add_4 : decode cX4_add 4 = .ok (.bipush 6, 2) := by decide +kernel
theorem dX4_add_6 : decode cX4_add 6 = .ok (.if_icmp .lt 5, 3) := by decide +kernel
theorem dX4_add_9 : decode cX4_add 9 = .ok (.iconst 0, 1) := by decide +kernel
theorem dX4_add_10 : decode cX4_add 10 = .ok (.ireturn, 1) := by decide +kernel
theorem dX4_add_11 : decode cX4_add 11 = .ok (.aload_n 0, 1) := by decide +kernel
theorem dX4_add_12 : decode cX4_add 12 = .ok (.getfield 9, 3) := by decide +kernel
theorem dX4_add_15 : decode cX4_add 15 = .ok (.aload_n 0, 1) := by decide +kernel
theorem dX4_add_16 : decode cX4_add 16 = .ok (.getfield 24, 3) := by decide +kernel
theorem dX4_add_19 : decode cX4_add 19 = .ok (.iload_n 1, 1) := by decide +kernel
theorem dX4_add_20 : decode cX4_add 20 = .ok (.iastore, 1) := by decide +kernel
theorem dX4_add_21 : decode cX4_add 21 = .ok (.aload_n 0, 1) := by decide +kernel
theorem dX4_add_22 : decode cX4_add 22 = .ok (.getfield 15, 3) := by decide +kernel
theorem dX4_add_25 : decode cX4_add 25 = .ok (.aload_n 0, 1) := by decide +kernel
theorem dX4_add_26 : decode cX4_add 26 = .ok (.getfield 24, 3) := by decide +kernel
theorem dX4_add_29 : decode cX4_add 29 = .ok (.iload_n 2, 1) := by decide +kernel
theorem dX4_add_30 : decode cX4_add 30 = .ok (.iastore, 1) := by decide +kernel
theorem dX4_add_31 : decode cX4_add 31 = .ok (.aload_n 0, 1) := by decide +kernel
theorem dX4_add_32 : decode cX4_add 32 = .ok (.getfield 18, 3) := by decide +kernel
theorem dX4_add_35 : decode cX4_add 35 = .ok (.aload_n 0, 1) := by decide +kernel
theorem dX4_add_36 : decode cX4_add 36 = .ok (.getfield 24, 3) := by decide +kernel
theorem dX4_add_39 : decode cX4_add 39 = .ok (.iload_n 3, 1) := by decide +kernel
theorem dX4_add_40 : decode cX4_add 40 = .ok (.iastore, 1) := by decide +kernel
theorem dX4_add_41 : decode cX4_add 41 = .ok (.aload_n 0, 1) := by decide +kernel
theorem dX4_add_42 : decode cX4_add 42 = .ok (.getfield 21, 3) := by decide +kernel
theorem dX4_add_45 : decode cX4_add 45 = .ok (.aload_n 0, 1) := by decide +kernel
theorem dX4_add_46 : decode cX4_add 46 = .ok (.getfield 24, 3) := by decide +kernel
theorem dX4_add_49 : decode cX4_add 49 = .ok (.iload 4, 2) := by decide +kernel
theorem dX4_add_51 : decode cX4_add 51 = .ok (.iastore, 1) := by decide +kernel
theorem dX4_add_52 : decode cX4_add 52 = .ok (.aload_n 0, 1) := by decide +kernel
theorem dX4_add_53 : decode cX4_add 53 = .ok (.dup, 1) := by decide +kernel
theorem dX4_add_54 : decode cX4_add 54 = .ok (.getfield 24, 3) := by decide +kernel
theorem dX4_add_57 : decode cX4_add 57 = .ok (.iconst 1, 1) := by decide +kernel
theorem dX4_add_58 : decode cX4_add 58 = .ok (.iadd, 1) := by decide +kernel
theorem dX4_add_59 : decode cX4_add 59 = .ok (.putfield 24, 3) := by decide +kernel
theorem dX4_add_62 : decode cX4_add 62 = .ok (.iconst 1, 1) := by decide +kernel
theorem dX4_add_63 : decode cX4_add 63 = .ok (.ireturn, 1) := by decide +kernel
theorem dX4_fit_0 : decode cX4_fit 0 = .ok (.iconst 0, 1) := by decide +kernel
theorem dX4_fit_1 : decode cX4_fit 1 = .ok (.istore_n 3, 1) := by decide +kernel
theorem dX4_fit_2 : decode cX4_fit 2 = .ok (.iload_n 3, 1) := by decide +kernel
theorem dX4_fit_3 : decode cX4_fit 3 = .ok (.aload_n 0, 1) := by decide +kernel
theorem dX4_fit_4 : decode cX4_fit 4 = .ok (.getfield 24, 3) := by decide +kernel
theorem dX4_fit_7 : decode cX4_fit 7 = .ok (.if_icmp .ge 51, 3) := by decide +kernel
theorem dX4_fit_10 : decode cX4_fit 10 = .ok (.iload_n 2, 1) := by decide +kernel
theorem dX4_fit_11 : decode cX4_fit 11 = .ok (.aload_n 0, 1) := by decide +kernel
theorem dX4_fit_12 : decode cX4_fit 12 = .ok (.getfield 18, 3) := by decide +kernel
theorem dX4_fit_15 : decode cX4_fit 15 = .ok (.iload_n 3, 1) := by decide +kernel
theorem dX4_fit_16 : decode cX4_fit 16 = .ok (.iaload, 1) := by decide +kernel
theorem dX4_fit_17 : decode cX4_fit 17 = .ok (.invokestatic 28, 3) := by decide +kernel
theorem dX4_fit_20 : decode cX4_fit 20 = .ok (.istore 4, 2) := by decide +kernel
theorem dX4_fit_22 : decode cX4_fit 22 = .ok (.iload 4, 2) := by decide +kernel
theorem dX4_fit_24 : decode cX4_fit 24 = .ok (.aload_n 0, 1) := by decide +kernel
theorem dX4_fit_25 : decode cX4_fit 25 = .ok (.getfield 9, 3) := by decide +kernel
theorem dX4_fit_28 : decode cX4_fit 28 = .ok (.iload_n 3, 1) := by decide +kernel
theorem dX4_fit_29 : decode cX4_fit 29 = .ok (.iaload, 1) := by decide +kernel
theorem dX4_fit_30 : decode cX4_fit 30 = .ok (.aload_n 0, 1) := by decide +kernel
theorem dX4_fit_31 : decode cX4_fit 31 = .ok (.getfield 15, 3) := by decide +kernel
theorem dX4_fit_34 : decode cX4_fit 34 = .ok (.iload_n 3, 1) := by decide +kernel
theorem dX4_fit_35 : decode cX4_fit 35 = .ok (.iaload, 1) := by decide +kernel
theorem dX4_fit_36 : decode cX4_fit 36 = .ok (.iload_n 1, 1) := by decide +kernel
theorem dX4_fit_37 : decode cX4_fit 37 = .ok (.invokestatic 32, 3) := by decide +kernel
theorem dX4_fit_40 : decode cX4_fit 40 = .ok (.imul, 1) := by decide +kernel
theorem dX4_fit_41 : decode cX4_fit 41 = .ok (.aload_n 0, 1) := by decide +kernel
theorem dX4_fit_42 : decode cX4_fit 42 = .ok (.getfield 21, 3) := by decide +kernel
theorem dX4_fit_45 : decode cX4_fit 45 = .ok (.iload_n 3, 1) := by decide +kernel
theorem dX4_fit_46 : decode cX4_fit 46 = .ok (.iaload, 1) := by decide +kernel
theorem dX4_fit_47 : decode cX4_fit 47 = .ok (.if_icmp .eq 5, 3) := by decide +kernel
theorem dX4_fit_50 : decode cX4_fit 50 = .ok (.iconst 0, 1) := by decide +kernel
theorem dX4_fit_51 : decode cX4_fit 51 = .ok (.ireturn, 1) := by decide +kernel
theorem dX4_fit_52 : decode cX4_fit 52 = .ok (.iinc 3 1, 3) := by decide +kernel
theorem dX4_fit_55 : decode cX4_fit 55 = .ok (.goto (-53), 3) := by decide +kernel
theorem dX4_fit_58 : decode cX4_fit 58 = .ok (.iconst 1, 1) := by decide +kernel
theorem dX4_fit_59 : decode cX4_fit 59 = .ok (.ireturn, 1) := by decide +kernel
theorem dX5_init_0 : decode cX5_init 0 = .ok (.aload_n 0, 1) := by decide +kernel
theorem dX5_init_1 : decode cX5_init 1 = .ok (.invokespecial 3, 3) := by decide +kernel
theorem dX5_init_4 : decode cX5_init 4 = .ok (.aload_n 0, 1) := by decide +kernel
theorem dX5_init_5 : decode cX5_init 5 = .ok (.sipush 200, 3) := by decide +kernel
theorem dX5_init_8 : decode cX5_init 8 = .ok (.newarray .char, 2) := by decide +kernel
theorem dX5_init_10 : decode cX5_init 10 = .ok (.putfield 9, 3) := by decide +kernel
theorem dX5_init_13 : decode cX5_init 13 = .ok (.aload_n 0, 1) := by decide +kernel
theorem dX5_init_14 : decode cX5_init 14 = .ok (.iconst 3, 1) := by decide +kernel
theorem dX5_init_15 : decode cX5_init 15 = .ok (.newarray .int, 2) := by decide +kernel
theorem dX5_init_17 : decode cX5_init 17 = .ok (.putfield 15, 3) := by decide +kernel
theorem dX5_init_20 : decode cX5_init 20 = .ok (.return_, 1) := by decide +kernel
theorem dX5_length_0 : decode cX5_length 0 = .ok (.aload_n 0, 1) := by decide +kernel
theorem dX5_length_1 : decode cX5_length 1 = .ok (.getfield 19, 3) := by decide +kernel
theorem dX5_length_4 : decode cX5_length 4 = .ok (.ireturn, 1) := by decide +kernel
theorem dX5_add_0 : decode cX5_add 0 = .ok (.aload_n 0, 1) := by decide +kernel
theorem dX5_add_1 : decode cX5_add 1 = .ok (.getfield 19, 3) := by decide +kernel
theorem dX5_add_4 : decode cX5_add 4 = .ok (.sipush 200, 3) := by decide +kernel
theorem dX5_add_7 : decode cX5_add 7 = .ok (.if_icmp .lt 5, 3) := by decide +kernel
theorem dX5_add_10 : decode cX5_add 10 = .ok (.iconst 0, 1) := by decide +kernel
theorem dX5_add_11 : decode cX5_add 11 = .ok (.ireturn, 1) := by decide +kernel
theorem dX5_add_12 : decode cX5_add 12 = .ok (.aload_n 0, 1) := by decide +kernel
theorem dX5_add_13 : decode cX5_add 13 = .ok (.getfield 9, 3) := by decide +kernel
theorem dX5_add_16 : decode cX5_add 16 = .ok (.aload_n 0, 1) := by decide +kernel
theorem dX5_add_17 : decode cX5_add 17 = .ok (.getfield 19, 3) := by decide +kernel
theorem dX5_add_20 : decode cX5_add 20 = .ok (.iload_n 1, 1) := by decide +kernel
theorem dX5_add_21 : decode cX5_add 21 = .ok (.castore, 1) := by decide +kernel
theorem dX5_add_22 : decode cX5_add 22 = .ok (.aload_n 0, 1) := by decide +kernel
theorem dX5_add_23 : decode cX5_add 23 = .ok (.dup, 1) := by decide +kernel
theorem dX5_add_24 : decode cX5_add 24 = .ok (.getfield 19, 3) := by decide +kernel
theorem dX5_add_27 : decode cX5_add 27 = .ok (.iconst 1, 1) := by decide +kernel
theorem dX5_add_28 : decode cX5_add 28 = .ok (.iadd, 1) := by decide +kernel
theorem dX5_add_29 : decode cX5_add 29 = .ok (.putfield 19, 3) := by decide +kernel
theorem dX5_add_32 : decode cX5_add 32 = .ok (.iconst 1, 1) := by decide +kernel
theorem dX5_add_33 : decode cX5_add 33 = .ok (.ireturn, 1) := by decide +kernel
theorem dX5_clear_0 : decode cX5_clear 0 = .ok (.aload_n 0, 1) := by decide +kernel
theorem dX5_clear_1 : decode cX5_clear 1 = .ok (.iconst 0, 1) := by decide +kernel
theorem dX5_clear_2 : decode cX5_clear 2 = .ok (.putfield 19, 3) := by decide +kernel
theorem dX5_clear_5 : decode cX5_clear 5 = .ok (.return_, 1) := by decide +kernel
theorem dX5_readInto_0 : decode cX5_readInto 0 = .ok (.aload_n 1, 1) := by decide +kernel
theorem dX5_readInto_1 : decode cX5_readInto 1 = .ok (.invokevirtual 23, 3) := by decide +kernel
theorem dX5_readInto_4 : decode cX5_readInto 4 = .ok (.aload_n 0, 1) := by decide +kernel
theorem dX5_readInto_5 : decode cX5_readInto 5 = .ok (.iconst 0, 1) := by decide +kernel
theorem dX5_readInto_6 : decode cX5_readInto 6 = .ok (.putfield 28, 3) := by decide +kernel
theorem dX5_readInto_9 : decode cX5_readInto 9 = .ok (.iconst 0, 1) := by decide +kernel
theorem dX5_readInto_10 : decode cX5_readInto 10 = .ok (.istore_n 2, 1) := by decide +kernel
theorem dX5_readInto_11 : decode cX5_readInto 11 = .ok (.iload_n 2, 1) := by decide +kernel
theorem dX5_readInto_12 : decode cX5_readInto 12 = .ok (.sipush 200, 3) := by decide +kernel
theorem dX5_readInto_15 : decode cX5_readInto 15 = .ok (.if_icmp .ge 35, 3) := by decide +kernel
theorem dX5_readInto_18 : decode cX5_readInto 18 = .ok (.aload_n 0, 1) := by decide +kernel
theorem dX5_readInto_19 : decode cX5_readInto 19 = .ok (.getfield 28, 3) := by decide +kernel
theorem dX5_readInto_22 : decode cX5_readInto 22 = .ok (.aload_n 0, 1) := by decide +kernel
theorem dX5_readInto_23 : decode cX5_readInto 23 = .ok (.getfield 19, 3) := by decide +kernel
theorem dX5_readInto_26 : decode cX5_readInto 26 = .ok (.if_icmp .ge 24, 3) := by decide +kernel
theorem dX5_readInto_29 : decode cX5_readInto 29 = .ok (.aload_n 0, 1) := by decide +kernel
theorem dX5_readInto_30 : decode cX5_readInto 30 = .ok (.getfield 28, 3) := by decide +kernel
theorem dX5_readInto_33 : decode cX5_readInto 33 = .ok (.istore_n 3, 1) := by decide +kernel
theorem dX5_readInto_34 : decode cX5_readInto 34 = .ok (.aload_n 0, 1) := by decide +kernel
theorem dX5_readInto_35 : decode cX5_readInto 35 = .ok (.aload_n 1, 1) := by decide +kernel
theorem dX5_readInto_36 : decode cX5_readInto 36 = .ok (.invokevirtual 31, 3) := by decide +kernel
theorem dX5_readInto_39 : decode cX5_readInto 39 = .ok (.ifCond .ne 5, 3) := by decide +kernel
theorem dX5_readInto_42 : decode cX5_readInto 42 = .ok (.iload_n 3, 1) := by decide +kernel
theorem dX5_readInto_43 : decode cX5_readInto 43 = .ok (.ireturn, 1) := by decide +kernel
theorem dX5_readInto_44 : decode cX5_readInto 44 = .ok (.iinc 2 1, 3) := by decide +kernel
theorem dX5_readInto_47 : decode cX5_readInto 47 = .ok (.goto (-36), 3) := by decide +kernel
theorem dX5_readInto_50 : decode cX5_readInto 50 = .ok (.bipush (-4), 2) := by decide +kernel
theorem dX5_readInto_52 : decode cX5_readInto 52 = .ok (.ireturn, 1) := by decide +kernel
theorem dX5_readItem_0 : decode cX5_readItem 0 = .ok (.aload_n 0, 1) := by decide +kernel
theorem dX5_readItem_1 : decode cX5_readItem 1 = .ok (.getfield 9, 3) := by decide +kernel
theorem dX5_readItem_4 : decode cX5_readItem 4 = .ok (.aload_n 0, 1) := by decide +kernel
theorem dX5_readItem_5 : decode cX5_readItem 5 = .ok (.getfield 28, 3) := by decide +kernel
theorem dX5_readItem_8 : decode cX5_readItem 8 = .ok (.caload, 1) := by decide +kernel
theorem dX5_readItem_9 : decode cX5_readItem 9 = .ok (.istore_n 2, 1) := by decide +kernel
theorem dX5_readItem_10 : decode cX5_readItem 10 = .ok (.iload_n 2, 1) := by decide +kernel
theorem dX5_readItem_11 : decode cX5_readItem 11 = .ok (.invokestatic 35, 3) := by decide +kernel
theorem dX5_readItem_14 : decode cX5_readItem 14 = .ok (.istore_n 3, 1) := by decide +kernel
theorem dX5_readItem_15 : decode cX5_readItem 15 = .ok (.aload_n 0, 1) := by decide +kernel
theorem dX5_readItem_16 : decode cX5_readItem 16 = .ok (.dup, 1) := by decide +kernel
theorem dX5_readItem_17 : decode cX5_readItem 17 = .ok (.getfield 28, 3) := by decide +kernel
theorem dX5_readItem_20 : decode cX5_readItem 20 = .ok (.iconst 1, 1) := by decide +kernel
theorem dX5_readItem_21 : decode cX5_readItem 21 = .ok (.iadd, 1) := by decide +kernel
theorem dX5_readItem_22 : decode cX5_readItem 22 = .ok (.putfield 28, 3) := by decide +kernel
theorem dX5_readItem_25 : decode cX5_readItem 25 = .ok (.iconst 0, 1) := by decide +kernel
theorem dX5_readItem_26 : decode cX5_readItem 26 = .ok (.istore 4, 2) := by decide +kernel
theorem dX5_readItem_28 : decode cX5_readItem 28 = .ok (.iload 4, 2) := by decide +kernel
theorem dX5_readItem_30 : decode cX5_readItem 30 = .ok (.iload_n 3, 1) := by decide +kernel
theorem dX5_readItem_31 : decode cX5_readItem 31 = .ok (.if_icmp .ge 42, 3) := by decide +kernel
theorem dX5_readItem_34 : decode cX5_readItem 34 = .ok (.aload_n 0, 1) := by decide +kernel
theorem dX5_readItem_35 : decode cX5_readItem 35 = .ok (.iload 4, 2) := by decide +kernel
theorem dX5_readItem_37 : decode cX5_readItem 37 = .ok (.invokevirtual 39, 3) := by decide +kernel
theorem dX5_readItem_40 : decode cX5_readItem 40 = .ok (.ifCond .eq 25, 3) := by decide +kernel
theorem dX5_readItem_43 : decode cX5_readItem 43 = .ok (.aload_n 0, 1) := by decide +kernel
theorem dX5_readItem_44 : decode cX5_readItem 44 = .ok (.iload 4, 2) := by decide +kernel
theorem dX5_readItem_46 : decode cX5_readItem 46 = .ok (.iload_n 3, 1) := by decide +kernel
theorem dX5_readItem_47 : decode cX5_readItem 47 = .ok (.iconst 1, 1) := by decide +kernel
theorem dX5_readItem_48 : decode cX5_readItem 48 = .ok (.isub, 1) := by decide +kernel
theorem dX5_readItem_49 : decode cX5_readItem 49 = .ok (.if_icmp .ne 8, 3) := by decide +kernel
theorem dX5_readItem_52 : decode cX5_readItem 52 = .ok (.bipush 59, 2) := by decide +kernel
theorem dX5_readItem_54 : decode cX5_readItem 54 = .ok (.goto 5, 3) := by decide +kernel
theorem dX5_readItem_57 : decode cX5_readItem 57 = .ok (.bipush 44, 2) := by decide +kernel
theorem dX5_readItem_59 : decode cX5_readItem 59 = .ok (.invokevirtual 43, 3) := by decide +kernel
theorem dX5_readItem_62 : decode cX5_readItem 62 = .ok (.ifCond .ne 5, 3) := by decide +kernel
theorem dX5_readItem_65 : decode cX5_readItem 65 = .ok (.iconst 0, 1) := by decide +kernel
theorem dX5_readItem_66 : decode cX5_readItem 66 = .ok (.ireturn, 1) := by decide +kernel
theorem dX5_readItem_67 : decode cX5_readItem 67 = .ok (.iinc 4 1, 3) := by decide +kernel
theorem dX5_readItem_70 : decode cX5_readItem 70 = .ok (.goto (-42), 3) := by decide +kernel
theorem dX5_readItem_73 : decode cX5_readItem 73 = .ok (.aload_n 0, 1) := by decide +kernel
theorem dX5_readItem_74 : decode cX5_readItem 74 = .ok (.aload_n 1, 1) := by decide +kernel
theorem dX5_readItem_75 : decode cX5_readItem 75 = .ok (.iload_n 2, 1) := by decide +kernel
theorem dX5_readItem_76 : decode cX5_readItem 76 = .ok (.invokevirtual 47, 3) := by decide +kernel
theorem dX5_readItem_79 : decode cX5_readItem 79 = .ok (.ireturn, 1) := by decide +kernel
theorem dX5_numbersBehind_0 : decode cX5_numbersBehind 0 = .ok (.iload_n 0, 1) := by decide +kernel
theorem dX5_numbersBehind_1 : decode cX5_numbersBehind 1 = .ok (.tableswitch 47 103 108 #[45, 43, 47, 47, 41, 39], 39) := by decide +kernel
theorem dX5_numbersBehind_40 : decode cX5_numbersBehind 40 = .ok (.iconst 1, 1) := by decide +kernel
theorem dX5_numbersBehind_41 : decode cX5_numbersBehind 41 = .ok (.ireturn, 1) := by decide +kernel
theorem dX5_numbersBehind_42 : decode cX5_numbersBehind 42 = .ok (.iconst 1, 1) := by decide +kernel
theorem dX5_numbersBehind_43 : decode cX5_numbersBehind 43 = .ok (.ireturn, 1) := by decide +kernel
theorem dX5_numbersBehind_44 : decode cX5_numbersBehind 44 = .ok (.iconst 2, 1) := by decide +kernel
theorem dX5_numbersBehind_45 : decode cX5_numbersBehind 45 = .ok (.ireturn, 1) := by decide +kernel
theorem dX5_numbersBehind_46 : decode cX5_numbersBehind 46 = .ok (.iconst 3, 1) := by decide +kernel
theorem dX5_numbersBehind_47 : decode cX5_numbersBehind 47 = .ok (.ireturn, 1) := by decide +kernel
theorem dX5_numbersBehind_48 : decode cX5_numbersBehind 48 = .ok (.iconst 0, 1) := by decide +kernel
theorem dX5_numbersBehind_49 : decode cX5_numbersBehind 49 = .ok (.ireturn, 1) := by decide +kernel
theorem dX5_readNumber_0 : decode cX5_readNumber 0 = .ok (.iconst 0, 1) := by decide +kernel
theorem dX5_readNumber_1 : decode cX5_readNumber 1 = .ok (.istore_n 2, 1) := by decide +kernel
theorem dX5_readNumber_2 : decode cX5_readNumber 2 = .ok (.iconst 0, 1) := by decide +kernel
theorem dX5_readNumber_3 : decode cX5_readNumber 3 = .ok (.istore_n 3, 1) := by decide +kernel
theorem dX5_readNumber_4 : decode cX5_readNumber 4 = .ok (.iload_n 3, 1) := by decide +kernel
theorem dX5_readNumber_5 : decode cX5_readNumber 5 = .ok (.iconst 2, 1) := by decide +kernel
theorem dX5_readNumber_6 : decode cX5_readNumber 6 = .ok (.if_icmp .ge 67, 3) := by decide +kernel
theorem dX5_readNumber_9 : decode cX5_readNumber 9 = .ok (.aload_n 0, 1) := by decide +kernel
theorem dX5_readNumber_10 : decode cX5_readNumber 10 = .ok (.getfield 28, 3) := by decide +kernel
theorem dX5_readNumber_13 : decode cX5_readNumber 13 = .ok (.aload_n 0, 1) := by decide +kernel
theorem dX5_readNumber_14 : decode cX5_readNumber 14 = .ok (.getfield 19, 3) := by decide +kernel
theorem dX5_readNumber_17 : decode cX5_readNumber 17 = .ok (.if_icmp .ge 56, 3) := by decide +kernel
theorem dX5_readNumber_20 : decode cX5_readNumber 20 = .ok (.aload_n 0, 1) := by decide +kernel
theorem dX5_readNumber_21 : decode cX5_readNumber 21 = .ok (.getfield 9, 3) := by decide +kernel
theorem dX5_readNumber_24 : decode cX5_readNumber 24 = .ok (.aload_n 0, 1) := by decide +kernel
theorem dX5_readNumber_25 : decode cX5_readNumber 25 = .ok (.getfield 28, 3) := by decide +kernel
theorem dX5_readNumber_28 : decode cX5_readNumber 28 = .ok (.caload, 1) := by decide +kernel
theorem dX5_readNumber_29 : decode cX5_readNumber 29 = .ok (.bipush 48, 2) := by decide +kernel
theorem dX5_readNumber_31 : decode cX5_readNumber 31 = .ok (.bipush 57, 2) := by decide +kernel
theorem dX5_readNumber_33 : decode cX5_readNumber 33 = .ok (.invokestatic 51, 3) := by decide +kernel
theorem dX5_readNumber_36 : decode cX5_readNumber 36 = .ok (.ifCond .eq 37, 3) := by decide +kernel
theorem dX5_readNumber_39 : decode cX5_readNumber 39 = .ok (.iload_n 2, 1) := by decide +kernel
theorem dX5_readNumber_40 : decode cX5_readNumber 40 = .ok (.bipush 10, 2) := by decide +kernel
theorem dX5_readNumber_42 : decode cX5_readNumber 42 = .ok (.imul, 1) := by decide +kernel
theorem dX5_readNumber_43 : decode cX5_readNumber 43 = .ok (.aload_n 0, 1) := by decide +kernel
theorem dX5_readNumber_44 : decode cX5_readNumber 44 = .ok (.getfield 9, 3) := by decide +kernel
theorem dX5_readNumber_47 : decode cX5_readNumber 47 = .ok (.aload_n 0, 1) := by decide +kernel
theorem dX5_readNumber_48 : decode cX5_readNumber 48 = .ok (.getfield 28, 3) := by decide +kernel
theorem dX5_readNumber_51 : decode cX5_readNumber 51 = .ok (.caload, 1) := by decide +kernel
theorem dX5_readNumber_52 : decode cX5_readNumber 52 = .ok (.bipush 48, 2) := by decide +kernel
theorem dX5_readNumber_54 : decode cX5_readNumber 54 = .ok (.isub, 1) := by decide +kernel
theorem dX5_readNumber_55 : decode cX5_readNumber 55 = .ok (.iadd, 1) := by decide +kernel
theorem dX5_readNumber_56 : decode cX5_readNumber 56 = .ok (.istore_n 2, 1) := by decide +kernel
theorem dX5_readNumber_57 : decode cX5_readNumber 57 = .ok (.aload_n 0, 1) := by decide +kernel
theorem dX5_readNumber_58 : decode cX5_readNumber 58 = .ok (.dup, 1) := by decide +kernel
theorem dX5_readNumber_59 : decode cX5_readNumber 59 = .ok (.getfield 28, 3) := by decide +kernel
theorem dX5_readNumber_62 : decode cX5_readNumber 62 = .ok (.iconst 1, 1) := by decide +kernel
theorem dX5_readNumber_63 : decode cX5_readNumber 63 = .ok (.iadd, 1) := by decide +kernel
theorem dX5_readNumber_64 : decode cX5_readNumber 64 = .ok (.putfield 28, 3) := by decide +kernel
theorem dX5_readNumber_67 : decode cX5_readNumber 67 = .ok (.iinc 3 1, 3) := by decide +kernel
theorem dX5_readNumber_70 : decode cX5_readNumber 70 = .ok (.goto (-66), 3) := by decide +kernel
theorem dX5_readNumber_73 : decode cX5_readNumber 73 = .ok (.aload_n 0, 1) := by decide +kernel
theorem dX5_readNumber_74 : decode cX5_readNumber 74 = .ok (.getfield 15, 3) := by decide +kernel
theorem dX5_readNumber_77 : decode cX5_readNumber 77 = .ok (.iload_n 1, 1) := by decide +kernel
theorem dX5_readNumber_78 : decode cX5_readNumber 78 = .ok (.iload_n 2, 1) := by decide +kernel
theorem dX5_readNumber_79 : decode cX5_readNumber 79 = .ok (.iastore, 1) := by decide +kernel
theorem dX5_readNumber_80 : decode cX5_readNumber 80 = .ok (.iload_n 3, 1) := by decide +kernel
theorem dX5_readNumber_81 : decode cX5_readNumber 81 = .ok (.ifCond .le 7, 3) := by decide +kernel
theorem dX5_readNumber_84 : decode cX5_readNumber 84 = .ok (.iconst 1, 1) := by decide +kernel
theorem dX5_readNumber_85 : decode cX5_readNumber 85 = .ok (.goto 4, 3) := by decide +kernel
theorem dX5_readNumber_88 : decode cX5_readNumber 88 = .ok (.iconst 0, 1) := by decide +kernel
theorem dX5_readNumber_89 : decode cX5_readNumber 89 = .ok (.ireturn, 1) := by decide +kernel
theorem dX5_readSign_0 : decode cX5_readSign 0 = .ok (.aload_n 0, 1) := by decide +kernel
theorem dX5_readSign_1 : decode cX5_readSign 1 = .ok (.getfield 28, 3) := by decide +kernel
theorem dX5_readSign_4 : decode cX5_readSign 4 = .ok (.aload_n 0, 1) := by decide +kernel
theorem dX5_readSign_5 : decode cX5_readSign 5 = .ok (.getfield 19, 3) := by decide +kernel
theorem dX5_readSign_8 : decode cX5_readSign 8 = .ok (.if_icmp .ge 16, 3) := by decide +kernel
theorem dX5_readSign_11 : decode cX5_readSign 11 = .ok (.aload_n 0, 1) := by decide +kernel
theorem dX5_readSign_12 : decode cX5_readSign 12 = .ok (.getfield 9, 3) := by decide +kernel
theorem dX5_readSign_15 : decode cX5_readSign 15 = .ok (.aload_n 0, 1) := by decide +kernel
theorem dX5_readSign_16 : decode cX5_readSign 16 = .ok (.getfield 28, 3) := by decide +kernel
theorem dX5_readSign_19 : decode cX5_readSign 19 = .ok (.caload, 1) := by decide +kernel
theorem dX5_readSign_20 : decode cX5_readSign 20 = .ok (.iload_n 1, 1) := by decide +kernel
theorem dX5_readSign_21 : decode cX5_readSign 21 = .ok (.if_icmp .eq 5, 3) := by decide +kernel
theorem dX5_readSign_24 : decode cX5_readSign 24 = .ok (.iconst 0, 1) := by decide +kernel
theorem dX5_readSign_25 : decode cX5_readSign 25 = .ok (.ireturn, 1) := by decide +kernel
theorem dX5_readSign_26 : decode cX5_readSign 26 = .ok (.aload_n 0, 1) := by decide +kernel
theorem dX5_readSign_27 : decode cX5_readSign 27 = .ok (.dup, 1) := by decide +kernel
theorem dX5_readSign_28 : decode cX5_readSign 28 = .ok (.getfield 28, 3) := by decide +kernel
theorem dX5_readSign_31 : decode cX5_readSign 31 = .ok (.iconst 1, 1) := by decide +kernel
theorem dX5_readSign_32 : decode cX5_readSign 32 = .ok (.iadd, 1) := by decide +kernel
theorem dX5_readSign_33 : decode cX5_readSign 33 = .ok (.putfield 28, 3) := by decide +kernel
theorem dX5_readSign_36 : decode cX5_readSign 36 = .ok (.iconst 1, 1) := by decide +kernel
theorem dX5_readSign_37 : decode cX5_readSign 37 = .ok (.ireturn, 1) := by decide +kernel
theorem dX5_tell_0 : decode cX5_tell 0 = .ok (.iload_n 2, 1) := by decide +kernel
theorem dX5_tell_1 : decode cX5_tell 1 = .ok (.tableswitch 101 103 108 #[78, 61, 101, 101, 50, 39], 39) := by decide +kernel
theorem dX5_tell_40 : decode cX5_tell 40 = .ok (.aload_n 1, 1) := by decide +kernel
theorem dX5_tell_41 : decode cX5_tell 41 = .ok (.aload_n 0, 1) := by decide +kernel
theorem dX5_tell_42 : decode cX5_tell 42 = .ok (.getfield 15, 3) := by decide +kernel
theorem dX5_tell_45 : decode cX5_tell 45 = .ok (.iconst 0, 1) := by decide +kernel
theorem dX5_tell_46 : decode cX5_tell 46 = .ok (.iaload, 1) := by decide +kernel
theorem dX5_tell_47 : decode cX5_tell 47 = .ok (.invokevirtual 55, 3) := by decide +kernel
theorem dX5_tell_50 : decode cX5_tell 50 = .ok (.ireturn, 1) := by decide +kernel
theorem dX5_tell_51 : decode cX5_tell 51 = .ok (.aload_n 1, 1) := by decide +kernel
theorem dX5_tell_52 : decode cX5_tell 52 = .ok (.aload_n 0, 1) := by decide +kernel
theorem dX5_tell_53 : decode cX5_tell 53 = .ok (.getfield 15, 3) := by decide +kernel
theorem dX5_tell_56 : decode cX5_tell 56 = .ok (.iconst 0, 1) := by decide +kernel
theorem dX5_tell_57 : decode cX5_tell 57 = .ok (.iaload, 1) := by decide +kernel
theorem dX5_tell_58 : decode cX5_tell 58 = .ok (.invokevirtual 58, 3) := by decide +kernel
theorem dX5_tell_61 : decode cX5_tell 61 = .ok (.ireturn, 1) := by decide +kernel
theorem dX5_tell_62 : decode cX5_tell 62 = .ok (.aload_n 1, 1) := by decide +kernel
theorem dX5_tell_63 : decode cX5_tell 63 = .ok (.aload_n 0, 1) := by decide +kernel
theorem dX5_tell_64 : decode cX5_tell 64 = .ok (.getfield 15, 3) := by decide +kernel
theorem dX5_tell_67 : decode cX5_tell 67 = .ok (.iconst 0, 1) := by decide +kernel
theorem dX5_tell_68 : decode cX5_tell 68 = .ok (.iaload, 1) := by decide +kernel
theorem dX5_tell_69 : decode cX5_tell 69 = .ok (.aload_n 0, 1) := by decide +kernel
theorem dX5_tell_70 : decode cX5_tell 70 = .ok (.getfield 15, 3) := by decide +kernel
theorem dX5_tell_73 : decode cX5_tell 73 = .ok (.iconst 1, 1) := by decide +kernel
theorem dX5_tell_74 : decode cX5_tell 74 = .ok (.iaload, 1) := by decide +kernel
theorem dX5_tell_75 : decode cX5_tell 75 = .ok (.invokevirtual 61, 3) := by decide +kernel
theorem dX5_tell_78 : decode cX5_tell 78 = .ok (.ireturn, 1) := by decide +kernel
theorem dX5_tell_79 : decode cX5_tell 79 = .ok (.aload_n 1, 1) := by decide +kernel
theorem dX5_tell_80 : decode cX5_tell 80 = .ok (.aload_n 0, 1) := by decide +kernel
theorem dX5_tell_81 : decode cX5_tell 81 = .ok (.getfield 15, 3) := by decide +kernel
theorem dX5_tell_84 : decode cX5_tell 84 = .ok (.iconst 0, 1) := by decide +kernel
theorem dX5_tell_85 : decode cX5_tell 85 = .ok (.iaload, 1) := by decide +kernel
theorem dX5_tell_86 : decode cX5_tell 86 = .ok (.aload_n 0, 1) := by decide +kernel
theorem dX5_tell_87 : decode cX5_tell 87 = .ok (.getfield 15, 3) := by decide +kernel
theorem dX5_tell_90 : decode cX5_tell 90 = .ok (.iconst 1, 1) := by decide +kernel
theorem dX5_tell_91 : decode cX5_tell 91 = .ok (.iaload, 1) := by decide +kernel
theorem dX5_tell_92 : decode cX5_tell 92 = .ok (.aload_n 0, 1) := by decide +kernel
theorem dX5_tell_93 : decode cX5_tell 93 = .ok (.getfield 15, 3) := by decide +kernel
theorem dX5_tell_96 : decode cX5_tell 96 = .ok (.iconst 2, 1) := by decide +kernel
theorem dX5_tell_97 : decode cX5_tell 97 = .ok (.iaload, 1) := by decide +kernel
theorem dX5_tell_98 : decode cX5_tell 98 = .ok (.invokevirtual 65, 3) := by decide +kernel
theorem dX5_tell_101 : decode cX5_tell 101 = .ok (.ireturn, 1) := by decide +kernel
theorem dX5_tell_102 : decode cX5_tell 102 = .ok (.iconst 0, 1) := by decide +kernel
theorem dX5_tell_103 : decode cX5_tell 103 = .ok (.ireturn, 1) := by decide +kernel
theorem dX6_init_0 : decode cX6_init 0 = .ok (.aload_n 0, 1) := by decide +kernel
theorem dX6_init_1 : decode cX6_init 1 = .ok (.invokespecial 1, 3) := by decide +kernel
theorem dX6_init_4 : decode cX6_init 4 = .ok (.aload_n 0, 1) := by decide +kernel
theorem dX6_init_5 : decode cX6_init 5 = .ok (.new 7, 3) := by decide +kernel
theorem dX6_init_8 : decode cX6_init 8 = .ok (.dup, 1) := by decide +kernel
theorem dX6_init_9 : decode cX6_init 9 = .ok (.invokespecial 9, 3) := by decide +kernel
theorem dX6_init_12 : decode cX6_init 12 = .ok (.putfield 10, 3) := by decide +kernel
theorem dX6_init_15 : decode cX6_init 15 = .ok (.aload_n 0, 1) := by decide +kernel
theorem dX6_init_16 : decode cX6_init 16 = .ok (.new 16, 3) := by decide +kernel
theorem dX6_init_19 : decode cX6_init 19 = .ok (.dup, 1) := by decide +kernel
theorem dX6_init_20 : decode cX6_init 20 = .ok (.invokespecial 18, 3) := by decide +kernel
theorem dX6_init_23 : decode cX6_init 23 = .ok (.putfield 19, 3) := by decide +kernel
theorem dX6_init_26 : decode cX6_init 26 = .ok (.aload_n 0, 1) := by decide +kernel
theorem dX6_init_27 : decode cX6_init 27 = .ok (.new 16, 3) := by decide +kernel
theorem dX6_init_30 : decode cX6_init 30 = .ok (.dup, 1) := by decide +kernel
theorem dX6_init_31 : decode cX6_init 31 = .ok (.invokespecial 18, 3) := by decide +kernel
theorem dX6_init_34 : decode cX6_init 34 = .ok (.putfield 23, 3) := by decide +kernel
theorem dX6_init_37 : decode cX6_init 37 = .ok (.aload_n 0, 1) := by decide +kernel
theorem dX6_init_38 : decode cX6_init 38 = .ok (.new 26, 3) := by decide +kernel
theorem dX6_init_41 : decode cX6_init 41 = .ok (.dup, 1) := by decide +kernel
theorem dX6_init_42 : decode cX6_init 42 = .ok (.aload_n 0, 1) := by decide +kernel
theorem dX6_init_43 : decode cX6_init 43 = .ok (.getfield 23, 3) := by decide +kernel
theorem dX6_init_46 : decode cX6_init 46 = .ok (.invokespecial 28, 3) := by decide +kernel
theorem dX6_init_49 : decode cX6_init 49 = .ok (.putfield 31, 3) := by decide +kernel
theorem dX6_init_52 : decode cX6_init 52 = .ok (.aload_n 0, 1) := by decide +kernel
theorem dX6_init_53 : decode cX6_init 53 = .ok (.new 26, 3) := by decide +kernel
theorem dX6_init_56 : decode cX6_init 56 = .ok (.dup, 1) := by decide +kernel
theorem dX6_init_57 : decode cX6_init 57 = .ok (.aload_n 0, 1) := by decide +kernel
theorem dX6_init_58 : decode cX6_init 58 = .ok (.getfield 23, 3) := by decide +kernel
theorem dX6_init_61 : decode cX6_init 61 = .ok (.invokespecial 28, 3) := by decide +kernel
theorem dX6_init_64 : decode cX6_init 64 = .ok (.putfield 35, 3) := by decide +kernel
theorem dX6_init_67 : decode cX6_init 67 = .ok (.aload_n 0, 1) := by decide +kernel
theorem dX6_init_68 : decode cX6_init 68 = .ok (.new 26, 3) := by decide +kernel
theorem dX6_init_71 : decode cX6_init 71 = .ok (.dup, 1) := by decide +kernel
theorem dX6_init_72 : decode cX6_init 72 = .ok (.aload_n 0, 1) := by decide +kernel
theorem dX6_init_73 : decode cX6_init 73 = .ok (.getfield 23, 3) := by decide +kernel
theorem dX6_init_76 : decode cX6_init 76 = .ok (.invokespecial 28, 3) := by decide +kernel
theorem dX6_init_79 : decode cX6_init 79 = .ok (.putfield 38, 3) := by decide +kernel
theorem dX6_init_82 : decode cX6_init 82 = .ok (.aload_n 0, 1) := by decide +kernel
theorem dX6_init_83 : decode cX6_init 83 = .ok (.new 41, 3) := by decide +kernel
theorem dX6_init_86 : decode cX6_init 86 = .ok (.dup, 1) := by decide +kernel
theorem dX6_init_87 : decode cX6_init 87 = .ok (.aload_n 0, 1) := by decide +kernel
theorem dX6_init_88 : decode cX6_init 88 = .ok (.getfield 23, 3) := by decide +kernel
theorem dX6_init_91 : decode cX6_init 91 = .ok (.invokespecial 43, 3) := by decide +kernel
theorem dX6_init_94 : decode cX6_init 94 = .ok (.putfield 44, 3) := by decide +kernel
theorem dX6_init_97 : decode cX6_init 97 = .ok (.aload_n 0, 1) := by decide +kernel
theorem dX6_init_98 : decode cX6_init 98 = .ok (.iconst 2, 1) := by decide +kernel
theorem dX6_init_99 : decode cX6_init 99 = .ok (.anewarray 26, 3) := by decide +kernel
theorem dX6_init_102 : decode cX6_init 102 = .ok (.putfield 48, 3) := by decide +kernel
theorem dX6_init_105 : decode cX6_init 105 = .ok (.aload_n 0, 1) := by decide +kernel
theorem dX6_init_106 : decode cX6_init 106 = .ok (.new 52, 3) := by decide +kernel
theorem dX6_init_109 : decode cX6_init 109 = .ok (.dup, 1) := by decide +kernel
theorem dX6_init_110 : decode cX6_init 110 = .ok (.invokespecial 54, 3) := by decide +kernel
theorem dX6_init_113 : decode cX6_init 113 = .ok (.putfield 55, 3) := by decide +kernel
theorem dX6_init_116 : decode cX6_init 116 = .ok (.aload_n 0, 1) := by decide +kernel
theorem dX6_init_117 : decode cX6_init 117 = .ok (.new 59, 3) := by decide +kernel
theorem dX6_init_120 : decode cX6_init 120 = .ok (.dup, 1) := by decide +kernel
theorem dX6_init_121 : decode cX6_init 121 = .ok (.invokespecial 61, 3) := by decide +kernel
theorem dX6_init_124 : decode cX6_init 124 = .ok (.putfield 62, 3) := by decide +kernel
theorem dX6_init_127 : decode cX6_init 127 = .ok (.iconst 0, 1) := by decide +kernel
theorem dX6_init_128 : decode cX6_init 128 = .ok (.istore_n 1, 1) := by decide +kernel
theorem dX6_init_129 : decode cX6_init 129 = .ok (.iload_n 1, 1) := by decide +kernel
theorem dX6_init_130 : decode cX6_init 130 = .ok (.iconst 2, 1) := by decide +kernel
theorem dX6_init_131 : decode cX6_init 131 = .ok (.if_icmp .ge 26, 3) := by decide +kernel
theorem dX6_init_134 : decode cX6_init 134 = .ok (.aload_n 0, 1) := by decide +kernel
theorem dX6_init_135 : decode cX6_init 135 = .ok (.getfield 48, 3) := by decide +kernel
theorem dX6_init_138 : decode cX6_init 138 = .ok (.iload_n 1, 1) := by decide +kernel
theorem dX6_init_139 : decode cX6_init 139 = .ok (.new 26, 3) := by decide +kernel
theorem dX6_init_142 : decode cX6_init 142 = .ok (.dup, 1) := by decide +kernel
theorem dX6_init_143 : decode cX6_init 143 = .ok (.aload_n 0, 1) := by decide +kernel
theorem dX6_init_144 : decode cX6_init 144 = .ok (.getfield 23, 3) := by decide +kernel
theorem dX6_init_147 : decode cX6_init 147 = .ok (.invokespecial 28, 3) := by decide +kernel
theorem dX6_init_150 : decode cX6_init 150 = .ok (.aastore, 1) := by decide +kernel
theorem dX6_init_151 : decode cX6_init 151 = .ok (.iinc 1 1, 3) := by decide +kernel
theorem dX6_init_154 : decode cX6_init 154 = .ok (.goto (-25), 3) := by decide +kernel
theorem dX6_init_157 : decode cX6_init 157 = .ok (.iconst 0, 1) := by decide +kernel
theorem dX6_init_158 : decode cX6_init 158 = .ok (.istore_n 1, 1) := by decide +kernel
theorem dX6_init_159 : decode cX6_init 159 = .ok (.iload_n 1, 1) := by decide +kernel
theorem dX6_init_160 : decode cX6_init 160 = .ok (.ldc 66, 2) := by decide +kernel
theorem dX6_init_162 : decode cX6_init 162 = .ok (.invokevirtual 68, 3) := by decide +kernel
theorem dX6_init_165 : decode cX6_init 165 = .ok (.if_icmp .ge 23, 3) := by decide +kernel
theorem dX6_init_168 : decode cX6_init 168 = .ok (.aload_n 0, 1) := by decide +kernel
theorem dX6_init_169 : decode cX6_init 169 = .ok (.getfield 10, 3) := by decide +kernel
theorem dX6_init_172 : decode cX6_init 172 = .ok (.ldc 66, 2) := by decide +kernel
theorem dX6_init_174 : decode cX6_init 174 = .ok (.iload_n 1, 1) := by decide +kernel
theorem dX6_init_175 : decode cX6_init 175 = .ok (.invokevirtual 74, 3) := by decide +kernel
theorem dX6_init_178 : decode cX6_init 178 = .ok (.invokevirtual 78, 3) := by decide +kernel
theorem dX6_init_181 : decode cX6_init 181 = .ok (.pop, 1) := by decide +kernel
theorem dX6_init_182 : decode cX6_init 182 = .ok (.iinc 1 1, 3) := by decide +kernel
theorem dX6_init_185 : decode cX6_init 185 = .ok (.goto (-26), 3) := by decide +kernel
theorem dX6_init_188 : decode cX6_init 188 = .ok (.aload_n 0, 1) := by decide +kernel
theorem dX6_init_189 : decode cX6_init 189 = .ok (.getfield 10, 3) := by decide +kernel
theorem dX6_init_192 : decode cX6_init 192 = .ok (.aload_n 0, 1) := by decide +kernel
theorem dX6_init_193 : decode cX6_init 193 = .ok (.getfield 19, 3) := by decide +kernel
theorem dX6_init_196 : decode cX6_init 196 = .ok (.invokevirtual 82, 3) := by decide +kernel
theorem dX6_init_199 : decode cX6_init 199 = .ok (.pop, 1) := by decide +kernel
theorem dX6_init_200 : decode cX6_init 200 = .ok (.aload_n 0, 1) := by decide +kernel
theorem dX6_init_201 : decode cX6_init 201 = .ok (.invokevirtual 86, 3) := by decide +kernel
theorem dX6_init_204 : decode cX6_init 204 = .ok (.aload_n 0, 1) := by decide +kernel
theorem dX6_init_205 : decode cX6_init 205 = .ok (.getfield 10, 3) := by decide +kernel
theorem dX6_init_208 : decode cX6_init 208 = .ok (.invokevirtual 89, 3) := by decide +kernel
theorem dX6_init_211 : decode cX6_init 211 = .ok (.return_, 1) := by decide +kernel
theorem dX6_write_0 : decode cX6_write 0 = .ok (.iload_n 1, 1) := by decide +kernel
theorem dX6_write_1 : decode cX6_write 1 = .ok (.bipush 32, 2) := by decide +kernel
theorem dX6_write_3 : decode cX6_write 3 = .ok (.bipush 126, 2) := by decide +kernel
theorem dX6_write_5 : decode cX6_write 5 = .ok (.invokestatic 92, 3) := by decide +kernel
theorem dX6_write_8 : decode cX6_write 8 = .ok (.ifCond .ne 5, 3) := by decide +kernel
theorem dX6_write_11 : decode cX6_write 11 = .ok (.iconst (-1), 1) := by decide +kernel
theorem dX6_write_12 : decode cX6_write 12 = .ok (.ireturn, 1) := by decide +kernel
theorem dX6_write_13 : decode cX6_write 13 = .ok (.aload_n 0, 1) := by decide +kernel
theorem dX6_write_14 : decode cX6_write 14 = .ok (.getfield 10, 3) := by decide +kernel
theorem dX6_write_17 : decode cX6_write 17 = .ok (.iload_n 1, 1) := by decide +kernel
theorem dX6_write_18 : decode cX6_write 18 = .ok (.i2c, 1) := by decide +kernel
theorem dX6_write_19 : decode cX6_write 19 = .ok (.invokevirtual 78, 3) := by decide +kernel
theorem dX6_write_22 : decode cX6_write 22 = .ok (.ifCond .eq 13, 3) := by decide +kernel
theorem dX6_write_25 : decode cX6_write 25 = .ok (.aload_n 0, 1) := by decide +kernel
theorem dX6_write_26 : decode cX6_write 26 = .ok (.getfield 10, 3) := by decide +kernel
theorem dX6_write_29 : decode cX6_write 29 = .ok (.invokevirtual 96, 3) := by decide +kernel
theorem dX6_write_32 : decode cX6_write 32 = .ok (.goto 5, 3) := by decide +kernel
theorem dX6_write_35 : decode cX6_write 35 = .ok (.bipush (-3), 2) := by decide +kernel
theorem dX6_write_37 : decode cX6_write 37 = .ok (.ireturn, 1) := by decide +kernel
theorem dX6_wipe_0 : decode cX6_wipe 0 = .ok (.aload_n 0, 1) := by decide +kernel
theorem dX6_wipe_1 : decode cX6_wipe 1 = .ok (.getfield 10, 3) := by decide +kernel
theorem dX6_wipe_4 : decode cX6_wipe 4 = .ok (.invokevirtual 96, 3) := by decide +kernel
theorem dX6_wipe_7 : decode cX6_wipe 7 = .ok (.istore_n 1, 1) := by decide +kernel
theorem dX6_wipe_8 : decode cX6_wipe 8 = .ok (.aload_n 0, 1) := by decide +kernel
theorem dX6_wipe_9 : decode cX6_wipe 9 = .ok (.getfield 10, 3) := by decide +kernel
theorem dX6_wipe_12 : decode cX6_wipe 12 = .ok (.invokevirtual 89, 3) := by decide +kernel
theorem dX6_wipe_15 : decode cX6_wipe 15 = .ok (.iload_n 1, 1) := by decide +kernel
theorem dX6_wipe_16 : decode cX6_wipe 16 = .ok (.ireturn, 1) := by decide +kernel
theorem dX6_fault_0 : decode cX6_fault 0 = .ok (.aload_n 0, 1) := by decide +kernel
theorem dX6_fault_1 : decode cX6_fault 1 = .ok (.getfield 10, 3) := by decide +kernel
theorem dX6_fault_4 : decode cX6_fault 4 = .ok (.aload_n 0, 1) := by decide +kernel
theorem dX6_fault_5 : decode cX6_fault 5 = .ok (.getfield 19, 3) := by decide +kernel
theorem dX6_fault_8 : decode cX6_fault 8 = .ok (.invokevirtual 82, 3) := by decide +kernel
theorem dX6_fault_11 : decode cX6_fault 11 = .ok (.ireturn, 1) := by decide +kernel
theorem dX6_lay_0 : decode cX6_lay 0 = .ok (.aload_n 0, 1) := by decide +kernel
theorem dX6_lay_1 : decode cX6_lay 1 = .ok (.getfield 10, 3) := by decide +kernel
theorem dX6_lay_4 : decode cX6_lay 4 = .ok (.aload_n 0, 1) := by decide +kernel
theorem dX6_lay_5 : decode cX6_lay 5 = .ok (.getfield 19, 3) := by decide +kernel
theorem dX6_lay_8 : decode cX6_lay 8 = .ok (.invokevirtual 82, 3) := by decide +kernel
theorem dX6_lay_11 : decode cX6_lay 11 = .ok (.bipush (-4), 2) := by decide +kernel
theorem dX6_lay_13 : decode cX6_lay 13 = .ok (.if_icmp .ne 13, 3) := by decide +kernel
theorem dX6_lay_16 : decode cX6_lay 16 = .ok (.aload_n 0, 1) := by decide +kernel
theorem dX6_lay_17 : decode cX6_lay 17 = .ok (.getfield 19, 3) := by decide +kernel
theorem dX6_lay_20 : decode cX6_lay 20 = .ok (.getfield 97, 3) := by decide +kernel
theorem dX6_lay_23 : decode cX6_lay 23 = .ok (.ifCond .ne 6, 3) := by decide +kernel
theorem dX6_lay_26 : decode cX6_lay 26 = .ok (.bipush (-2), 2) := by decide +kernel
theorem dX6_lay_28 : decode cX6_lay 28 = .ok (.ireturn, 1) := by decide +kernel
theorem dX6_lay_29 : decode cX6_lay 29 = .ok (.aload_n 0, 1) := by decide +kernel
theorem dX6_lay_30 : decode cX6_lay 30 = .ok (.invokevirtual 86, 3) := by decide +kernel
theorem dX6_lay_33 : decode cX6_lay 33 = .ok (.aload_n 0, 1) := by decide +kernel
theorem dX6_lay_34 : decode cX6_lay 34 = .ok (.getfield 23, 3) := by decide +kernel
theorem dX6_lay_37 : decode cX6_lay 37 = .ok (.getfield 97, 3) := by decide +kernel
theorem dX6_lay_40 : decode cX6_lay 40 = .ok (.ireturn, 1) := by decide +kernel
theorem dX6_guest_0 : decode cX6_guest 0 = .ok (.aload_n 0, 1) := by decide +kernel
theorem dX6_guest_1 : decode cX6_guest 1 = .ok (.iload_n 1, 1) := by decide +kernel
theorem dX6_guest_2 : decode cX6_guest 2 = .ok (.invokevirtual 101, 3) := by decide +kernel
theorem dX6_guest_5 : decode cX6_guest 5 = .ok (.ifCond .ne 5, 3) := by decide +kernel
theorem dX6_guest_8 : decode cX6_guest 8 = .ok (.iconst (-1), 1) := by decide +kernel
theorem dX6_guest_9 : decode cX6_guest 9 = .ok (.ireturn, 1) := by decide +kernel
theorem dX6_guest_10 : decode cX6_guest 10 = .ok (.iload_n 2, 1) := by decide +kernel
theorem dX6_guest_11 : decode cX6_guest 11 = .ok (.tableswitch 68 0 3 #[29, 39, 49, 59], 29) := by decide +kernel
theorem dX6_guest_40 : decode cX6_guest 40 = .ok (.aload_n 0, 1) := by decide +kernel
theorem dX6_guest_41 : decode cX6_guest 41 = .ok (.getfield 23, 3) := by decide +kernel
theorem dX6_guest_44 : decode cX6_guest 44 = .ok (.getfield 105, 3) := by decide +kernel
theorem dX6_guest_47 : decode cX6_guest 47 = .ok (.iload_n 1, 1) := by decide +kernel
theorem dX6_guest_48 : decode cX6_guest 48 = .ok (.iaload, 1) := by decide +kernel
theorem dX6_guest_49 : decode cX6_guest 49 = .ok (.ireturn, 1) := by decide +kernel
theorem dX6_guest_50 : decode cX6_guest 50 = .ok (.aload_n 0, 1) := by decide +kernel
theorem dX6_guest_51 : decode cX6_guest 51 = .ok (.getfield 23, 3) := by decide +kernel
theorem dX6_guest_54 : decode cX6_guest 54 = .ok (.getfield 109, 3) := by decide +kernel
theorem dX6_guest_57 : decode cX6_guest 57 = .ok (.iload_n 1, 1) := by decide +kernel
theorem dX6_guest_58 : decode cX6_guest 58 = .ok (.iaload, 1) := by decide +kernel
theorem dX6_guest_59 : decode cX6_guest 59 = .ok (.ireturn, 1) := by decide +kernel
theorem dX6_guest_60 : decode cX6_guest 60 = .ok (.aload_n 0, 1) := by decide +kernel
theorem dX6_guest_61 : decode cX6_guest 61 = .ok (.getfield 23, 3) := by decide +kernel
theorem dX6_guest_64 : decode cX6_guest 64 = .ok (.getfield 112, 3) := by decide +kernel
theorem dX6_guest_67 : decode cX6_guest 67 = .ok (.iload_n 1, 1) := by decide +kernel
theorem dX6_guest_68 : decode cX6_guest 68 = .ok (.iaload, 1) := by decide +kernel
theorem dX6_guest_69 : decode cX6_guest 69 = .ok (.ireturn, 1) := by decide +kernel
theorem dX6_guest_70 : decode cX6_guest 70 = .ok (.aload_n 0, 1) := by decide +kernel
theorem dX6_guest_71 : decode cX6_guest 71 = .ok (.getfield 31, 3) := by decide +kernel
theorem dX6_guest_74 : decode cX6_guest 74 = .ok (.iload_n 1, 1) := by decide +kernel
theorem dX6_guest_75 : decode cX6_guest 75 = .ok (.invokevirtual 115, 3) := by decide +kernel
theorem dX6_guest_78 : decode cX6_guest 78 = .ok (.ireturn, 1) := by decide +kernel
theorem dX6_guest_79 : decode cX6_guest 79 = .ok (.iconst (-1), 1) := by decide +kernel
theorem dX6_guest_80 : decode cX6_guest 80 = .ok (.ireturn, 1) := by decide +kernel
theorem dX6_slice_0 : decode cX6_slice 0 = .ok (.aload_n 0, 1) := by decide +kernel
theorem dX6_slice_1 : decode cX6_slice 1 = .ok (.iload_n 1, 1) := by decide +kernel
theorem dX6_slice_2 : decode cX6_slice 2 = .ok (.invokevirtual 101, 3) := by decide +kernel
theorem dX6_slice_5 : decode cX6_slice 5 = .ok (.ifCond .ne 5, 3) := by decide +kernel
theorem dX6_slice_8 : decode cX6_slice 8 = .ok (.iconst (-1), 1) := by decide +kernel
theorem dX6_slice_9 : decode cX6_slice 9 = .ok (.ireturn, 1) := by decide +kernel
theorem dX6_slice_10 : decode cX6_slice 10 = .ok (.aload_n 0, 1) := by decide +kernel
theorem dX6_slice_11 : decode cX6_slice 11 = .ok (.getfield 31, 3) := by decide +kernel
theorem dX6_slice_14 : decode cX6_slice 14 = .ok (.getfield 119, 3) := by decide +kernel
theorem dX6_slice_17 : decode cX6_slice 17 = .ok (.iload_n 1, 1) := by decide +kernel
theorem dX6_slice_18 : decode cX6_slice 18 = .ok (.iaload, 1) := by decide +kernel
theorem dX6_slice_19 : decode cX6_slice 19 = .ok (.iconst 1, 1) := by decide +kernel
theorem dX6_slice_20 : decode cX6_slice 20 = .ok (.if_icmp .ne 7, 3) := by decide +kernel
theorem dX6_slice_23 : decode cX6_slice 23 = .ok (.iconst 1, 1) := by decide +kernel
theorem dX6_slice_24 : decode cX6_slice 24 = .ok (.goto 4, 3) := by decide +kernel
theorem dX6_slice_27 : decode cX6_slice 27 = .ok (.iconst 0, 1) := by decide +kernel
theorem dX6_slice_28 : decode cX6_slice 28 = .ok (.istore_n 3, 1) := by decide +kernel
theorem dX6_slice_29 : decode cX6_slice 29 = .ok (.iload_n 2, 1) := by decide +kernel
theorem dX6_slice_30 : decode cX6_slice 30 = .ok (.tableswitch 124 0 5 #[38, 48, 67, 86, 96, 106], 38) := by decide +kernel
theorem dX6_slice_68 : decode cX6_slice 68 = .ok (.aload_n 0, 1) := by decide +kernel
theorem dX6_slice_69 : decode cX6_slice 69 = .ok (.getfield 31, 3) := by decide +kernel
theorem dX6_slice_72 : decode cX6_slice 72 = .ok (.getfield 119, 3) := by decide +kernel
theorem dX6_slice_75 : decode cX6_slice 75 = .ok (.iload_n 1, 1) := by decide +kernel
theorem dX6_slice_76 : decode cX6_slice 76 = .ok (.iaload, 1) := by decide +kernel
theorem dX6_slice_77 : decode cX6_slice 77 = .ok (.ireturn, 1) := by decide +kernel
theorem dX6_slice_78 : decode cX6_slice 78 = .ok (.iload_n 3, 1) := by decide +kernel
theorem dX6_slice_79 : decode cX6_slice 79 = .ok (.ifCond .eq 15, 3) := by decide +kernel
theorem dX6_slice_82 : decode cX6_slice 82 = .ok (.aload_n 0, 1) := by decide +kernel
theorem dX6_slice_83 : decode cX6_slice 83 = .ok (.getfield 31, 3) := by decide +kernel
theorem dX6_slice_86 : decode cX6_slice 86 = .ok (.getfield 122, 3) := by decide +kernel
theorem dX6_slice_89 : decode cX6_slice 89 = .ok (.iload_n 1, 1) := by decide +kernel
theorem dX6_slice_90 : decode cX6_slice 90 = .ok (.iaload, 1) := by decide +kernel
theorem dX6_slice_91 : decode cX6_slice 91 = .ok (.goto 5, 3) := by decide +kernel
theorem dX6_slice_94 : decode cX6_slice 94 = .ok (.bipush (-4), 2) := by decide +kernel
theorem dX6_slice_96 : decode cX6_slice 96 = .ok (.ireturn, 1) := by decide +kernel
theorem dX6_slice_97 : decode cX6_slice 97 = .ok (.iload_n 3, 1) := by decide +kernel
theorem dX6_slice_98 : decode cX6_slice 98 = .ok (.ifCond .eq 15, 3) := by decide +kernel
theorem dX6_slice_101 : decode cX6_slice 101 = .ok (.aload_n 0, 1) := by decide +kernel
theorem dX6_slice_102 : decode cX6_slice 102 = .ok (.getfield 31, 3) := by decide +kernel
theorem dX6_slice_105 : decode cX6_slice 105 = .ok (.getfield 125, 3) := by decide +kernel
theorem dX6_slice_108 : decode cX6_slice 108 = .ok (.iload_n 1, 1) := by decide +kernel
theorem dX6_slice_109 : decode cX6_slice 109 = .ok (.iaload, 1) := by decide +kernel
theorem dX6_slice_110 : decode cX6_slice 110 = .ok (.goto 5, 3) := by decide +kernel
theorem dX6_slice_113 : decode cX6_slice 113 = .ok (.bipush (-4), 2) := by decide +kernel
theorem dX6_slice_115 : decode cX6_slice 115 = .ok (.ireturn, 1) := by decide +kernel
theorem dX6_slice_116 : decode cX6_slice 116 = .ok (.aload_n 0, 1) := by decide +kernel
theorem dX6_slice_117 : decode cX6_slice 117 = .ok (.getfield 31, 3) := by decide +kernel
theorem dX6_slice_120 : decode cX6_slice 120 = .ok (.getfield 128, 3) := by decide +kernel
theorem dX6_slice_123 : decode cX6_slice 123 = .ok (.iload_n 1, 1) := by decide +kernel
theorem dX6_slice_124 : decode cX6_slice 124 = .ok (.iaload, 1) := by decide +kernel
theorem dX6_slice_125 : decode cX6_slice 125 = .ok (.ireturn, 1) := by decide +kernel
theorem dX6_slice_126 : decode cX6_slice 126 = .ok (.aload_n 0, 1) := by decide +kernel
theorem dX6_slice_127 : decode cX6_slice 127 = .ok (.getfield 31, 3) := by decide +kernel
theorem dX6_slice_130 : decode cX6_slice 130 = .ok (.getfield 131, 3) := by decide +kernel
theorem dX6_slice_133 : decode cX6_slice 133 = .ok (.iload_n 1, 1) := by decide +kernel
theorem dX6_slice_134 : decode cX6_slice 134 = .ok (.iaload, 1) := by decide +kernel
theorem dX6_slice_135 : decode cX6_slice 135 = .ok (.ireturn, 1) := by decide +kernel
theorem dX6_slice_136 : decode cX6_slice 136 = .ok (.aload_n 0, 1) := by decide +kernel
theorem dX6_slice_137 : decode cX6_slice 137 = .ok (.getfield 31, 3) := by decide +kernel
theorem dX6_slice_140 : decode cX6_slice 140 = .ok (.iload_n 1, 1) := by decide +kernel
theorem dX6_slice_141 : decode cX6_slice 141 = .ok (.iload_n 1, 1) := by decide +kernel
theorem dX6_slice_142 : decode cX6_slice 142 = .ok (.invokevirtual 134, 3) := by decide +kernel
theorem dX6_slice_145 : decode cX6_slice 145 = .ok (.ifCond .eq 7, 3) := by decide +kernel
theorem dX6_slice_148 : decode cX6_slice 148 = .ok (.iconst 1, 1) := by decide +kernel
theorem dX6_slice_149 : decode cX6_slice 149 = .ok (.goto 4, 3) := by decide +kernel
theorem dX6_slice_152 : decode cX6_slice 152 = .ok (.iconst 0, 1) := by decide +kernel
theorem dX6_slice_153 : decode cX6_slice 153 = .ok (.ireturn, 1) := by decide +kernel
theorem dX6_slice_154 : decode cX6_slice 154 = .ok (.iconst (-1), 1) := by decide +kernel
theorem dX6_slice_155 : decode cX6_slice 155 = .ok (.ireturn, 1) := by decide +kernel
theorem dX6_putIn_0 : decode cX6_putIn 0 = .ok (.aload_n 0, 1) := by decide +kernel
theorem dX6_putIn_1 : decode cX6_putIn 1 = .ok (.iload_n 1, 1) := by decide +kernel
theorem dX6_putIn_2 : decode cX6_putIn 2 = .ok (.invokevirtual 101, 3) := by decide +kernel
theorem dX6_putIn_5 : decode cX6_putIn 5 = .ok (.ifCond .eq 10, 3) := by decide +kernel
theorem dX6_putIn_8 : decode cX6_putIn 8 = .ok (.iload_n 2, 1) := by decide +kernel
theorem dX6_putIn_9 : decode cX6_putIn 9 = .ok (.invokestatic 138, 3) := by decide +kernel
theorem dX6_putIn_12 : decode cX6_putIn 12 = .ok (.ifCond .ne 5, 3) := by decide +kernel
theorem dX6_putIn_15 : decode cX6_putIn 15 = .ok (.iconst (-1), 1) := by decide +kernel
theorem dX6_putIn_16 : decode cX6_putIn 16 = .ok (.ireturn, 1) := by decide +kernel
theorem dX6_putIn_17 : decode cX6_putIn 17 = .ok (.aload_n 0, 1) := by decide +kernel
theorem dX6_putIn_18 : decode cX6_putIn 18 = .ok (.getfield 31, 3) := by decide +kernel
theorem dX6_putIn_21 : decode cX6_putIn 21 = .ok (.iload_n 1, 1) := by decide +kernel
theorem dX6_putIn_22 : decode cX6_putIn 22 = .ok (.invokevirtual 141, 3) := by decide +kernel
theorem dX6_putIn_25 : decode cX6_putIn 25 = .ok (.ifCond .eq 14, 3) := by decide +kernel
theorem dX6_putIn_28 : decode cX6_putIn 28 = .ok (.aload_n 0, 1) := by decide +kernel
theorem dX6_putIn_29 : decode cX6_putIn 29 = .ok (.getfield 31, 3) := by decide +kernel
theorem dX6_putIn_32 : decode cX6_putIn 32 = .ok (.iload_n 2, 1) := by decide +kernel
theorem dX6_putIn_33 : decode cX6_putIn 33 = .ok (.invokevirtual 144, 3) := by decide +kernel
theorem dX6_putIn_36 : decode cX6_putIn 36 = .ok (.ifCond .ne 6, 3) := by decide +kernel
theorem dX6_putIn_39 : decode cX6_putIn 39 = .ok (.bipush (-2), 2) := by decide +kernel
theorem dX6_putIn_41 : decode cX6_putIn 41 = .ok (.ireturn, 1) := by decide +kernel
theorem dX6_putIn_42 : decode cX6_putIn 42 = .ok (.aload_n 0, 1) := by decide +kernel
theorem dX6_putIn_43 : decode cX6_putIn 43 = .ok (.getfield 44, 3) := by decide +kernel
theorem dX6_putIn_46 : decode cX6_putIn 46 = .ok (.aload_n 0, 1) := by decide +kernel
theorem dX6_putIn_47 : decode cX6_putIn 47 = .ok (.getfield 31, 3) := by decide +kernel
theorem dX6_putIn_50 : decode cX6_putIn 50 = .ok (.invokevirtual 147, 3) := by decide +kernel
theorem dX6_putIn_53 : decode cX6_putIn 53 = .ok (.aload_n 0, 1) := by decide +kernel
theorem dX6_putIn_54 : decode cX6_putIn 54 = .ok (.getfield 31, 3) := by decide +kernel
theorem dX6_putIn_57 : decode cX6_putIn 57 = .ok (.iload_n 1, 1) := by decide +kernel
theorem dX6_putIn_58 : decode cX6_putIn 58 = .ok (.iload_n 2, 1) := by decide +kernel
theorem dX6_putIn_59 : decode cX6_putIn 59 = .ok (.invokevirtual 151, 3) := by decide +kernel
theorem dX6_putIn_62 : decode cX6_putIn 62 = .ok (.aload_n 0, 1) := by decide +kernel
theorem dX6_putIn_63 : decode cX6_putIn 63 = .ok (.getfield 31, 3) := by decide +kernel
theorem dX6_putIn_66 : decode cX6_putIn 66 = .ok (.iconst 1, 1) := by decide +kernel
theorem dX6_putIn_67 : decode cX6_putIn 67 = .ok (.invokevirtual 155, 3) := by decide +kernel
theorem dX6_putIn_70 : decode cX6_putIn 70 = .ok (.ireturn, 1) := by decide +kernel
theorem dX6_pass_0 : decode cX6_pass 0 = .ok (.iload_n 1, 1) := by decide +kernel
theorem dX6_pass_1 : decode cX6_pass 1 = .ok (.iconst 1, 1) := by decide +kernel
theorem dX6_pass_2 : decode cX6_pass 2 = .ok (.bipush 60, 2) := by decide +kernel
theorem dX6_pass_4 : decode cX6_pass 4 = .ok (.invokestatic 92, 3) := by decide +kernel
theorem dX6_pass_7 : decode cX6_pass 7 = .ok (.ifCond .ne 5, 3) := by decide +kernel
theorem dX6_pass_10 : decode cX6_pass 10 = .ok (.iconst (-1), 1) := by decide +kernel
theorem dX6_pass_11 : decode cX6_pass 11 = .ok (.ireturn, 1) := by decide +kernel
theorem dX6_pass_12 : decode cX6_pass 12 = .ok (.aload_n 0, 1) := by decide +kernel
theorem dX6_pass_13 : decode cX6_pass 13 = .ok (.getfield 31, 3) := by decide +kernel
theorem dX6_pass_16 : decode cX6_pass 16 = .ok (.getfield 158, 3) := by decide +kernel
theorem dX6_pass_19 : decode cX6_pass 19 = .ok (.iload_n 1, 1) := by decide +kernel
theorem dX6_pass_20 : decode cX6_pass 20 = .ok (.iadd, 1) := by decide +kernel
theorem dX6_pass_21 : decode cX6_pass 21 = .ok (.sipush 999, 3) := by decide +kernel
theorem dX6_pass_24 : decode cX6_pass 24 = .ok (.if_icmp .le 6, 3) := by decide +kernel
theorem dX6_pass_27 : decode cX6_pass 27 = .ok (.bipush (-2), 2) := by decide +kernel
theorem dX6_pass_29 : decode cX6_pass 29 = .ok (.ireturn, 1) := by decide +kernel
theorem dX6_pass_30 : decode cX6_pass 30 = .ok (.aload_n 0, 1) := by decide +kernel
theorem dX6_pass_31 : decode cX6_pass 31 = .ok (.getfield 44, 3) := by decide +kernel
theorem dX6_pass_34 : decode cX6_pass 34 = .ok (.aload_n 0, 1) := by decide +kernel
theorem dX6_pass_35 : decode cX6_pass 35 = .ok (.getfield 31, 3) := by decide +kernel
theorem dX6_pass_38 : decode cX6_pass 38 = .ok (.invokevirtual 147, 3) := by decide +kernel
theorem dX6_pass_41 : decode cX6_pass 41 = .ok (.aload_n 0, 1) := by decide +kernel
theorem dX6_pass_42 : decode cX6_pass 42 = .ok (.getfield 31, 3) := by decide +kernel
theorem dX6_pass_45 : decode cX6_pass 45 = .ok (.iconst 1, 1) := by decide +kernel
theorem dX6_pass_46 : decode cX6_pass 46 = .ok (.invokevirtual 155, 3) := by decide +kernel
theorem dX6_pass_49 : decode cX6_pass 49 = .ok (.istore_n 2, 1) := by decide +kernel
theorem dX6_pass_50 : decode cX6_pass 50 = .ok (.iconst 0, 1) := by decide +kernel
theorem dX6_pass_51 : decode cX6_pass 51 = .ok (.istore_n 3, 1) := by decide +kernel
theorem dX6_pass_52 : decode cX6_pass 52 = .ok (.iload_n 3, 1) := by decide +kernel
theorem dX6_pass_53 : decode cX6_pass 53 = .ok (.iload_n 1, 1) := by decide +kernel
theorem dX6_pass_54 : decode cX6_pass 54 = .ok (.if_icmp .ge 16, 3) := by decide +kernel
theorem dX6_pass_57 : decode cX6_pass 57 = .ok (.aload_n 0, 1) := by decide +kernel
theorem dX6_pass_58 : decode cX6_pass 58 = .ok (.getfield 31, 3) := by decide +kernel
theorem dX6_pass_61 : decode cX6_pass 61 = .ok (.invokevirtual 161, 3) := by decide +kernel
theorem dX6_pass_64 : decode cX6_pass 64 = .ok (.iinc 3 1, 3) := by decide +kernel
theorem dX6_pass_67 : decode cX6_pass 67 = .ok (.goto (-15), 3) := by decide +kernel
theorem dX6_pass_70 : decode cX6_pass 70 = .ok (.iload_n 2, 1) := by decide +kernel
theorem dX6_pass_71 : decode cX6_pass 71 = .ok (.aload_n 0, 1) := by decide +kernel
theorem dX6_pass_72 : decode cX6_pass 72 = .ok (.getfield 31, 3) := by decide +kernel
theorem dX6_pass_75 : decode cX6_pass 75 = .ok (.iconst 1, 1) := by decide +kernel
theorem dX6_pass_76 : decode cX6_pass 76 = .ok (.invokevirtual 155, 3) := by decide +kernel
theorem dX6_pass_79 : decode cX6_pass 79 = .ok (.isub, 1) := by decide +kernel
theorem dX6_pass_80 : decode cX6_pass 80 = .ok (.ireturn, 1) := by decide +kernel
theorem dX6_knob_0 : decode cX6_knob 0 = .ok (.iload_n 1, 1) := by decide +kernel
theorem dX6_knob_1 : decode cX6_knob 1 = .ok (.invokestatic 164, 3) := by decide +kernel
theorem dX6_knob_4 : decode cX6_knob 4 = .ok (.ifCond .ne 5, 3) := by decide +kernel
theorem dX6_knob_7 : decode cX6_knob 7 = .ok (.iconst (-1), 1) := by decide +kernel
theorem dX6_knob_8 : decode cX6_knob 8 = .ok (.ireturn, 1) := by decide +kernel
theorem dX6_knob_9 : decode cX6_knob 9 = .ok (.aload_n 0, 1) := by decide +kernel
theorem dX6_knob_10 : decode cX6_knob 10 = .ok (.getfield 44, 3) := by decide +kernel
theorem dX6_knob_13 : decode cX6_knob 13 = .ok (.aload_n 0, 1) := by decide +kernel
theorem dX6_knob_14 : decode cX6_knob 14 = .ok (.getfield 31, 3) := by decide +kernel
theorem dX6_knob_17 : decode cX6_knob 17 = .ok (.invokevirtual 147, 3) := by decide +kernel
theorem dX6_knob_20 : decode cX6_knob 20 = .ok (.aload_n 0, 1) := by decide +kernel
theorem dX6_knob_21 : decode cX6_knob 21 = .ok (.getfield 31, 3) := by decide +kernel
theorem dX6_knob_24 : decode cX6_knob 24 = .ok (.getfield 167, 3) := by decide +kernel
theorem dX6_knob_27 : decode cX6_knob 27 = .ok (.istore_n 2, 1) := by decide +kernel
theorem dX6_knob_28 : decode cX6_knob 28 = .ok (.aload_n 0, 1) := by decide +kernel
theorem dX6_knob_29 : decode cX6_knob 29 = .ok (.getfield 31, 3) := by decide +kernel
theorem dX6_knob_32 : decode cX6_knob 32 = .ok (.iload_n 1, 1) := by decide +kernel
theorem dX6_knob_33 : decode cX6_knob 33 = .ok (.putfield 167, 3) := by decide +kernel
theorem dX6_knob_36 : decode cX6_knob 36 = .ok (.iload_n 2, 1) := by decide +kernel
theorem dX6_knob_37 : decode cX6_knob 37 = .ok (.ireturn, 1) := by decide +kernel
theorem dX6_take_0 : decode cX6_take 0 = .ok (.aload_n 0, 1) := by decide +kernel
theorem dX6_take_1 : decode cX6_take 1 = .ok (.iload_n 1, 1) := by decide +kernel
theorem dX6_take_2 : decode cX6_take 2 = .ok (.invokevirtual 101, 3) := by decide +kernel
theorem dX6_take_5 : decode cX6_take 5 = .ok (.ifCond .eq 11, 3) := by decide +kernel
theorem dX6_take_8 : decode cX6_take 8 = .ok (.aload_n 0, 1) := by decide +kernel
theorem dX6_take_9 : decode cX6_take 9 = .ok (.iload_n 2, 1) := by decide +kernel
theorem dX6_take_10 : decode cX6_take 10 = .ok (.invokevirtual 101, 3) := by decide +kernel
theorem dX6_take_13 : decode cX6_take 13 = .ok (.ifCond .ne 5, 3) := by decide +kernel
theorem dX6_take_16 : decode cX6_take 16 = .ok (.iconst (-1), 1) := by decide +kernel
theorem dX6_take_17 : decode cX6_take 17 = .ok (.ireturn, 1) := by decide +kernel
theorem dX6_take_18 : decode cX6_take 18 = .ok (.aload_n 0, 1) := by decide +kernel
theorem dX6_take_19 : decode cX6_take 19 = .ok (.getfield 31, 3) := by decide +kernel
theorem dX6_take_22 : decode cX6_take 22 = .ok (.iload_n 1, 1) := by decide +kernel
theorem dX6_take_23 : decode cX6_take 23 = .ok (.iload_n 2, 1) := by decide +kernel
theorem dX6_take_24 : decode cX6_take 24 = .ok (.invokevirtual 170, 3) := by decide +kernel
theorem dX6_take_27 : decode cX6_take 27 = .ok (.ifCond .ne 6, 3) := by decide +kernel
theorem dX6_take_30 : decode cX6_take 30 = .ok (.bipush (-2), 2) := by decide +kernel
theorem dX6_take_32 : decode cX6_take 32 = .ok (.ireturn, 1) := by decide +kernel
theorem dX6_take_33 : decode cX6_take 33 = .ok (.aload_n 0, 1) := by decide +kernel
theorem dX6_take_34 : decode cX6_take 34 = .ok (.getfield 44, 3) := by decide +kernel
theorem dX6_take_37 : decode cX6_take 37 = .ok (.aload_n 0, 1) := by decide +kernel
theorem dX6_take_38 : decode cX6_take 38 = .ok (.getfield 31, 3) := by decide +kernel
theorem dX6_take_41 : decode cX6_take 41 = .ok (.invokevirtual 147, 3) := by decide +kernel
theorem dX6_take_44 : decode cX6_take 44 = .ok (.aload_n 0, 1) := by decide +kernel
theorem dX6_take_45 : decode cX6_take 45 = .ok (.getfield 31, 3) := by decide +kernel
theorem dX6_take_48 : decode cX6_take 48 = .ok (.iload_n 1, 1) := by decide +kernel
theorem dX6_take_49 : decode cX6_take 49 = .ok (.iload_n 2, 1) := by decide +kernel
theorem dX6_take_50 : decode cX6_take 50 = .ok (.invokevirtual 173, 3) := by decide +kernel
theorem dX6_take_53 : decode cX6_take 53 = .ok (.aload_n 0, 1) := by decide +kernel
theorem dX6_take_54 : decode cX6_take 54 = .ok (.getfield 31, 3) := by decide +kernel
theorem dX6_take_57 : decode cX6_take 57 = .ok (.iload_n 1, 1) := by decide +kernel
theorem dX6_take_58 : decode cX6_take 58 = .ok (.iload_n 2, 1) := by decide +kernel
theorem dX6_take_59 : decode cX6_take 59 = .ok (.invokevirtual 134, 3) := by decide +kernel
theorem dX6_take_62 : decode cX6_take 62 = .ok (.ifCond .eq 7, 3) := by decide +kernel
theorem dX6_take_65 : decode cX6_take 65 = .ok (.iconst 1, 1) := by decide +kernel
theorem dX6_take_66 : decode cX6_take 66 = .ok (.goto 4, 3) := by decide +kernel
theorem dX6_take_69 : decode cX6_take 69 = .ok (.iconst 0, 1) := by decide +kernel
theorem dX6_take_70 : decode cX6_take 70 = .ok (.ireturn, 1) := by decide +kernel
theorem dX6_undo_0 : decode cX6_undo 0 = .ok (.aload_n 0, 1) := by decide +kernel
theorem dX6_undo_1 : decode cX6_undo 1 = .ok (.getfield 44, 3) := by decide +kernel
theorem dX6_undo_4 : decode cX6_undo 4 = .ok (.getfield 176, 3) := by decide +kernel
theorem dX6_undo_7 : decode cX6_undo 7 = .ok (.ifCond .ne 6, 3) := by decide +kernel
theorem dX6_undo_10 : decode cX6_undo 10 = .ok (.bipush (-2), 2) := by decide +kernel
theorem dX6_undo_12 : decode cX6_undo 12 = .ok (.ireturn, 1) := by decide +kernel
theorem dX6_undo_13 : decode cX6_undo 13 = .ok (.aload_n 0, 1) := by decide +kernel
theorem dX6_undo_14 : decode cX6_undo 14 = .ok (.getfield 44, 3) := by decide +kernel
theorem dX6_undo_17 : decode cX6_undo 17 = .ok (.aload_n 0, 1) := by decide +kernel
theorem dX6_undo_18 : decode cX6_undo 18 = .ok (.getfield 31, 3) := by decide +kernel
theorem dX6_undo_21 : decode cX6_undo 21 = .ok (.invokevirtual 179, 3) := by decide +kernel
theorem dX6_undo_24 : decode cX6_undo 24 = .ok (.aload_n 0, 1) := by decide +kernel
theorem dX6_undo_25 : decode cX6_undo 25 = .ok (.getfield 44, 3) := by decide +kernel
theorem dX6_undo_28 : decode cX6_undo 28 = .ok (.getfield 176, 3) := by decide +kernel
theorem dX6_undo_31 : decode cX6_undo 31 = .ok (.ireturn, 1) := by decide +kernel
theorem dX6_falls_0 : decode cX6_falls 0 = .ok (.aload_n 0, 1) := by decide +kernel
theorem dX6_falls_1 : decode cX6_falls 1 = .ok (.iload_n 1, 1) := by decide +kernel
theorem dX6_falls_2 : decode cX6_falls 2 = .ok (.invokevirtual 101, 3) := by decide +kernel
theorem dX6_falls_5 : decode cX6_falls 5 = .ok (.ifCond .ne 5, 3) := by decide +kernel
theorem dX6_falls_8 : decode cX6_falls 8 = .ok (.iconst (-1), 1) := by decide +kernel
theorem dX6_falls_9 : decode cX6_falls 9 = .ok (.ireturn, 1) := by decide +kernel
theorem dX6_falls_10 : decode cX6_falls 10 = .ok (.aload_n 0, 1) := by decide +kernel
theorem dX6_falls_11 : decode cX6_falls 11 = .ok (.getfield 31, 3) := by decide +kernel
theorem dX6_falls_14 : decode cX6_falls 14 = .ok (.getfield 119, 3) := by decide +kernel
theorem dX6_falls_17 : decode cX6_falls 17 = .ok (.iload_n 1, 1) := by decide +kernel
theorem dX6_falls_18 : decode cX6_falls 18 = .ok (.iaload, 1) := by decide +kernel
theorem dX6_falls_19 : decode cX6_falls 19 = .ok (.iconst 1, 1) := by decide +kernel
theorem dX6_falls_20 : decode cX6_falls 20 = .ok (.if_icmp .eq 6, 3) := by decide +kernel
theorem dX6_falls_23 : decode cX6_falls 23 = .ok (.bipush (-4), 2) := by decide +kernel
theorem dX6_falls_25 : decode cX6_falls 25 = .ok (.ireturn, 1) := by decide +kernel
theorem dX6_falls_26 : decode cX6_falls 26 = .ok (.aload_n 0, 1) := by decide +kernel
theorem dX6_falls_27 : decode cX6_falls 27 = .ok (.getfield 23, 3) := by decide +kernel
theorem dX6_falls_30 : decode cX6_falls 30 = .ok (.getfield 182, 3) := by decide +kernel
theorem dX6_falls_33 : decode cX6_falls 33 = .ok (.aload_n 0, 1) := by decide +kernel
theorem dX6_falls_34 : decode cX6_falls 34 = .ok (.getfield 31, 3) := by decide +kernel
theorem dX6_falls_37 : decode cX6_falls 37 = .ok (.getfield 125, 3) := by decide +kernel
theorem dX6_falls_40 : decode cX6_falls 40 = .ok (.iload_n 1, 1) := by decide +kernel
theorem dX6_falls_41 : decode cX6_falls 41 = .ok (.iaload, 1) := by decide +kernel
theorem dX6_falls_42 : decode cX6_falls 42 = .ok (.isub, 1) := by decide +kernel
theorem dX6_falls_43 : decode cX6_falls 43 = .ok (.aload_n 0, 1) := by decide +kernel
theorem dX6_falls_44 : decode cX6_falls 44 = .ok (.getfield 31, 3) := by decide +kernel
theorem dX6_falls_47 : decode cX6_falls 47 = .ok (.getfield 167, 3) := by decide +kernel
theorem dX6_falls_50 : decode cX6_falls 50 = .ok (.invokestatic 184, 3) := by decide +kernel
theorem dX6_falls_53 : decode cX6_falls 53 = .ok (.ireturn, 1) := by decide +kernel
theorem dX6_willBe_0 : decode cX6_willBe 0 = .ok (.aload_n 0, 1) := by decide +kernel
theorem dX6_willBe_1 : decode cX6_willBe 1 = .ok (.iload_n 1, 1) := by decide +kernel
theorem dX6_willBe_2 : decode cX6_willBe 2 = .ok (.invokevirtual 101, 3) := by decide +kernel
theorem dX6_willBe_5 : decode cX6_willBe 5 = .ok (.ifCond .ne 5, 3) := by decide +kernel
theorem dX6_willBe_8 : decode cX6_willBe 8 = .ok (.iconst (-1), 1) := by decide +kernel
theorem dX6_willBe_9 : decode cX6_willBe 9 = .ok (.ireturn, 1) := by decide +kernel
theorem dX6_willBe_10 : decode cX6_willBe 10 = .ok (.aload_n 0, 1) := by decide +kernel
theorem dX6_willBe_11 : decode cX6_willBe 11 = .ok (.getfield 31, 3) := by decide +kernel
theorem dX6_willBe_14 : decode cX6_willBe 14 = .ok (.getfield 119, 3) := by decide +kernel
theorem dX6_willBe_17 : decode cX6_willBe 17 = .ok (.iload_n 1, 1) := by decide +kernel
theorem dX6_willBe_18 : decode cX6_willBe 18 = .ok (.iaload, 1) := by decide +kernel
theorem dX6_willBe_19 : decode cX6_willBe 19 = .ok (.iconst 3, 1) := by decide +kernel
theorem dX6_willBe_20 : decode cX6_willBe 20 = .ok (.if_icmp .ne 6, 3) := by decide +kernel
theorem dX6_willBe_23 : decode cX6_willBe 23 = .ok (.bipush (-4), 2) := by decide +kernel
theorem dX6_willBe_25 : decode cX6_willBe 25 = .ok (.ireturn, 1) := by decide +kernel
theorem dX6_willBe_26 : decode cX6_willBe 26 = .ok (.aload_n 0, 1) := by decide +kernel
theorem dX6_willBe_27 : decode cX6_willBe 27 = .ok (.getfield 35, 3) := by decide +kernel
theorem dX6_willBe_30 : decode cX6_willBe 30 = .ok (.aload_n 0, 1) := by decide +kernel
theorem dX6_willBe_31 : decode cX6_willBe 31 = .ok (.getfield 31, 3) := by decide +kernel
theorem dX6_willBe_34 : decode cX6_willBe 34 = .ok (.invokevirtual 188, 3) := by decide +kernel
theorem dX6_willBe_37 : decode cX6_willBe 37 = .ok (.aload_n 0, 1) := by decide +kernel
theorem dX6_willBe_38 : decode cX6_willBe 38 = .ok (.getfield 35, 3) := by decide +kernel
theorem dX6_willBe_41 : decode cX6_willBe 41 = .ok (.iload_n 1, 1) := by decide +kernel
theorem dX6_willBe_42 : decode cX6_willBe 42 = .ok (.invokevirtual 191, 3) := by decide +kernel
theorem dX6_willBe_45 : decode cX6_willBe 45 = .ok (.aload_n 0, 1) := by decide +kernel
theorem dX6_willBe_46 : decode cX6_willBe 46 = .ok (.getfield 35, 3) := by decide +kernel
theorem dX6_willBe_49 : decode cX6_willBe 49 = .ok (.getfield 128, 3) := by decide +kernel
theorem dX6_willBe_52 : decode cX6_willBe 52 = .ok (.iload_n 1, 1) := by decide +kernel
theorem dX6_willBe_53 : decode cX6_willBe 53 = .ok (.iaload, 1) := by decide +kernel
theorem dX6_willBe_54 : decode cX6_willBe 54 = .ok (.ireturn, 1) := by decide +kernel
theorem dX6_content_0 : decode cX6_content 0 = .ok (.aload_n 0, 1) := by decide +kernel
theorem dX6_content_1 : decode cX6_content 1 = .ok (.getfield 31, 3) := by decide +kernel
theorem dX6_content_4 : decode cX6_content 4 = .ok (.invokevirtual 195, 3) := by decide +kernel
theorem dX6_content_7 : decode cX6_content 7 = .ok (.ireturn, 1) := by decide +kernel
theorem dX6_knobFor_0 : decode cX6_knobFor 0 = .ok (.aload_n 0, 1) := by decide +kernel
theorem dX6_knobFor_1 : decode cX6_knobFor 1 = .ok (.iload_n 1, 1) := by decide +kernel
theorem dX6_knobFor_2 : decode cX6_knobFor 2 = .ok (.iload_n 2, 1) := by decide +kernel
theorem dX6_knobFor_3 : decode cX6_knobFor 3 = .ok (.invokevirtual 198, 3) := by decide +kernel
theorem dX6_knobFor_6 : decode cX6_knobFor 6 = .ok (.istore_n 3, 1) := by decide +kernel
theorem dX6_knobFor_7 : decode cX6_knobFor 7 = .ok (.iload_n 3, 1) := by decide +kernel
theorem dX6_knobFor_8 : decode cX6_knobFor 8 = .ok (.ifCond .eq 5, 3) := by decide +kernel
theorem dX6_knobFor_11 : decode cX6_knobFor 11 = .ok (.iload_n 3, 1) := by decide +kernel
theorem dX6_knobFor_12 : decode cX6_knobFor 12 = .ok (.ireturn, 1) := by decide +kernel
theorem dX6_knobFor_13 : decode cX6_knobFor 13 = .ok (.iconst 1, 1) := by decide +kernel
theorem dX6_knobFor_14 : decode cX6_knobFor 14 = .ok (.istore 4, 2) := by decide +kernel
theorem dX6_knobFor_16 : decode cX6_knobFor 16 = .ok (.iload 4, 2) := by decide +kernel
theorem dX6_knobFor_18 : decode cX6_knobFor 18 = .ok (.bipush 9, 2) := by decide +kernel
theorem dX6_knobFor_20 : decode cX6_knobFor 20 = .ok (.if_icmp .gt 44, 3) := by decide +kernel
theorem dX6_knobFor_23 : decode cX6_knobFor 23 = .ok (.aload_n 0, 1) := by decide +kernel
theorem dX6_knobFor_24 : decode cX6_knobFor 24 = .ok (.getfield 35, 3) := by decide +kernel
theorem dX6_knobFor_27 : decode cX6_knobFor 27 = .ok (.aload_n 0, 1) := by decide +kernel
theorem dX6_knobFor_28 : decode cX6_knobFor 28 = .ok (.getfield 31, 3) := by decide +kernel
theorem dX6_knobFor_31 : decode cX6_knobFor 31 = .ok (.invokevirtual 188, 3) := by decide +kernel
theorem dX6_knobFor_34 : decode cX6_knobFor 34 = .ok (.aload_n 0, 1) := by decide +kernel
theorem dX6_knobFor_35 : decode cX6_knobFor 35 = .ok (.getfield 35, 3) := by decide +kernel
theorem dX6_knobFor_38 : decode cX6_knobFor 38 = .ok (.iload 4, 2) := by decide +kernel
theorem dX6_knobFor_40 : decode cX6_knobFor 40 = .ok (.putfield 167, 3) := by decide +kernel
theorem dX6_knobFor_43 : decode cX6_knobFor 43 = .ok (.aload_n 0, 1) := by decide +kernel
theorem dX6_knobFor_44 : decode cX6_knobFor 44 = .ok (.getfield 35, 3) := by decide +kernel
theorem dX6_knobFor_47 : decode cX6_knobFor 47 = .ok (.iload_n 1, 1) := by decide +kernel
theorem dX6_knobFor_48 : decode cX6_knobFor 48 = .ok (.iload_n 2, 1) := by decide +kernel
theorem dX6_knobFor_49 : decode cX6_knobFor 49 = .ok (.invokevirtual 201, 3) := by decide +kernel
theorem dX6_knobFor_52 : decode cX6_knobFor 52 = .ok (.ifCond .eq 6, 3) := by decide +kernel
theorem dX6_knobFor_55 : decode cX6_knobFor 55 = .ok (.iload 4, 2) := by decide +kernel
theorem dX6_knobFor_57 : decode cX6_knobFor 57 = .ok (.ireturn, 1) := by decide +kernel
theorem dX6_knobFor_58 : decode cX6_knobFor 58 = .ok (.iinc 4 1, 3) := by decide +kernel
theorem dX6_knobFor_61 : decode cX6_knobFor 61 = .ok (.goto (-45), 3) := by decide +kernel
theorem dX6_knobFor_64 : decode cX6_knobFor 64 = .ok (.bipush (-4), 2) := by decide +kernel
theorem dX6_knobFor_66 : decode cX6_knobFor 66 = .ok (.ireturn, 1) := by decide +kernel
theorem dX6_often_0 : decode cX6_often 0 = .ok (.aload_n 0, 1) := by decide +kernel
theorem dX6_often_1 : decode cX6_often 1 = .ok (.iload_n 1, 1) := by decide +kernel
theorem dX6_often_2 : decode cX6_often 2 = .ok (.iload_n 2, 1) := by decide +kernel
theorem dX6_often_3 : decode cX6_often 3 = .ok (.invokevirtual 198, 3) := by decide +kernel
theorem dX6_often_6 : decode cX6_often 6 = .ok (.istore_n 3, 1) := by decide +kernel
theorem dX6_often_7 : decode cX6_often 7 = .ok (.iload_n 3, 1) := by decide +kernel
theorem dX6_often_8 : decode cX6_often 8 = .ok (.ifCond .eq 5, 3) := by decide +kernel
theorem dX6_often_11 : decode cX6_often 11 = .ok (.iload_n 3, 1) := by decide +kernel
theorem dX6_often_12 : decode cX6_often 12 = .ok (.ireturn, 1) := by decide +kernel
theorem dX6_often_13 : decode cX6_often 13 = .ok (.aload_n 0, 1) := by decide +kernel
theorem dX6_often_14 : decode cX6_often 14 = .ok (.getfield 35, 3) := by decide +kernel
theorem dX6_often_17 : decode cX6_often 17 = .ok (.aload_n 0, 1) := by decide +kernel
theorem dX6_often_18 : decode cX6_often 18 = .ok (.getfield 31, 3) := by decide +kernel
theorem dX6_often_21 : decode cX6_often 21 = .ok (.invokevirtual 188, 3) := by decide +kernel
theorem dX6_often_24 : decode cX6_often 24 = .ok (.iconst 1, 1) := by decide +kernel
theorem dX6_often_25 : decode cX6_often 25 = .ok (.istore 4, 2) := by decide +kernel
theorem dX6_often_27 : decode cX6_often 27 = .ok (.iload 4, 2) := by decide +kernel
theorem dX6_often_29 : decode cX6_often 29 = .ok (.iconst 5, 1) := by decide +kernel
theorem dX6_often_30 : decode cX6_often 30 = .ok (.if_icmp .gt 24, 3) := by decide +kernel
theorem dX6_often_33 : decode cX6_often 33 = .ok (.aload_n 0, 1) := by decide +kernel
theorem dX6_often_34 : decode cX6_often 34 = .ok (.getfield 35, 3) := by decide +kernel
theorem dX6_often_37 : decode cX6_often 37 = .ok (.iload_n 1, 1) := by decide +kernel
theorem dX6_often_38 : decode cX6_often 38 = .ok (.iload_n 2, 1) := by decide +kernel
theorem dX6_often_39 : decode cX6_often 39 = .ok (.invokevirtual 201, 3) := by decide +kernel
theorem dX6_often_42 : decode cX6_often 42 = .ok (.ifCond .eq 6, 3) := by decide +kernel
theorem dX6_often_45 : decode cX6_often 45 = .ok (.iload 4, 2) := by decide +kernel
theorem dX6_often_47 : decode cX6_often 47 = .ok (.ireturn, 1) := by decide +kernel
theorem dX6_often_48 : decode cX6_often 48 = .ok (.iinc 4 1, 3) := by decide +kernel
theorem dX6_often_51 : decode cX6_often 51 = .ok (.goto (-24), 3) := by decide +kernel
theorem dX6_often_54 : decode cX6_often 54 = .ok (.bipush (-4), 2) := by decide +kernel
theorem dX6_often_56 : decode cX6_often 56 = .ok (.ireturn, 1) := by decide +kernel
theorem dX6_waits_0 : decode cX6_waits 0 = .ok (.aload_n 0, 1) := by decide +kernel
theorem dX6_waits_1 : decode cX6_waits 1 = .ok (.iload_n 1, 1) := by decide +kernel
theorem dX6_waits_2 : decode cX6_waits 2 = .ok (.iload_n 2, 1) := by decide +kernel
theorem dX6_waits_3 : decode cX6_waits 3 = .ok (.invokevirtual 198, 3) := by decide +kernel
theorem dX6_waits_6 : decode cX6_waits 6 = .ok (.istore_n 3, 1) := by decide +kernel
theorem dX6_waits_7 : decode cX6_waits 7 = .ok (.iload_n 3, 1) := by decide +kernel
theorem dX6_waits_8 : decode cX6_waits 8 = .ok (.ifCond .eq 5, 3) := by decide +kernel
theorem dX6_waits_11 : decode cX6_waits 11 = .ok (.iload_n 3, 1) := by decide +kernel
theorem dX6_waits_12 : decode cX6_waits 12 = .ok (.ireturn, 1) := by decide +kernel
theorem dX6_waits_13 : decode cX6_waits 13 = .ok (.aload_n 0, 1) := by decide +kernel
theorem dX6_waits_14 : decode cX6_waits 14 = .ok (.getfield 38, 3) := by decide +kernel
theorem dX6_waits_17 : decode cX6_waits 17 = .ok (.aload_n 0, 1) := by decide +kernel
theorem dX6_waits_18 : decode cX6_waits 18 = .ok (.getfield 31, 3) := by decide +kernel
theorem dX6_waits_21 : decode cX6_waits 21 = .ok (.invokevirtual 188, 3) := by decide +kernel
theorem dX6_waits_24 : decode cX6_waits 24 = .ok (.iconst 0, 1) := by decide +kernel
theorem dX6_waits_25 : decode cX6_waits 25 = .ok (.istore 4, 2) := by decide +kernel
theorem dX6_waits_27 : decode cX6_waits 27 = .ok (.iload 4, 2) := by decide +kernel
theorem dX6_waits_29 : decode cX6_waits 29 = .ok (.bipush 30, 2) := by decide +kernel
theorem dX6_waits_31 : decode cX6_waits 31 = .ok (.if_icmp .gt 42, 3) := by decide +kernel
theorem dX6_waits_34 : decode cX6_waits 34 = .ok (.aload_n 0, 1) := by decide +kernel
theorem dX6_waits_35 : decode cX6_waits 35 = .ok (.getfield 35, 3) := by decide +kernel
theorem dX6_waits_38 : decode cX6_waits 38 = .ok (.aload_n 0, 1) := by decide +kernel
theorem dX6_waits_39 : decode cX6_waits 39 = .ok (.getfield 38, 3) := by decide +kernel
theorem dX6_waits_42 : decode cX6_waits 42 = .ok (.invokevirtual 188, 3) := by decide +kernel
theorem dX6_waits_45 : decode cX6_waits 45 = .ok (.aload_n 0, 1) := by decide +kernel
theorem dX6_waits_46 : decode cX6_waits 46 = .ok (.getfield 35, 3) := by decide +kernel
theorem dX6_waits_49 : decode cX6_waits 49 = .ok (.iload_n 1, 1) := by decide +kernel
theorem dX6_waits_50 : decode cX6_waits 50 = .ok (.iload_n 2, 1) := by decide +kernel
theorem dX6_waits_51 : decode cX6_waits 51 = .ok (.invokevirtual 201, 3) := by decide +kernel
theorem dX6_waits_54 : decode cX6_waits 54 = .ok (.ifCond .eq 6, 3) := by decide +kernel
theorem dX6_waits_57 : decode cX6_waits 57 = .ok (.iload 4, 2) := by decide +kernel
theorem dX6_waits_59 : decode cX6_waits 59 = .ok (.ireturn, 1) := by decide +kernel
theorem dX6_waits_60 : decode cX6_waits 60 = .ok (.aload_n 0, 1) := by decide +kernel
theorem dX6_waits_61 : decode cX6_waits 61 = .ok (.getfield 38, 3) := by decide +kernel
theorem dX6_waits_64 : decode cX6_waits 64 = .ok (.invokevirtual 161, 3) := by decide +kernel
theorem dX6_waits_67 : decode cX6_waits 67 = .ok (.iinc 4 1, 3) := by decide +kernel
theorem dX6_waits_70 : decode cX6_waits 70 = .ok (.goto (-43), 3) := by decide +kernel
theorem dX6_waits_73 : decode cX6_waits 73 = .ok (.bipush (-4), 2) := by decide +kernel
theorem dX6_waits_75 : decode cX6_waits 75 = .ok (.ireturn, 1) := by decide +kernel
theorem dX6_harm_0 : decode cX6_harm 0 = .ok (.iload_n 1, 1) := by decide +kernel
theorem dX6_harm_1 : decode cX6_harm 1 = .ok (.invokestatic 164, 3) := by decide +kernel
theorem dX6_harm_4 : decode cX6_harm 4 = .ok (.ifCond .ne 5, 3) := by decide +kernel
theorem dX6_harm_7 : decode cX6_harm 7 = .ok (.iconst (-1), 1) := by decide +kernel
theorem dX6_harm_8 : decode cX6_harm 8 = .ok (.ireturn, 1) := by decide +kernel
theorem dX6_harm_9 : decode cX6_harm 9 = .ok (.aload_n 0, 1) := by decide +kernel
theorem dX6_harm_10 : decode cX6_harm 10 = .ok (.aload_n 0, 1) := by decide +kernel
theorem dX6_harm_11 : decode cX6_harm 11 = .ok (.getfield 31, 3) := by decide +kernel
theorem dX6_harm_14 : decode cX6_harm 14 = .ok (.getfield 167, 3) := by decide +kernel
theorem dX6_harm_17 : decode cX6_harm 17 = .ok (.invokevirtual 204, 3) := by decide +kernel
theorem dX6_harm_20 : decode cX6_harm 20 = .ok (.aload_n 0, 1) := by decide +kernel
theorem dX6_harm_21 : decode cX6_harm 21 = .ok (.iload_n 1, 1) := by decide +kernel
theorem dX6_harm_22 : decode cX6_harm 22 = .ok (.invokevirtual 204, 3) := by decide +kernel
theorem dX6_harm_25 : decode cX6_harm 25 = .ok (.iconst (-1), 1) := by decide +kernel
theorem dX6_harm_26 : decode cX6_harm 26 = .ok (.ixor, 1) := by decide +kernel
theorem dX6_harm_27 : decode cX6_harm 27 = .ok (.iand, 1) := by decide +kernel
theorem dX6_harm_28 : decode cX6_harm 28 = .ok (.ireturn, 1) := by decide +kernel
theorem dX6_share_0 : decode cX6_share 0 = .ok (.iload_n 1, 1) := by decide +kernel
theorem dX6_share_1 : decode cX6_share 1 = .ok (.iconst (-1), 1) := by decide +kernel
theorem dX6_share_2 : decode cX6_share 2 = .ok (.if_icmp .eq 13, 3) := by decide +kernel
theorem dX6_share_5 : decode cX6_share 5 = .ok (.aload_n 0, 1) := by decide +kernel
theorem dX6_share_6 : decode cX6_share 6 = .ok (.iload_n 1, 1) := by decide +kernel
theorem dX6_share_7 : decode cX6_share 7 = .ok (.invokevirtual 101, 3) := by decide +kernel
theorem dX6_share_10 : decode cX6_share 10 = .ok (.ifCond .ne 5, 3) := by decide +kernel
theorem dX6_share_13 : decode cX6_share 13 = .ok (.iconst (-1), 1) := by decide +kernel
theorem dX6_share_14 : decode cX6_share 14 = .ok (.ireturn, 1) := by decide +kernel
theorem dX6_share_15 : decode cX6_share 15 = .ok (.aload_n 0, 1) := by decide +kernel
theorem dX6_share_16 : decode cX6_share 16 = .ok (.getfield 62, 3) := by decide +kernel
theorem dX6_share_19 : decode cX6_share 19 = .ok (.aload_n 0, 1) := by decide +kernel
theorem dX6_share_20 : decode cX6_share 20 = .ok (.getfield 31, 3) := by decide +kernel
theorem dX6_share_23 : decode cX6_share 23 = .ok (.invokevirtual 207, 3) := by decide +kernel
theorem dX6_share_26 : decode cX6_share 26 = .ok (.iload_n 1, 1) := by decide +kernel
theorem dX6_share_27 : decode cX6_share 27 = .ok (.iconst (-1), 1) := by decide +kernel
theorem dX6_share_28 : decode cX6_share 28 = .ok (.if_icmp .ne 13, 3) := by decide +kernel
theorem dX6_share_31 : decode cX6_share 31 = .ok (.aload_n 0, 1) := by decide +kernel
theorem dX6_share_32 : decode cX6_share 32 = .ok (.getfield 62, 3) := by decide +kernel
theorem dX6_share_35 : decode cX6_share 35 = .ok (.getfield 210, 3) := by decide +kernel
theorem dX6_share_38 : decode cX6_share 38 = .ok (.goto 12, 3) := by decide +kernel
theorem dX6_share_41 : decode cX6_share 41 = .ok (.aload_n 0, 1) := by decide +kernel
theorem dX6_share_42 : decode cX6_share 42 = .ok (.getfield 62, 3) := by decide +kernel
theorem dX6_share_45 : decode cX6_share 45 = .ok (.getfield 213, 3) := by decide +kernel
theorem dX6_share_48 : decode cX6_share 48 = .ok (.iload_n 1, 1) := by decide +kernel
theorem dX6_share_49 : decode cX6_share 49 = .ok (.iaload, 1) := by decide +kernel
theorem dX6_share_50 : decode cX6_share 50 = .ok (.ireturn, 1) := by decide +kernel
theorem dX6_round_0 : decode cX6_round 0 = .ok (.aload_n 0, 1) := by decide +kernel
theorem dX6_round_1 : decode cX6_round 1 = .ok (.getfield 62, 3) := by decide +kernel
theorem dX6_round_4 : decode cX6_round 4 = .ok (.aload_n 0, 1) := by decide +kernel
theorem dX6_round_5 : decode cX6_round 5 = .ok (.getfield 31, 3) := by decide +kernel
theorem dX6_round_8 : decode cX6_round 8 = .ok (.invokevirtual 207, 3) := by decide +kernel
theorem dX6_round_11 : decode cX6_round 11 = .ok (.iconst 0, 1) := by decide +kernel
theorem dX6_round_12 : decode cX6_round 12 = .ok (.istore_n 1, 1) := by decide +kernel
theorem dX6_round_13 : decode cX6_round 13 = .ok (.iconst 0, 1) := by decide +kernel
theorem dX6_round_14 : decode cX6_round 14 = .ok (.istore_n 2, 1) := by decide +kernel
theorem dX6_round_15 : decode cX6_round 15 = .ok (.iload_n 2, 1) := by decide +kernel
theorem dX6_round_16 : decode cX6_round 16 = .ok (.aload_n 0, 1) := by decide +kernel
theorem dX6_round_17 : decode cX6_round 17 = .ok (.getfield 23, 3) := by decide +kernel
theorem dX6_round_20 : decode cX6_round 20 = .ok (.getfield 97, 3) := by decide +kernel
theorem dX6_round_23 : decode cX6_round 23 = .ok (.if_icmp .ge 39, 3) := by decide +kernel
theorem dX6_round_26 : decode cX6_round 26 = .ok (.aload_n 0, 1) := by decide +kernel
theorem dX6_round_27 : decode cX6_round 27 = .ok (.getfield 62, 3) := by decide +kernel
theorem dX6_round_30 : decode cX6_round 30 = .ok (.getfield 213, 3) := by decide +kernel
theorem dX6_round_33 : decode cX6_round 33 = .ok (.iload_n 2, 1) := by decide +kernel
theorem dX6_round_34 : decode cX6_round 34 = .ok (.iaload, 1) := by decide +kernel
theorem dX6_round_35 : decode cX6_round 35 = .ok (.bipush (-4), 2) := by decide +kernel
theorem dX6_round_37 : decode cX6_round 37 = .ok (.if_icmp .eq 19, 3) := by decide +kernel
theorem dX6_round_40 : decode cX6_round 40 = .ok (.aload_n 0, 1) := by decide +kernel
theorem dX6_round_41 : decode cX6_round 41 = .ok (.getfield 62, 3) := by decide +kernel
theorem dX6_round_44 : decode cX6_round 44 = .ok (.getfield 213, 3) := by decide +kernel
theorem dX6_round_47 : decode cX6_round 47 = .ok (.iload_n 2, 1) := by decide +kernel
theorem dX6_round_48 : decode cX6_round 48 = .ok (.iaload, 1) := by decide +kernel
theorem dX6_round_49 : decode cX6_round 49 = .ok (.iload_n 2, 1) := by decide +kernel
theorem dX6_round_50 : decode cX6_round 50 = .ok (.if_icmp .eq 6, 3) := by decide +kernel
theorem dX6_round_53 : decode cX6_round 53 = .ok (.iinc 1 1, 3) := by decide +kernel
theorem dX6_round_56 : decode cX6_round 56 = .ok (.iinc 2 1, 3) := by decide +kernel
theorem dX6_round_59 : decode cX6_round 59 = .ok (.goto (-44), 3) := by decide +kernel
theorem dX6_round_62 : decode cX6_round 62 = .ok (.iload_n 1, 1) := by decide +kernel
theorem dX6_round_63 : decode cX6_round 63 = .ok (.ireturn, 1) := by decide +kernel
theorem dX6_seen_0 : decode cX6_seen 0 = .ok (.iload_n 1, 1) := by decide +kernel
theorem dX6_seen_1 : decode cX6_seen 1 = .ok (.iconst 0, 1) := by decide +kernel
theorem dX6_seen_2 : decode cX6_seen 2 = .ok (.iconst 3, 1) := by decide +kernel
theorem dX6_seen_3 : decode cX6_seen 3 = .ok (.invokestatic 92, 3) := by decide +kernel
theorem dX6_seen_6 : decode cX6_seen 6 = .ok (.ifCond .eq 29, 3) := by decide +kernel
theorem dX6_seen_9 : decode cX6_seen 9 = .ok (.iload_n 2, 1) := by decide +kernel
theorem dX6_seen_10 : decode cX6_seen 10 = .ok (.invokestatic 138, 3) := by decide +kernel
theorem dX6_seen_13 : decode cX6_seen 13 = .ok (.ifCond .eq 22, 3) := by decide +kernel
theorem dX6_seen_16 : decode cX6_seen 16 = .ok (.iload_n 3, 1) := by decide +kernel
theorem dX6_seen_17 : decode cX6_seen 17 = .ok (.invokestatic 164, 3) := by decide +kernel
theorem dX6_seen_20 : decode cX6_seen 20 = .ok (.ifCond .eq 15, 3) := by decide +kernel
theorem dX6_seen_23 : decode cX6_seen 23 = .ok (.iload 4, 2) := by decide +kernel
theorem dX6_seen_25 : decode cX6_seen 25 = .ok (.iconst 0, 1) := by decide +kernel
theorem dX6_seen_26 : decode cX6_seen 26 = .ok (.sipush 999, 3) := by decide +kernel
theorem dX6_seen_29 : decode cX6_seen 29 = .ok (.invokestatic 92, 3) := by decide +kernel
theorem dX6_seen_32 : decode cX6_seen 32 = .ok (.ifCond .ne 5, 3) := by decide +kernel
theorem dX6_seen_35 : decode cX6_seen 35 = .ok (.iconst (-1), 1) := by decide +kernel
theorem dX6_seen_36 : decode cX6_seen 36 = .ok (.ireturn, 1) := by decide +kernel
theorem dX6_seen_37 : decode cX6_seen 37 = .ok (.aload_n 0, 1) := by decide +kernel
theorem dX6_seen_38 : decode cX6_seen 38 = .ok (.getfield 55, 3) := by decide +kernel
theorem dX6_seen_41 : decode cX6_seen 41 = .ok (.iload_n 1, 1) := by decide +kernel
theorem dX6_seen_42 : decode cX6_seen 42 = .ok (.iload_n 2, 1) := by decide +kernel
theorem dX6_seen_43 : decode cX6_seen 43 = .ok (.iload_n 3, 1) := by decide +kernel
theorem dX6_seen_44 : decode cX6_seen 44 = .ok (.iload 4, 2) := by decide +kernel
theorem dX6_seen_46 : decode cX6_seen 46 = .ok (.invokevirtual 216, 3) := by decide +kernel
theorem dX6_seen_49 : decode cX6_seen 49 = .ok (.ifCond .eq 13, 3) := by decide +kernel
theorem dX6_seen_52 : decode cX6_seen 52 = .ok (.aload_n 0, 1) := by decide +kernel
theorem dX6_seen_53 : decode cX6_seen 53 = .ok (.getfield 55, 3) := by decide +kernel
theorem dX6_seen_56 : decode cX6_seen 56 = .ok (.getfield 219, 3) := by decide +kernel
theorem dX6_seen_59 : decode cX6_seen 59 = .ok (.goto 5, 3) := by decide +kernel
theorem dX6_seen_62 : decode cX6_seen 62 = .ok (.bipush (-3), 2) := by decide +kernel
theorem dX6_seen_64 : decode cX6_seen 64 = .ok (.ireturn, 1) := by decide +kernel
theorem dX6_forget_0 : decode cX6_forget 0 = .ok (.aload_n 0, 1) := by decide +kernel
theorem dX6_forget_1 : decode cX6_forget 1 = .ok (.getfield 55, 3) := by decide +kernel
theorem dX6_forget_4 : decode cX6_forget 4 = .ok (.getfield 219, 3) := by decide +kernel
theorem dX6_forget_7 : decode cX6_forget 7 = .ok (.istore_n 1, 1) := by decide +kernel
theorem dX6_forget_8 : decode cX6_forget 8 = .ok (.aload_n 0, 1) := by decide +kernel
theorem dX6_forget_9 : decode cX6_forget 9 = .ok (.getfield 55, 3) := by decide +kernel
theorem dX6_forget_12 : decode cX6_forget 12 = .ok (.iconst 0, 1) := by decide +kernel
theorem dX6_forget_13 : decode cX6_forget 13 = .ok (.putfield 219, 3) := by decide +kernel
theorem dX6_forget_16 : decode cX6_forget 16 = .ok (.iload_n 1, 1) := by decide +kernel
theorem dX6_forget_17 : decode cX6_forget 17 = .ok (.ireturn, 1) := by decide +kernel
theorem dX6_hot_0 : decode cX6_hot 0 = .ok (.iload_n 1, 1) := by decide +kernel
theorem dX6_hot_1 : decode cX6_hot 1 = .ok (.iconst 0, 1) := by decide +kernel
theorem dX6_hot_2 : decode cX6_hot 2 = .ok (.iconst 1, 1) := by decide +kernel
theorem dX6_hot_3 : decode cX6_hot 3 = .ok (.invokestatic 92, 3) := by decide +kernel
theorem dX6_hot_6 : decode cX6_hot 6 = .ok (.ifCond .ne 5, 3) := by decide +kernel
theorem dX6_hot_9 : decode cX6_hot 9 = .ok (.iconst (-1), 1) := by decide +kernel
theorem dX6_hot_10 : decode cX6_hot 10 = .ok (.ireturn, 1) := by decide +kernel
theorem dX6_hot_11 : decode cX6_hot 11 = .ok (.iconst 0, 1) := by decide +kernel
theorem dX6_hot_12 : decode cX6_hot 12 = .ok (.istore_n 2, 1) := by decide +kernel
theorem dX6_hot_13 : decode cX6_hot 13 = .ok (.bipush (-4), 2) := by decide +kernel
theorem dX6_hot_15 : decode cX6_hot 15 = .ok (.istore_n 3, 1) := by decide +kernel
theorem dX6_hot_16 : decode cX6_hot 16 = .ok (.iconst 0, 1) := by decide +kernel
theorem dX6_hot_17 : decode cX6_hot 17 = .ok (.istore 4, 2) := by decide +kernel
theorem dX6_hot_19 : decode cX6_hot 19 = .ok (.iload 4, 2) := by decide +kernel
theorem dX6_hot_21 : decode cX6_hot 21 = .ok (.bipush 30, 2) := by decide +kernel
theorem dX6_hot_23 : decode cX6_hot 23 = .ok (.if_icmp .gt 44, 3) := by decide +kernel
theorem dX6_hot_26 : decode cX6_hot 26 = .ok (.aload_n 0, 1) := by decide +kernel
theorem dX6_hot_27 : decode cX6_hot 27 = .ok (.getfield 55, 3) := by decide +kernel
theorem dX6_hot_30 : decode cX6_hot 30 = .ok (.iload 4, 2) := by decide +kernel
theorem dX6_hot_32 : decode cX6_hot 32 = .ok (.aload_n 0, 1) := by decide +kernel
theorem dX6_hot_33 : decode cX6_hot 33 = .ok (.getfield 23, 3) := by decide +kernel
theorem dX6_hot_36 : decode cX6_hot 36 = .ok (.getfield 182, 3) := by decide +kernel
theorem dX6_hot_39 : decode cX6_hot 39 = .ok (.invokevirtual 220, 3) := by decide +kernel
theorem dX6_hot_42 : decode cX6_hot 42 = .ok (.ifCond .eq 19, 3) := by decide +kernel
theorem dX6_hot_45 : decode cX6_hot 45 = .ok (.iinc 2 1, 3) := by decide +kernel
theorem dX6_hot_48 : decode cX6_hot 48 = .ok (.iload_n 3, 1) := by decide +kernel
theorem dX6_hot_49 : decode cX6_hot 49 = .ok (.bipush (-4), 2) := by decide +kernel
theorem dX6_hot_51 : decode cX6_hot 51 = .ok (.if_icmp .ne 8, 3) := by decide +kernel
theorem dX6_hot_54 : decode cX6_hot 54 = .ok (.iload 4, 2) := by decide +kernel
theorem dX6_hot_56 : decode cX6_hot 56 = .ok (.goto 4, 3) := by decide +kernel
theorem dX6_hot_59 : decode cX6_hot 59 = .ok (.iload_n 3, 1) := by decide +kernel
theorem dX6_hot_60 : decode cX6_hot 60 = .ok (.istore_n 3, 1) := by decide +kernel
theorem dX6_hot_61 : decode cX6_hot 61 = .ok (.iinc 4 1, 3) := by decide +kernel
theorem dX6_hot_64 : decode cX6_hot 64 = .ok (.goto (-45), 3) := by decide +kernel
theorem dX6_hot_67 : decode cX6_hot 67 = .ok (.iload_n 1, 1) := by decide +kernel
theorem dX6_hot_68 : decode cX6_hot 68 = .ok (.ifCond .ne 7, 3) := by decide +kernel
theorem dX6_hot_71 : decode cX6_hot 71 = .ok (.iload_n 2, 1) := by decide +kernel
theorem dX6_hot_72 : decode cX6_hot 72 = .ok (.goto 4, 3) := by decide +kernel
theorem dX6_hot_75 : decode cX6_hot 75 = .ok (.iload_n 3, 1) := by decide +kernel
theorem dX6_hot_76 : decode cX6_hot 76 = .ok (.ireturn, 1) := by decide +kernel
theorem dX6_left_0 : decode cX6_left 0 = .ok (.aload_n 0, 1) := by decide +kernel
theorem dX6_left_1 : decode cX6_left 1 = .ok (.iload_n 1, 1) := by decide +kernel
theorem dX6_left_2 : decode cX6_left 2 = .ok (.invokevirtual 101, 3) := by decide +kernel
theorem dX6_left_5 : decode cX6_left 5 = .ok (.ifCond .eq 22, 3) := by decide +kernel
theorem dX6_left_8 : decode cX6_left 8 = .ok (.iload_n 2, 1) := by decide +kernel
theorem dX6_left_9 : decode cX6_left 9 = .ok (.iconst 0, 1) := by decide +kernel
theorem dX6_left_10 : decode cX6_left 10 = .ok (.bipush 8, 2) := by decide +kernel
theorem dX6_left_12 : decode cX6_left 12 = .ok (.invokestatic 92, 3) := by decide +kernel
theorem dX6_left_15 : decode cX6_left 15 = .ok (.ifCond .eq 12, 3) := by decide +kernel
theorem dX6_left_18 : decode cX6_left 18 = .ok (.iload_n 3, 1) := by decide +kernel
theorem dX6_left_19 : decode cX6_left 19 = .ok (.iconst 0, 1) := by decide +kernel
theorem dX6_left_20 : decode cX6_left 20 = .ok (.iconst 1, 1) := by decide +kernel
theorem dX6_left_21 : decode cX6_left 21 = .ok (.invokestatic 92, 3) := by decide +kernel
theorem dX6_left_24 : decode cX6_left 24 = .ok (.ifCond .ne 5, 3) := by decide +kernel
theorem dX6_left_27 : decode cX6_left 27 = .ok (.iconst (-1), 1) := by decide +kernel
theorem dX6_left_28 : decode cX6_left 28 = .ok (.ireturn, 1) := by decide +kernel
theorem dX6_left_29 : decode cX6_left 29 = .ok (.aload_n 0, 1) := by decide +kernel
theorem dX6_left_30 : decode cX6_left 30 = .ok (.getfield 31, 3) := by decide +kernel
theorem dX6_left_33 : decode cX6_left 33 = .ok (.getfield 119, 3) := by decide +kernel
theorem dX6_left_36 : decode cX6_left 36 = .ok (.iload_n 1, 1) := by decide +kernel
theorem dX6_left_37 : decode cX6_left 37 = .ok (.iaload, 1) := by decide +kernel
theorem dX6_left_38 : decode cX6_left 38 = .ok (.iconst 2, 1) := by decide +kernel
theorem dX6_left_39 : decode cX6_left 39 = .ok (.if_icmp .eq 6, 3) := by decide +kernel
theorem dX6_left_42 : decode cX6_left 42 = .ok (.bipush (-2), 2) := by decide +kernel
theorem dX6_left_44 : decode cX6_left 44 = .ok (.ireturn, 1) := by decide +kernel
theorem dX6_left_45 : decode cX6_left 45 = .ok (.aload_n 0, 1) := by decide +kernel
theorem dX6_left_46 : decode cX6_left 46 = .ok (.getfield 31, 3) := by decide +kernel
theorem dX6_left_49 : decode cX6_left 49 = .ok (.aload_n 0, 1) := by decide +kernel
theorem dX6_left_50 : decode cX6_left 50 = .ok (.getfield 23, 3) := by decide +kernel
theorem dX6_left_53 : decode cX6_left 53 = .ok (.getfield 105, 3) := by decide +kernel
theorem dX6_left_56 : decode cX6_left 56 = .ok (.iload_n 1, 1) := by decide +kernel
theorem dX6_left_57 : decode cX6_left 57 = .ok (.iaload, 1) := by decide +kernel
theorem dX6_left_58 : decode cX6_left 58 = .ok (.invokevirtual 223, 3) := by decide +kernel
theorem dX6_left_61 : decode cX6_left 61 = .ok (.istore 4, 2) := by decide +kernel
theorem dX6_left_63 : decode cX6_left 63 = .ok (.iconst 0, 1) := by decide +kernel
theorem dX6_left_64 : decode cX6_left 64 = .ok (.iload 4, 2) := by decide +kernel
theorem dX6_left_66 : decode cX6_left 66 = .ok (.iload_n 2, 1) := by decide +kernel
theorem dX6_left_67 : decode cX6_left 67 = .ok (.isub, 1) := by decide +kernel
theorem dX6_left_68 : decode cX6_left 68 = .ok (.invokestatic 226, 3) := by decide +kernel
theorem dX6_left_71 : decode cX6_left 71 = .ok (.istore 5, 2) := by decide +kernel
theorem dX6_left_73 : decode cX6_left 73 = .ok (.iload 5, 2) := by decide +kernel
theorem dX6_left_75 : decode cX6_left 75 = .ok (.iload 4, 2) := by decide +kernel
theorem dX6_left_77 : decode cX6_left 77 = .ok (.invokestatic 231, 3) := by decide +kernel
theorem dX6_left_80 : decode cX6_left 80 = .ok (.istore 6, 2) := by decide +kernel
theorem dX6_left_82 : decode cX6_left 82 = .ok (.iload_n 3, 1) := by decide +kernel
theorem dX6_left_83 : decode cX6_left 83 = .ok (.ifCond .ne 8, 3) := by decide +kernel
theorem dX6_left_86 : decode cX6_left 86 = .ok (.iload 5, 2) := by decide +kernel
theorem dX6_left_88 : decode cX6_left 88 = .ok (.goto 5, 3) := by decide +kernel
theorem dX6_left_91 : decode cX6_left 91 = .ok (.iload 4, 2) := by decide +kernel
theorem dX6_left_93 : decode cX6_left 93 = .ok (.iload 6, 2) := by decide +kernel
theorem dX6_left_95 : decode cX6_left 95 = .ok (.idiv, 1) := by decide +kernel
theorem dX6_left_96 : decode cX6_left 96 = .ok (.ireturn, 1) := by decide +kernel
theorem dX6_morning_0 : decode cX6_morning 0 = .ok (.iload_n 1, 1) := by decide +kernel
theorem dX6_morning_1 : decode cX6_morning 1 = .ok (.iconst 0, 1) := by decide +kernel
theorem dX6_morning_2 : decode cX6_morning 2 = .ok (.sipush 9999, 3) := by decide +kernel
theorem dX6_morning_5 : decode cX6_morning 5 = .ok (.invokestatic 92, 3) := by decide +kernel
theorem dX6_morning_8 : decode cX6_morning 8 = .ok (.ifCond .eq 22, 3) := by decide +kernel
theorem dX6_morning_11 : decode cX6_morning 11 = .ok (.iload_n 2, 1) := by decide +kernel
theorem dX6_morning_12 : decode cX6_morning 12 = .ok (.iconst 1, 1) := by decide +kernel
theorem dX6_morning_13 : decode cX6_morning 13 = .ok (.bipush 40, 2) := by decide +kernel
theorem dX6_morning_15 : decode cX6_morning 15 = .ok (.invokestatic 92, 3) := by decide +kernel
theorem dX6_morning_18 : decode cX6_morning 18 = .ok (.ifCond .eq 12, 3) := by decide +kernel
theorem dX6_morning_21 : decode cX6_morning 21 = .ok (.iload_n 3, 1) := by decide +kernel
theorem dX6_morning_22 : decode cX6_morning 22 = .ok (.iconst 0, 1) := by decide +kernel
theorem dX6_morning_23 : decode cX6_morning 23 = .ok (.iconst 1, 1) := by decide +kernel
theorem dX6_morning_24 : decode cX6_morning 24 = .ok (.invokestatic 92, 3) := by decide +kernel
theorem dX6_morning_27 : decode cX6_morning 27 = .ok (.ifCond .ne 5, 3) := by decide +kernel
theorem dX6_morning_30 : decode cX6_morning 30 = .ok (.iconst (-1), 1) := by decide +kernel
theorem dX6_morning_31 : decode cX6_morning 31 = .ok (.ireturn, 1) := by decide +kernel
theorem dX6_morning_32 : decode cX6_morning 32 = .ok (.aload_n 0, 1) := by decide +kernel
theorem dX6_morning_33 : decode cX6_morning 33 = .ok (.getfield 35, 3) := by decide +kernel
theorem dX6_morning_36 : decode cX6_morning 36 = .ok (.aload_n 0, 1) := by decide +kernel
theorem dX6_morning_37 : decode cX6_morning 37 = .ok (.getfield 31, 3) := by decide +kernel
theorem dX6_morning_40 : decode cX6_morning 40 = .ok (.invokevirtual 188, 3) := by decide +kernel
theorem dX6_morning_43 : decode cX6_morning 43 = .ok (.iconst 0, 1) := by decide +kernel
theorem dX6_morning_44 : decode cX6_morning 44 = .ok (.istore 4, 2) := by decide +kernel
theorem dX6_morning_46 : decode cX6_morning 46 = .ok (.iload 4, 2) := by decide +kernel
theorem dX6_morning_48 : decode cX6_morning 48 = .ok (.iload_n 2, 1) := by decide +kernel
theorem dX6_morning_49 : decode cX6_morning 49 = .ok (.if_icmp .ge 29, 3) := by decide +kernel
theorem dX6_morning_52 : decode cX6_morning 52 = .ok (.aload_n 0, 1) := by decide +kernel
theorem dX6_morning_53 : decode cX6_morning 53 = .ok (.getfield 35, 3) := by decide +kernel
theorem dX6_morning_56 : decode cX6_morning 56 = .ok (.iload_n 1, 1) := by decide +kernel
theorem dX6_morning_57 : decode cX6_morning 57 = .ok (.iload 4, 2) := by decide +kernel
theorem dX6_morning_59 : decode cX6_morning 59 = .ok (.invokestatic 234, 3) := by decide +kernel
theorem dX6_morning_62 : decode cX6_morning 62 = .ok (.invokevirtual 237, 3) := by decide +kernel
theorem dX6_morning_65 : decode cX6_morning 65 = .ok (.aload_n 0, 1) := by decide +kernel
theorem dX6_morning_66 : decode cX6_morning 66 = .ok (.getfield 35, 3) := by decide +kernel
theorem dX6_morning_69 : decode cX6_morning 69 = .ok (.invokevirtual 161, 3) := by decide +kernel
theorem dX6_morning_72 : decode cX6_morning 72 = .ok (.iinc 4 1, 3) := by decide +kernel
theorem dX6_morning_75 : decode cX6_morning 75 = .ok (.goto (-29), 3) := by decide +kernel
theorem dX6_morning_78 : decode cX6_morning 78 = .ok (.iload_n 3, 1) := by decide +kernel
theorem dX6_morning_79 : decode cX6_morning 79 = .ok (.ifCond .ne 13, 3) := by decide +kernel
theorem dX6_morning_82 : decode cX6_morning 82 = .ok (.aload_n 0, 1) := by decide +kernel
theorem dX6_morning_83 : decode cX6_morning 83 = .ok (.getfield 35, 3) := by decide +kernel
theorem dX6_morning_86 : decode cX6_morning 86 = .ok (.invokevirtual 195, 3) := by decide +kernel
theorem dX6_morning_89 : decode cX6_morning 89 = .ok (.goto 10, 3) := by decide +kernel
theorem dX6_morning_92 : decode cX6_morning 92 = .ok (.aload_n 0, 1) := by decide +kernel
theorem dX6_morning_93 : decode cX6_morning 93 = .ok (.getfield 35, 3) := by decide +kernel
theorem dX6_morning_96 : decode cX6_morning 96 = .ok (.getfield 240, 3) := by decide +kernel
theorem dX6_morning_99 : decode cX6_morning 99 = .ok (.ireturn, 1) := by decide +kernel
theorem dX6_keep_0 : decode cX6_keep 0 = .ok (.aload_n 0, 1) := by decide +kernel
theorem dX6_keep_1 : decode cX6_keep 1 = .ok (.getfield 243, 3) := by decide +kernel
theorem dX6_keep_4 : decode cX6_keep 4 = .ok (.iconst 2, 1) := by decide +kernel
theorem dX6_keep_5 : decode cX6_keep 5 = .ok (.if_icmp .lt 6, 3) := by decide +kernel
theorem dX6_keep_8 : decode cX6_keep 8 = .ok (.bipush (-3), 2) := by decide +kernel
theorem dX6_keep_10 : decode cX6_keep 10 = .ok (.ireturn, 1) := by decide +kernel
theorem dX6_keep_11 : decode cX6_keep 11 = .ok (.aload_n 0, 1) := by decide +kernel
theorem dX6_keep_12 : decode cX6_keep 12 = .ok (.getfield 48, 3) := by decide +kernel
theorem dX6_keep_15 : decode cX6_keep 15 = .ok (.aload_n 0, 1) := by decide +kernel
theorem dX6_keep_16 : decode cX6_keep 16 = .ok (.getfield 243, 3) := by decide +kernel
theorem dX6_keep_19 : decode cX6_keep 19 = .ok (.aaload, 1) := by decide +kernel
theorem dX6_keep_20 : decode cX6_keep 20 = .ok (.aload_n 0, 1) := by decide +kernel
theorem dX6_keep_21 : decode cX6_keep 21 = .ok (.getfield 31, 3) := by decide +kernel
theorem dX6_keep_24 : decode cX6_keep 24 = .ok (.invokevirtual 188, 3) := by decide +kernel
theorem dX6_keep_27 : decode cX6_keep 27 = .ok (.aload_n 0, 1) := by decide +kernel
theorem dX6_keep_28 : decode cX6_keep 28 = .ok (.dup, 1) := by decide +kernel
theorem dX6_keep_29 : decode cX6_keep 29 = .ok (.getfield 243, 3) := by decide +kernel
theorem dX6_keep_32 : decode cX6_keep 32 = .ok (.iconst 1, 1) := by decide +kernel
theorem dX6_keep_33 : decode cX6_keep 33 = .ok (.iadd, 1) := by decide +kernel
theorem dX6_keep_34 : decode cX6_keep 34 = .ok (.putfield 243, 3) := by decide +kernel
theorem dX6_keep_37 : decode cX6_keep 37 = .ok (.aload_n 0, 1) := by decide +kernel
theorem dX6_keep_38 : decode cX6_keep 38 = .ok (.getfield 243, 3) := by decide +kernel
theorem dX6_keep_41 : decode cX6_keep 41 = .ok (.ireturn, 1) := by decide +kernel
theorem dX6_back_0 : decode cX6_back 0 = .ok (.aload_n 0, 1) := by decide +kernel
theorem dX6_back_1 : decode cX6_back 1 = .ok (.getfield 243, 3) := by decide +kernel
theorem dX6_back_4 : decode cX6_back 4 = .ok (.ifCond .ne 6, 3) := by decide +kernel
theorem dX6_back_7 : decode cX6_back 7 = .ok (.bipush (-2), 2) := by decide +kernel
theorem dX6_back_9 : decode cX6_back 9 = .ok (.ireturn, 1) := by decide +kernel
theorem dX6_back_10 : decode cX6_back 10 = .ok (.aload_n 0, 1) := by decide +kernel
theorem dX6_back_11 : decode cX6_back 11 = .ok (.dup, 1) := by decide +kernel
theorem dX6_back_12 : decode cX6_back 12 = .ok (.getfield 243, 3) := by decide +kernel
theorem dX6_back_15 : decode cX6_back 15 = .ok (.iconst 1, 1) := by decide +kernel
theorem dX6_back_16 : decode cX6_back 16 = .ok (.isub, 1) := by decide +kernel
theorem dX6_back_17 : decode cX6_back 17 = .ok (.putfield 243, 3) := by decide +kernel
theorem dX6_back_20 : decode cX6_back 20 = .ok (.aload_n 0, 1) := by decide +kernel
theorem dX6_back_21 : decode cX6_back 21 = .ok (.getfield 31, 3) := by decide +kernel
theorem dX6_back_24 : decode cX6_back 24 = .ok (.aload_n 0, 1) := by decide +kernel
theorem dX6_back_25 : decode cX6_back 25 = .ok (.getfield 48, 3) := by decide +kernel
theorem dX6_back_28 : decode cX6_back 28 = .ok (.aload_n 0, 1) := by decide +kernel
theorem dX6_back_29 : decode cX6_back 29 = .ok (.getfield 243, 3) := by decide +kernel
theorem dX6_back_32 : decode cX6_back 32 = .ok (.aaload, 1) := by decide +kernel
theorem dX6_back_33 : decode cX6_back 33 = .ok (.invokevirtual 188, 3) := by decide +kernel
theorem dX6_back_36 : decode cX6_back 36 = .ok (.aload_n 0, 1) := by decide +kernel
theorem dX6_back_37 : decode cX6_back 37 = .ok (.getfield 44, 3) := by decide +kernel
theorem dX6_back_40 : decode cX6_back 40 = .ok (.invokevirtual 246, 3) := by decide +kernel
theorem dX6_back_43 : decode cX6_back 43 = .ok (.aload_n 0, 1) := by decide +kernel
theorem dX6_back_44 : decode cX6_back 44 = .ok (.getfield 243, 3) := by decide +kernel
theorem dX6_back_47 : decode cX6_back 47 = .ok (.ireturn, 1) := by decide +kernel
theorem dX6_count_0 : decode cX6_count 0 = .ok (.iload_n 1, 1) := by decide +kernel
theorem dX6_count_1 : decode cX6_count 1 = .ok (.tableswitch 159 0 11 #[63, 71, 79, 87, 95, 103, 112, 121, 130, 138, 146, 151], 63) := by decide +kernel
theorem dX6_count_64 : decode cX6_count 64 = .ok (.aload_n 0, 1) := by decide +kernel
theorem dX6_count_65 : decode cX6_count 65 = .ok (.getfield 23, 3) := by decide +kernel
theorem dX6_count_68 : decode cX6_count 68 = .ok (.getfield 97, 3) := by decide +kernel
theorem dX6_count_71 : decode cX6_count 71 = .ok (.ireturn, 1) := by decide +kernel
theorem dX6_count_72 : decode cX6_count 72 = .ok (.aload_n 0, 1) := by decide +kernel
theorem dX6_count_73 : decode cX6_count 73 = .ok (.getfield 23, 3) := by decide +kernel
theorem dX6_count_76 : decode cX6_count 76 = .ok (.getfield 182, 3) := by decide +kernel
theorem dX6_count_79 : decode cX6_count 79 = .ok (.ireturn, 1) := by decide +kernel
theorem dX6_count_80 : decode cX6_count 80 = .ok (.aload_n 0, 1) := by decide +kernel
theorem dX6_count_81 : decode cX6_count 81 = .ok (.getfield 31, 3) := by decide +kernel
theorem dX6_count_84 : decode cX6_count 84 = .ok (.getfield 167, 3) := by decide +kernel
theorem dX6_count_87 : decode cX6_count 87 = .ok (.ireturn, 1) := by decide +kernel
theorem dX6_count_88 : decode cX6_count 88 = .ok (.aload_n 0, 1) := by decide +kernel
theorem dX6_count_89 : decode cX6_count 89 = .ok (.getfield 31, 3) := by decide +kernel
theorem dX6_count_92 : decode cX6_count 92 = .ok (.getfield 240, 3) := by decide +kernel
theorem dX6_count_95 : decode cX6_count 95 = .ok (.ireturn, 1) := by decide +kernel
theorem dX6_count_96 : decode cX6_count 96 = .ok (.aload_n 0, 1) := by decide +kernel
theorem dX6_count_97 : decode cX6_count 97 = .ok (.getfield 31, 3) := by decide +kernel
theorem dX6_count_100 : decode cX6_count 100 = .ok (.getfield 158, 3) := by decide +kernel
theorem dX6_count_103 : decode cX6_count 103 = .ok (.ireturn, 1) := by decide +kernel
theorem dX6_count_104 : decode cX6_count 104 = .ok (.aload_n 0, 1) := by decide +kernel
theorem dX6_count_105 : decode cX6_count 105 = .ok (.getfield 31, 3) := by decide +kernel
theorem dX6_count_108 : decode cX6_count 108 = .ok (.iconst 1, 1) := by decide +kernel
theorem dX6_count_109 : decode cX6_count 109 = .ok (.invokevirtual 155, 3) := by decide +kernel
theorem dX6_count_112 : decode cX6_count 112 = .ok (.ireturn, 1) := by decide +kernel
theorem dX6_count_113 : decode cX6_count 113 = .ok (.aload_n 0, 1) := by decide +kernel
theorem dX6_count_114 : decode cX6_count 114 = .ok (.getfield 31, 3) := by decide +kernel
theorem dX6_count_117 : decode cX6_count 117 = .ok (.iconst 2, 1) := by decide +kernel
theorem dX6_count_118 : decode cX6_count 118 = .ok (.invokevirtual 155, 3) := by decide +kernel
theorem dX6_count_121 : decode cX6_count 121 = .ok (.ireturn, 1) := by decide +kernel
theorem dX6_count_122 : decode cX6_count 122 = .ok (.aload_n 0, 1) := by decide +kernel
theorem dX6_count_123 : decode cX6_count 123 = .ok (.getfield 31, 3) := by decide +kernel
theorem dX6_count_126 : decode cX6_count 126 = .ok (.iconst 3, 1) := by decide +kernel
theorem dX6_count_127 : decode cX6_count 127 = .ok (.invokevirtual 155, 3) := by decide +kernel
theorem dX6_count_130 : decode cX6_count 130 = .ok (.ireturn, 1) := by decide +kernel
theorem dX6_count_131 : decode cX6_count 131 = .ok (.aload_n 0, 1) := by decide +kernel
theorem dX6_count_132 : decode cX6_count 132 = .ok (.getfield 55, 3) := by decide +kernel
theorem dX6_count_135 : decode cX6_count 135 = .ok (.getfield 219, 3) := by decide +kernel
theorem dX6_count_138 : decode cX6_count 138 = .ok (.ireturn, 1) := by decide +kernel
theorem dX6_count_139 : decode cX6_count 139 = .ok (.aload_n 0, 1) := by decide +kernel
theorem dX6_count_140 : decode cX6_count 140 = .ok (.getfield 44, 3) := by decide +kernel
theorem dX6_count_143 : decode cX6_count 143 = .ok (.getfield 176, 3) := by decide +kernel
theorem dX6_count_146 : decode cX6_count 146 = .ok (.ireturn, 1) := by decide +kernel
theorem dX6_count_147 : decode cX6_count 147 = .ok (.aload_n 0, 1) := by decide +kernel
theorem dX6_count_148 : decode cX6_count 148 = .ok (.getfield 243, 3) := by decide +kernel
theorem dX6_count_151 : decode cX6_count 151 = .ok (.ireturn, 1) := by decide +kernel
theorem dX6_count_152 : decode cX6_count 152 = .ok (.aload_n 0, 1) := by decide +kernel
theorem dX6_count_153 : decode cX6_count 153 = .ok (.getfield 10, 3) := by decide +kernel
theorem dX6_count_156 : decode cX6_count 156 = .ok (.invokevirtual 96, 3) := by decide +kernel
theorem dX6_count_159 : decode cX6_count 159 = .ok (.ireturn, 1) := by decide +kernel
theorem dX6_count_160 : decode cX6_count 160 = .ok (.iconst (-1), 1) := by decide +kernel
theorem dX6_count_161 : decode cX6_count 161 = .ok (.ireturn, 1) := by decide +kernel
theorem dX6_startAnew_0 : decode cX6_startAnew 0 = .ok (.aload_n 0, 1) := by decide +kernel
theorem dX6_startAnew_1 : decode cX6_startAnew 1 = .ok (.getfield 23, 3) := by decide +kernel
theorem dX6_startAnew_4 : decode cX6_startAnew 4 = .ok (.aload_n 0, 1) := by decide +kernel
theorem dX6_startAnew_5 : decode cX6_startAnew 5 = .ok (.getfield 19, 3) := by decide +kernel
theorem dX6_startAnew_8 : decode cX6_startAnew 8 = .ok (.invokevirtual 247, 3) := by decide +kernel
theorem dX6_startAnew_11 : decode cX6_startAnew 11 = .ok (.aload_n 0, 1) := by decide +kernel
theorem dX6_startAnew_12 : decode cX6_startAnew 12 = .ok (.getfield 31, 3) := by decide +kernel
theorem dX6_startAnew_15 : decode cX6_startAnew 15 = .ok (.invokevirtual 249, 3) := by decide +kernel
theorem dX6_startAnew_18 : decode cX6_startAnew 18 = .ok (.aload_n 0, 1) := by decide +kernel
theorem dX6_startAnew_19 : decode cX6_startAnew 19 = .ok (.getfield 44, 3) := by decide +kernel
theorem dX6_startAnew_22 : decode cX6_startAnew 22 = .ok (.invokevirtual 246, 3) := by decide +kernel
theorem dX6_startAnew_25 : decode cX6_startAnew 25 = .ok (.aload_n 0, 1) := by decide +kernel
theorem dX6_startAnew_26 : decode cX6_startAnew 26 = .ok (.iconst 0, 1) := by decide +kernel
theorem dX6_startAnew_27 : decode cX6_startAnew 27 = .ok (.putfield 243, 3) := by decide +kernel
theorem dX6_startAnew_30 : decode cX6_startAnew 30 = .ok (.aload_n 0, 1) := by decide +kernel
theorem dX6_startAnew_31 : decode cX6_startAnew 31 = .ok (.getfield 55, 3) := by decide +kernel
theorem dX6_startAnew_34 : decode cX6_startAnew 34 = .ok (.iconst 0, 1) := by decide +kernel
theorem dX6_startAnew_35 : decode cX6_startAnew 35 = .ok (.putfield 219, 3) := by decide +kernel
theorem dX6_startAnew_38 : decode cX6_startAnew 38 = .ok (.return_, 1) := by decide +kernel
theorem dX6_isGuest_0 : decode cX6_isGuest 0 = .ok (.iload_n 1, 1) := by decide +kernel
theorem dX6_isGuest_1 : decode cX6_isGuest 1 = .ok (.iconst 0, 1) := by decide +kernel
theorem dX6_isGuest_2 : decode cX6_isGuest 2 = .ok (.aload_n 0, 1) := by decide +kernel
theorem dX6_isGuest_3 : decode cX6_isGuest 3 = .ok (.getfield 23, 3) := by decide +kernel
theorem dX6_isGuest_6 : decode cX6_isGuest 6 = .ok (.getfield 97, 3) := by decide +kernel
theorem dX6_isGuest_9 : decode cX6_isGuest 9 = .ok (.iconst 1, 1) := by decide +kernel
theorem dX6_isGuest_10 : decode cX6_isGuest 10 = .ok (.isub, 1) := by decide +kernel
theorem dX6_isGuest_11 : decode cX6_isGuest 11 = .ok (.invokestatic 92, 3) := by decide +kernel
theorem dX6_isGuest_14 : decode cX6_isGuest 14 = .ok (.ireturn, 1) := by decide +kernel
theorem dX6_isLane_0 : decode cX6_isLane 0 = .ok (.iload_n 0, 1) := by decide +kernel
theorem dX6_isLane_1 : decode cX6_isLane 1 = .ok (.iconst 0, 1) := by decide +kernel
theorem dX6_isLane_2 : decode cX6_isLane 2 = .ok (.iconst 1, 1) := by decide +kernel
theorem dX6_isLane_3 : decode cX6_isLane 3 = .ok (.invokestatic 92, 3) := by decide +kernel
theorem dX6_isLane_6 : decode cX6_isLane 6 = .ok (.ireturn, 1) := by decide +kernel
theorem dX6_isKnob_0 : decode cX6_isKnob 0 = .ok (.iload_n 0, 1) := by decide +kernel
theorem dX6_isKnob_1 : decode cX6_isKnob 1 = .ok (.iconst 1, 1) := by decide +kernel
theorem dX6_isKnob_2 : decode cX6_isKnob 2 = .ok (.bipush 9, 2) := by decide +kernel
theorem dX6_isKnob_4 : decode cX6_isKnob 4 = .ok (.invokestatic 92, 3) := by decide +kernel
theorem dX6_isKnob_7 : decode cX6_isKnob 7 = .ok (.ireturn, 1) := by decide +kernel
theorem dX6_within_0 : decode cX6_within 0 = .ok (.iload_n 0, 1) := by decide +kernel
theorem dX6_within_1 : decode cX6_within 1 = .ok (.iload_n 1, 1) := by decide +kernel
theorem dX6_within_2 : decode cX6_within 2 = .ok (.if_icmp .lt 12, 3) := by decide +kernel
theorem dX6_within_5 : decode cX6_within 5 = .ok (.iload_n 0, 1) := by decide +kernel
theorem dX6_within_6 : decode cX6_within 6 = .ok (.iload_n 2, 1) := by decide +kernel
theorem dX6_within_7 : decode cX6_within 7 = .ok (.if_icmp .gt 7, 3) := by decide +kernel
theorem dX6_within_10 : decode cX6_within 10 = .ok (.iconst 1, 1) := by decide +kernel
theorem dX6_within_11 : decode cX6_within 11 = .ok (.goto 4, 3) := by decide +kernel
theorem dX6_within_14 : decode cX6_within 14 = .ok (.iconst 0, 1) := by decide +kernel
theorem dX6_within_15 : decode cX6_within 15 = .ok (.ireturn, 1) := by decide +kernel
theorem dX6_refusalToGoIn_0 : decode cX6_refusalToGoIn 0 = .ok (.aload_n 0, 1) := by decide +kernel
theorem dX6_refusalToGoIn_1 : decode cX6_refusalToGoIn 1 = .ok (.iload_n 1, 1) := by decide +kernel
theorem dX6_refusalToGoIn_2 : decode cX6_refusalToGoIn 2 = .ok (.invokevirtual 101, 3) := by decide +kernel
theorem dX6_refusalToGoIn_5 : decode cX6_refusalToGoIn 5 = .ok (.ifCond .eq 10, 3) := by decide +kernel
theorem dX6_refusalToGoIn_8 : decode cX6_refusalToGoIn 8 = .ok (.iload_n 2, 1) := by decide +kernel
theorem dX6_refusalToGoIn_9 : decode cX6_refusalToGoIn 9 = .ok (.invokestatic 138, 3) := by decide +kernel
theorem dX6_refusalToGoIn_12 : decode cX6_refusalToGoIn 12 = .ok (.ifCond .ne 5, 3) := by decide +kernel
theorem dX6_refusalToGoIn_15 : decode cX6_refusalToGoIn 15 = .ok (.iconst (-1), 1) := by decide +kernel
theorem dX6_refusalToGoIn_16 : decode cX6_refusalToGoIn 16 = .ok (.ireturn, 1) := by decide +kernel
theorem dX6_refusalToGoIn_17 : decode cX6_refusalToGoIn 17 = .ok (.aload_n 0, 1) := by decide +kernel
theorem dX6_refusalToGoIn_18 : decode cX6_refusalToGoIn 18 = .ok (.getfield 31, 3) := by decide +kernel
theorem dX6_refusalToGoIn_21 : decode cX6_refusalToGoIn 21 = .ok (.iload_n 1, 1) := by decide +kernel
theorem dX6_refusalToGoIn_22 : decode cX6_refusalToGoIn 22 = .ok (.invokevirtual 141, 3) := by decide +kernel
theorem dX6_refusalToGoIn_25 : decode cX6_refusalToGoIn 25 = .ok (.ifCond .eq 7, 3) := by decide +kernel
theorem dX6_refusalToGoIn_28 : decode cX6_refusalToGoIn 28 = .ok (.iconst 0, 1) := by decide +kernel
theorem dX6_refusalToGoIn_29 : decode cX6_refusalToGoIn 29 = .ok (.goto 5, 3) := by decide +kernel
theorem dX6_refusalToGoIn_32 : decode cX6_refusalToGoIn 32 = .ok (.bipush (-2), 2) := by decide +kernel
theorem dX6_refusalToGoIn_34 : decode cX6_refusalToGoIn 34 = .ok (.ireturn, 1) := by decide +kernel
theorem dX6_rightOnesAtKnob_0 : decode cX6_rightOnesAtKnob 0 = .ok (.aload_n 0, 1) := by decide +kernel
theorem dX6_rightOnesAtKnob_1 : decode cX6_rightOnesAtKnob 1 = .ok (.getfield 35, 3) := by decide +kernel
theorem dX6_rightOnesAtKnob_4 : decode cX6_rightOnesAtKnob 4 = .ok (.aload_n 0, 1) := by decide +kernel
theorem dX6_rightOnesAtKnob_5 : decode cX6_rightOnesAtKnob 5 = .ok (.getfield 31, 3) := by decide +kernel
theorem dX6_rightOnesAtKnob_8 : decode cX6_rightOnesAtKnob 8 = .ok (.invokevirtual 188, 3) := by decide +kernel
theorem dX6_rightOnesAtKnob_11 : decode cX6_rightOnesAtKnob 11 = .ok (.aload_n 0, 1) := by decide +kernel
theorem dX6_rightOnesAtKnob_12 : decode cX6_rightOnesAtKnob 12 = .ok (.getfield 35, 3) := by decide +kernel
theorem dX6_rightOnesAtKnob_15 : decode cX6_rightOnesAtKnob 15 = .ok (.iload_n 1, 1) := by decide +kernel
theorem dX6_rightOnesAtKnob_16 : decode cX6_rightOnesAtKnob 16 = .ok (.putfield 167, 3) := by decide +kernel
theorem dX6_rightOnesAtKnob_19 : decode cX6_rightOnesAtKnob 19 = .ok (.iconst 0, 1) := by decide +kernel
theorem dX6_rightOnesAtKnob_20 : decode cX6_rightOnesAtKnob 20 = .ok (.istore_n 2, 1) := by decide +kernel
theorem dX6_rightOnesAtKnob_21 : decode cX6_rightOnesAtKnob 21 = .ok (.iconst 0, 1) := by decide +kernel
theorem dX6_rightOnesAtKnob_22 : decode cX6_rightOnesAtKnob 22 = .ok (.istore_n 3, 1) := by decide +kernel
theorem dX6_rightOnesAtKnob_23 : decode cX6_rightOnesAtKnob 23 = .ok (.iload_n 3, 1) := by decide +kernel
theorem dX6_rightOnesAtKnob_24 : decode cX6_rightOnesAtKnob 24 = .ok (.aload_n 0, 1) := by decide +kernel
theorem dX6_rightOnesAtKnob_25 : decode cX6_rightOnesAtKnob 25 = .ok (.getfield 23, 3) := by decide +kernel
theorem dX6_rightOnesAtKnob_28 : decode cX6_rightOnesAtKnob 28 = .ok (.getfield 97, 3) := by decide +kernel
theorem dX6_rightOnesAtKnob_31 : decode cX6_rightOnesAtKnob 31 = .ok (.if_icmp .ge 48, 3) := by decide +kernel
theorem dX6_rightOnesAtKnob_34 : decode cX6_rightOnesAtKnob 34 = .ok (.aload_n 0, 1) := by decide +kernel
theorem dX6_rightOnesAtKnob_35 : decode cX6_rightOnesAtKnob 35 = .ok (.getfield 35, 3) := by decide +kernel
theorem dX6_rightOnesAtKnob_38 : decode cX6_rightOnesAtKnob 38 = .ok (.iload_n 3, 1) := by decide +kernel
theorem dX6_rightOnesAtKnob_39 : decode cX6_rightOnesAtKnob 39 = .ok (.invokevirtual 191, 3) := by decide +kernel
theorem dX6_rightOnesAtKnob_42 : decode cX6_rightOnesAtKnob 42 = .ok (.aload_n 0, 1) := by decide +kernel
theorem dX6_rightOnesAtKnob_43 : decode cX6_rightOnesAtKnob 43 = .ok (.getfield 31, 3) := by decide +kernel
theorem dX6_rightOnesAtKnob_46 : decode cX6_rightOnesAtKnob 46 = .ok (.getfield 119, 3) := by decide +kernel
theorem dX6_rightOnesAtKnob_49 : decode cX6_rightOnesAtKnob 49 = .ok (.iload_n 3, 1) := by decide +kernel
theorem dX6_rightOnesAtKnob_50 : decode cX6_rightOnesAtKnob 50 = .ok (.iaload, 1) := by decide +kernel
theorem dX6_rightOnesAtKnob_51 : decode cX6_rightOnesAtKnob 51 = .ok (.iconst 1, 1) := by decide +kernel
theorem dX6_rightOnesAtKnob_52 : decode cX6_rightOnesAtKnob 52 = .ok (.if_icmp .ne 21, 3) := by decide +kernel
theorem dX6_rightOnesAtKnob_55 : decode cX6_rightOnesAtKnob 55 = .ok (.aload_n 0, 1) := by decide +kernel
theorem dX6_rightOnesAtKnob_56 : decode cX6_rightOnesAtKnob 56 = .ok (.getfield 35, 3) := by decide +kernel
theorem dX6_rightOnesAtKnob_59 : decode cX6_rightOnesAtKnob 59 = .ok (.iload_n 3, 1) := by decide +kernel
theorem dX6_rightOnesAtKnob_60 : decode cX6_rightOnesAtKnob 60 = .ok (.iload_n 3, 1) := by decide +kernel
theorem dX6_rightOnesAtKnob_61 : decode cX6_rightOnesAtKnob 61 = .ok (.invokevirtual 134, 3) := by decide +kernel
theorem dX6_rightOnesAtKnob_64 : decode cX6_rightOnesAtKnob 64 = .ok (.ifCond .eq 9, 3) := by decide +kernel
theorem dX6_rightOnesAtKnob_67 : decode cX6_rightOnesAtKnob 67 = .ok (.iload_n 2, 1) := by decide +kernel
theorem dX6_rightOnesAtKnob_68 : decode cX6_rightOnesAtKnob 68 = .ok (.iconst 1, 1) := by decide +kernel
theorem dX6_rightOnesAtKnob_69 : decode cX6_rightOnesAtKnob 69 = .ok (.iload_n 3, 1) := by decide +kernel
theorem dX6_rightOnesAtKnob_70 : decode cX6_rightOnesAtKnob 70 = .ok (.ishl, 1) := by decide +kernel
theorem dX6_rightOnesAtKnob_71 : decode cX6_rightOnesAtKnob 71 = .ok (.ior, 1) := by decide +kernel
theorem dX6_rightOnesAtKnob_72 : decode cX6_rightOnesAtKnob 72 = .ok (.istore_n 2, 1) := by decide +kernel
theorem dX6_rightOnesAtKnob_73 : decode cX6_rightOnesAtKnob 73 = .ok (.iinc 3 1, 3) := by decide +kernel
theorem dX6_rightOnesAtKnob_76 : decode cX6_rightOnesAtKnob 76 = .ok (.goto (-53), 3) := by decide +kernel
theorem dX6_rightOnesAtKnob_79 : decode cX6_rightOnesAtKnob 79 = .ok (.iload_n 2, 1) := by decide +kernel
theorem dX6_rightOnesAtKnob_80 : decode cX6_rightOnesAtKnob 80 = .ok (.ireturn, 1) := by decide +kernel
theorem dX6_momentsThrough_0 : decode cX6_momentsThrough 0 = .ok (.iload_n 1, 1) := by decide +kernel
theorem dX6_momentsThrough_1 : decode cX6_momentsThrough 1 = .ok (.iconst 1, 1) := by decide +kernel
theorem dX6_momentsThrough_2 : decode cX6_momentsThrough 2 = .ok (.if_icmp .ge 7, 3) := by decide +kernel
theorem dX6_momentsThrough_5 : decode cX6_momentsThrough 5 = .ok (.iconst 0, 1) := by decide +kernel
theorem dX6_momentsThrough_6 : decode cX6_momentsThrough 6 = .ok (.goto 10, 3) := by decide +kernel
theorem dX6_momentsThrough_9 : decode cX6_momentsThrough 9 = .ok (.iload_n 0, 1) := by decide +kernel
theorem dX6_momentsThrough_10 : decode cX6_momentsThrough 10 = .ok (.iload_n 1, 1) := by decide +kernel
theorem dX6_momentsThrough_11 : decode cX6_momentsThrough 11 = .ok (.iadd, 1) := by decide +kernel
theorem dX6_momentsThrough_12 : decode cX6_momentsThrough 12 = .ok (.iconst 1, 1) := by decide +kernel
theorem dX6_momentsThrough_13 : decode cX6_momentsThrough 13 = .ok (.isub, 1) := by decide +kernel
theorem dX6_momentsThrough_14 : decode cX6_momentsThrough 14 = .ok (.iload_n 1, 1) := by decide +kernel
theorem dX6_momentsThrough_15 : decode cX6_momentsThrough 15 = .ok (.idiv, 1) := by decide +kernel
theorem dX6_momentsThrough_16 : decode cX6_momentsThrough 16 = .ok (.ireturn, 1) := by decide +kernel
theorem dX6_browning_0 : decode cX6_browning 0 = .ok (.iload_n 1, 1) := by decide +kernel
theorem dX6_browning_1 : decode cX6_browning 1 = .ok (.ifCond .ne 9, 3) := by decide +kernel
theorem dX6_browning_4 : decode cX6_browning 4 = .ok (.iload_n 2, 1) := by decide +kernel
theorem dX6_browning_5 : decode cX6_browning 5 = .ok (.iconst 2, 1) := by decide +kernel
theorem dX6_browning_6 : decode cX6_browning 6 = .ok (.iadd, 1) := by decide +kernel
theorem dX6_browning_7 : decode cX6_browning 7 = .ok (.goto 4, 3) := by decide +kernel
theorem dX6_browning_10 : decode cX6_browning 10 = .ok (.iload_n 2, 1) := by decide +kernel
theorem dX6_browning_11 : decode cX6_browning 11 = .ok (.istore_n 3, 1) := by decide +kernel
theorem dX6_browning_12 : decode cX6_browning 12 = .ok (.iload_n 0, 1) := by decide +kernel
theorem dX6_browning_13 : decode cX6_browning 13 = .ok (.tableswitch 43 1 3 #[27, 31, 39], 27) := by decide +kernel
theorem dX6_browning_40 : decode cX6_browning 40 = .ok (.iload_n 3, 1) := by decide +kernel
theorem dX6_browning_41 : decode cX6_browning 41 = .ok (.iconst 2, 1) := by decide +kernel
theorem dX6_browning_42 : decode cX6_browning 42 = .ok (.idiv, 1) := by decide +kernel
theorem dX6_browning_43 : decode cX6_browning 43 = .ok (.ireturn, 1) := by decide +kernel
theorem dX6_browning_44 : decode cX6_browning 44 = .ok (.iconst 0, 1) := by decide +kernel
theorem dX6_browning_45 : decode cX6_browning 45 = .ok (.iload_n 3, 1) := by decide +kernel
theorem dX6_browning_46 : decode cX6_browning 46 = .ok (.iconst 3, 1) := by decide +kernel
theorem dX6_browning_47 : decode cX6_browning 47 = .ok (.isub, 1) := by decide +kernel
theorem dX6_browning_48 : decode cX6_browning 48 = .ok (.invokestatic 226, 3) := by decide +kernel
theorem dX6_browning_51 : decode cX6_browning 51 = .ok (.ireturn, 1) := by decide +kernel
theorem dX6_browning_52 : decode cX6_browning 52 = .ok (.iconst 2, 1) := by decide +kernel
theorem dX6_browning_53 : decode cX6_browning 53 = .ok (.iload_n 3, 1) := by decide +kernel
theorem dX6_browning_54 : decode cX6_browning 54 = .ok (.imul, 1) := by decide +kernel
theorem dX6_browning_55 : decode cX6_browning 55 = .ok (.ireturn, 1) := by decide +kernel
theorem dX6_browning_56 : decode cX6_browning 56 = .ok (.iload_n 3, 1) := by decide +kernel
theorem dX6_browning_57 : decode cX6_browning 57 = .ok (.ireturn, 1) := by decide +kernel
theorem dX6_greatestDivisor_0 : decode cX6_greatestDivisor 0 = .ok (.iload_n 1, 1) := by decide +kernel
theorem dX6_greatestDivisor_1 : decode cX6_greatestDivisor 1 = .ok (.istore_n 2, 1) := by decide +kernel
theorem dX6_greatestDivisor_2 : decode cX6_greatestDivisor 2 = .ok (.iload_n 2, 1) := by decide +kernel
theorem dX6_greatestDivisor_3 : decode cX6_greatestDivisor 3 = .ok (.iconst 1, 1) := by decide +kernel
theorem dX6_greatestDivisor_4 : decode cX6_greatestDivisor 4 = .ok (.if_icmp .le 23, 3) := by decide +kernel
theorem dX6_greatestDivisor_7 : decode cX6_greatestDivisor 7 = .ok (.iload_n 0, 1) := by decide +kernel
theorem dX6_greatestDivisor_8 : decode cX6_greatestDivisor 8 = .ok (.iload_n 2, 1) := by decide +kernel
theorem dX6_greatestDivisor_9 : decode cX6_greatestDivisor 9 = .ok (.irem, 1) := by decide +kernel
theorem dX6_greatestDivisor_10 : decode cX6_greatestDivisor 10 = .ok (.ifCond .ne 11, 3) := by decide +kernel
theorem dX6_greatestDivisor_13 : decode cX6_greatestDivisor 13 = .ok (.iload_n 1, 1) := by decide +kernel
theorem dX6_greatestDivisor_14 : decode cX6_greatestDivisor 14 = .ok (.iload_n 2, 1) := by decide +kernel
theorem dX6_greatestDivisor_15 : decode cX6_greatestDivisor 15 = .ok (.irem, 1) := by decide +kernel
theorem dX6_greatestDivisor_16 : decode cX6_greatestDivisor 16 = .ok (.ifCond .ne 5, 3) := by decide +kernel
theorem dX6_greatestDivisor_19 : decode cX6_greatestDivisor 19 = .ok (.iload_n 2, 1) := by decide +kernel
theorem dX6_greatestDivisor_20 : decode cX6_greatestDivisor 20 = .ok (.ireturn, 1) := by decide +kernel
theorem dX6_greatestDivisor_21 : decode cX6_greatestDivisor 21 = .ok (.iinc 2 (-1), 3) := by decide +kernel
theorem dX6_greatestDivisor_24 : decode cX6_greatestDivisor 24 = .ok (.goto (-22), 3) := by decide +kernel
theorem dX6_greatestDivisor_27 : decode cX6_greatestDivisor 27 = .ok (.iconst 1, 1) := by decide +kernel
theorem dX6_greatestDivisor_28 : decode cX6_greatestDivisor 28 = .ok (.ireturn, 1) := by decide +kernel
theorem dX6_draw_0 : decode cX6_draw 0 = .ok (.ldc2_w 252, 3) := by decide +kernel
theorem dX6_draw_3 : decode cX6_draw 3 = .ok (.iload_n 0, 1) := by decide +kernel
theorem dX6_draw_4 : decode cX6_draw 4 = .ok (.i2l, 1) := by decide +kernel
theorem dX6_draw_5 : decode cX6_draw 5 = .ok (.lmul, 1) := by decide +kernel
theorem dX6_draw_6 : decode cX6_draw 6 = .ok (.ldc2_w 254, 3) := by decide +kernel
theorem dX6_draw_9 : decode cX6_draw 9 = .ok (.iload_n 1, 1) := by decide +kernel
theorem dX6_draw_10 : decode cX6_draw 10 = .ok (.i2l, 1) := by decide +kernel
theorem dX6_draw_11 : decode cX6_draw 11 = .ok (.lmul, 1) := by decide +kernel
theorem dX6_draw_12 : decode cX6_draw 12 = .ok (.ladd, 1) := by decide +kernel
theorem dX6_draw_13 : decode cX6_draw 13 = .ok (.lconst 1, 1) := by decide +kernel
theorem dX6_draw_14 : decode cX6_draw 14 = .ok (.ladd, 1) := by decide +kernel
theorem dX6_draw_15 : decode cX6_draw 15 = .ok (.lstore_n 2, 1) := by decide +kernel
theorem dX6_draw_16 : decode cX6_draw 16 = .ok (.lload_n 2, 1) := by decide +kernel
theorem dX6_draw_17 : decode cX6_draw 17 = .ok (.lload_n 2, 1) := by decide +kernel
theorem dX6_draw_18 : decode cX6_draw 18 = .ok (.lmul, 1) := by decide +kernel
theorem dX6_draw_19 : decode cX6_draw 19 = .ok (.ldc2_w 256, 3) := by decide +kernel
theorem dX6_draw_22 : decode cX6_draw 22 = .ok (.lrem, 1) := by decide +kernel
theorem dX6_draw_23 : decode cX6_draw 23 = .ok (.ldc2_w 258, 3) := by decide +kernel
theorem dX6_draw_26 : decode cX6_draw 26 = .ok (.ldiv, 1) := by decide +kernel
theorem dX6_draw_27 : decode cX6_draw 27 = .ok (.l2i, 1) := by decide +kernel
theorem dX6_draw_28 : decode cX6_draw 28 = .ok (.ireturn, 1) := by decide +kernel
end
section
theorem dX7_init_0 : decode cX7_init 0 = .ok (.aload_n 0, 1) := by decide +kernel
theorem dX7_init_1 : decode cX7_init 1 = .ok (.invokespecial 1, 3) := by decide +kernel
theorem dX7_init_4 : decode cX7_init 4 = .ok (.aload_n 0, 1) := by decide +kernel
theorem dX7_init_5 : decode cX7_init 5 = .ok (.sipush 200, 3) := by decide +kernel
theorem dX7_init_8 : decode cX7_init 8 = .ok (.newarray .byte, 2) := by decide +kernel
theorem dX7_init_10 : decode cX7_init 10 = .ok (.putfield 7, 3) := by decide +kernel
theorem dX7_init_13 : decode cX7_init 13 = .ok (.aload_n 0, 1) := by decide +kernel
theorem dX7_init_14 : decode cX7_init 14 = .ok (.iconst 2, 1) := by decide +kernel
theorem dX7_init_15 : decode cX7_init 15 = .ok (.newarray .int, 2) := by decide +kernel
theorem dX7_init_17 : decode cX7_init 17 = .ok (.putfield 13, 3) := by decide +kernel
theorem dX7_init_20 : decode cX7_init 20 = .ok (.aload_n 0, 1) := by decide +kernel
theorem dX7_init_21 : decode cX7_init 21 = .ok (.iconst 2, 1) := by decide +kernel
theorem dX7_init_22 : decode cX7_init 22 = .ok (.newarray .int, 2) := by decide +kernel
theorem dX7_init_24 : decode cX7_init 24 = .ok (.putfield 17, 3) := by decide +kernel
theorem dX7_init_27 : decode cX7_init 27 = .ok (.aload_n 0, 1) := by decide +kernel
theorem dX7_init_28 : decode cX7_init 28 = .ok (.iconst 2, 1) := by decide +kernel
theorem dX7_init_29 : decode cX7_init 29 = .ok (.newarray .int, 2) := by decide +kernel
theorem dX7_init_31 : decode cX7_init 31 = .ok (.putfield 20, 3) := by decide +kernel
theorem dX7_init_34 : decode cX7_init 34 = .ok (.aload_n 0, 1) := by decide +kernel
theorem dX7_init_35 : decode cX7_init 35 = .ok (.iconst 2, 1) := by decide +kernel
theorem dX7_init_36 : decode cX7_init 36 = .ok (.newarray .int, 2) := by decide +kernel
theorem dX7_init_38 : decode cX7_init 38 = .ok (.putfield 23, 3) := by decide +kernel
theorem dX7_init_41 : decode cX7_init 41 = .ok (.aload_n 0, 1) := by decide +kernel
theorem dX7_init_42 : decode cX7_init 42 = .ok (.iconst 2, 1) := by decide +kernel
theorem dX7_init_43 : decode cX7_init 43 = .ok (.newarray .int, 2) := by decide +kernel
theorem dX7_init_45 : decode cX7_init 45 = .ok (.putfield 26, 3) := by decide +kernel
theorem dX7_init_48 : decode cX7_init 48 = .ok (.aload_n 0, 1) := by decide +kernel
theorem dX7_init_49 : decode cX7_init 49 = .ok (.bipush 18, 2) := by decide +kernel
theorem dX7_init_51 : decode cX7_init 51 = .ok (.newarray .int, 2) := by decide +kernel
theorem dX7_init_53 : decode cX7_init 53 = .ok (.putfield 29, 3) := by decide +kernel
theorem dX7_init_56 : decode cX7_init 56 = .ok (.aload_n 0, 1) := by decide +kernel
theorem dX7_init_57 : decode cX7_init 57 = .ok (.bipush 18, 2) := by decide +kernel
theorem dX7_init_59 : decode cX7_init 59 = .ok (.newarray .int, 2) := by decide +kernel
theorem dX7_init_61 : decode cX7_init 61 = .ok (.putfield 32, 3) := by decide +kernel
theorem dX7_init_64 : decode cX7_init 64 = .ok (.aload_n 0, 1) := by decide +kernel
theorem dX7_init_65 : decode cX7_init 65 = .ok (.bipush 18, 2) := by decide +kernel
theorem dX7_init_67 : decode cX7_init 67 = .ok (.newarray .int, 2) := by decide +kernel
theorem dX7_init_69 : decode cX7_init 69 = .ok (.putfield 35, 3) := by decide +kernel
theorem dX7_init_72 : decode cX7_init 72 = .ok (.aload_n 0, 1) := by decide +kernel
theorem dX7_init_73 : decode cX7_init 73 = .ok (.iconst 3, 1) := by decide +kernel
theorem dX7_init_74 : decode cX7_init 74 = .ok (.newarray .int, 2) := by decide +kernel
theorem dX7_init_76 : decode cX7_init 76 = .ok (.putfield 38, 3) := by decide +kernel
theorem dX7_init_79 : decode cX7_init 79 = .ok (.aload_n 0, 1) := by decide +kernel
theorem dX7_init_80 : decode cX7_init 80 = .ok (.bipush 48, 2) := by decide +kernel
theorem dX7_init_82 : decode cX7_init 82 = .ok (.newarray .int, 2) := by decide +kernel
theorem dX7_init_84 : decode cX7_init 84 = .ok (.putfield 41, 3) := by decide +kernel
theorem dX7_init_87 : decode cX7_init 87 = .ok (.aload_n 0, 1) := by decide +kernel
theorem dX7_init_88 : decode cX7_init 88 = .ok (.bipush 48, 2) := by decide +kernel
theorem dX7_init_90 : decode cX7_init 90 = .ok (.newarray .int, 2) := by decide +kernel
theorem dX7_init_92 : decode cX7_init 92 = .ok (.putfield 44, 3) := by decide +kernel
theorem dX7_init_95 : decode cX7_init 95 = .ok (.aload_n 0, 1) := by decide +kernel
theorem dX7_init_96 : decode cX7_init 96 = .ok (.sipush 384, 3) := by decide +kernel
theorem dX7_init_99 : decode cX7_init 99 = .ok (.newarray .int, 2) := by decide +kernel
theorem dX7_init_101 : decode cX7_init 101 = .ok (.putfield 47, 3) := by decide +kernel
theorem dX7_init_104 : decode cX7_init 104 = .ok (.aload_n 0, 1) := by decide +kernel
theorem dX7_init_105 : decode cX7_init 105 = .ok (.bipush 96, 2) := by decide +kernel
theorem dX7_init_107 : decode cX7_init 107 = .ok (.newarray .int, 2) := by decide +kernel
theorem dX7_init_109 : decode cX7_init 109 = .ok (.putfield 50, 3) := by decide +kernel
theorem dX7_init_112 : decode cX7_init 112 = .ok (.aload_n 0, 1) := by decide +kernel
theorem dX7_init_113 : decode cX7_init 113 = .ok (.sipush 5120, 3) := by decide +kernel
theorem dX7_init_116 : decode cX7_init 116 = .ok (.newarray .int, 2) := by decide +kernel
theorem dX7_init_118 : decode cX7_init 118 = .ok (.putfield 53, 3) := by decide +kernel
theorem dX7_init_121 : decode cX7_init 121 = .ok (.aload_n 0, 1) := by decide +kernel
theorem dX7_init_122 : decode cX7_init 122 = .ok (.bipush 9, 2) := by decide +kernel
theorem dX7_init_124 : decode cX7_init 124 = .ok (.newarray .int, 2) := by decide +kernel
theorem dX7_init_126 : decode cX7_init 126 = .ok (.putfield 56, 3) := by decide +kernel
theorem dX7_init_129 : decode cX7_init 129 = .ok (.aload_n 0, 1) := by decide +kernel
theorem dX7_init_130 : decode cX7_init 130 = .ok (.bipush 6, 2) := by decide +kernel
theorem dX7_init_132 : decode cX7_init 132 = .ok (.newarray .int, 2) := by decide +kernel
theorem dX7_init_134 : decode cX7_init 134 = .ok (.putfield 59, 3) := by decide +kernel
theorem dX7_init_137 : decode cX7_init 137 = .ok (.aload_n 0, 1) := by decide +kernel
theorem dX7_init_138 : decode cX7_init 138 = .ok (.bipush 6, 2) := by decide +kernel
theorem dX7_init_140 : decode cX7_init 140 = .ok (.newarray .int, 2) := by decide +kernel
theorem dX7_init_142 : decode cX7_init 142 = .ok (.putfield 62, 3) := by decide +kernel
theorem dX7_init_145 : decode cX7_init 145 = .ok (.aload_n 0, 1) := by decide +kernel
theorem dX7_init_146 : decode cX7_init 146 = .ok (.bipush 6, 2) := by decide +kernel
theorem dX7_init_148 : decode cX7_init 148 = .ok (.newarray .int, 2) := by decide +kernel
theorem dX7_init_150 : decode cX7_init 150 = .ok (.putfield 65, 3) := by decide +kernel
theorem dX7_init_153 : decode cX7_init 153 = .ok (.aload_n 0, 1) := by decide +kernel
theorem dX7_init_154 : decode cX7_init 154 = .ok (.bipush 6, 2) := by decide +kernel
theorem dX7_init_156 : decode cX7_init 156 = .ok (.newarray .int, 2) := by decide +kernel
theorem dX7_init_158 : decode cX7_init 158 = .ok (.putfield 68, 3) := by decide +kernel
theorem dX7_init_161 : decode cX7_init 161 = .ok (.aload_n 0, 1) := by decide +kernel
theorem dX7_init_162 : decode cX7_init 162 = .ok (.getfield 13, 3) := by decide +kernel
theorem dX7_init_165 : decode cX7_init 165 = .ok (.iconst 1, 1) := by decide +kernel
theorem dX7_init_166 : decode cX7_init 166 = .ok (.bipush 6, 2) := by decide +kernel
theorem dX7_init_168 : decode cX7_init 168 = .ok (.iastore, 1) := by decide +kernel
theorem dX7_init_169 : decode cX7_init 169 = .ok (.aload_n 0, 1) := by decide +kernel
theorem dX7_init_170 : decode cX7_init 170 = .ok (.getfield 17, 3) := by decide +kernel
theorem dX7_init_173 : decode cX7_init 173 = .ok (.iconst 1, 1) := by decide +kernel
theorem dX7_init_174 : decode cX7_init 174 = .ok (.bipush 18, 2) := by decide +kernel
theorem dX7_init_176 : decode cX7_init 176 = .ok (.iastore, 1) := by decide +kernel
theorem dX7_init_177 : decode cX7_init 177 = .ok (.aload_n 0, 1) := by decide +kernel
theorem dX7_init_178 : decode cX7_init 178 = .ok (.getfield 20, 3) := by decide +kernel
theorem dX7_init_181 : decode cX7_init 181 = .ok (.iconst 1, 1) := by decide +kernel
theorem dX7_init_182 : decode cX7_init 182 = .ok (.iconst 3, 1) := by decide +kernel
theorem dX7_init_183 : decode cX7_init 183 = .ok (.iastore, 1) := by decide +kernel
theorem dX7_init_184 : decode cX7_init 184 = .ok (.aload_n 0, 1) := by decide +kernel
theorem dX7_init_185 : decode cX7_init 185 = .ok (.getfield 23, 3) := by decide +kernel
theorem dX7_init_188 : decode cX7_init 188 = .ok (.iconst 1, 1) := by decide +kernel
theorem dX7_init_189 : decode cX7_init 189 = .ok (.bipush 8, 2) := by decide +kernel
theorem dX7_init_191 : decode cX7_init 191 = .ok (.iastore, 1) := by decide +kernel
theorem dX7_init_192 : decode cX7_init 192 = .ok (.aload_n 0, 1) := by decide +kernel
theorem dX7_init_193 : decode cX7_init 193 = .ok (.getfield 26, 3) := by decide +kernel
theorem dX7_init_196 : decode cX7_init 196 = .ok (.iconst 1, 1) := by decide +kernel
theorem dX7_init_197 : decode cX7_init 197 = .ok (.bipush 12, 2) := by decide +kernel
theorem dX7_init_199 : decode cX7_init 199 = .ok (.iastore, 1) := by decide +kernel
theorem dX7_init_200 : decode cX7_init 200 = .ok (.aload_n 0, 1) := by decide +kernel
theorem dX7_init_201 : decode cX7_init 201 = .ok (.iconst 0, 1) := by decide +kernel
theorem dX7_init_202 : decode cX7_init 202 = .ok (.iconst 0, 1) := by decide +kernel
theorem dX7_init_203 : decode cX7_init 203 = .ok (.bipush 40, 2) := by decide +kernel
theorem dX7_init_205 : decode cX7_init 205 = .ok (.bipush 60, 2) := by decide +kernel
theorem dX7_init_207 : decode cX7_init 207 = .ok (.invokevirtual 71, 3) := by decide +kernel
theorem dX7_init_210 : decode cX7_init 210 = .ok (.aload_n 0, 1) := by decide +kernel
theorem dX7_init_211 : decode cX7_init 211 = .ok (.iconst 1, 1) := by decide +kernel
theorem dX7_init_212 : decode cX7_init 212 = .ok (.iconst 0, 1) := by decide +kernel
theorem dX7_init_213 : decode cX7_init 213 = .ok (.bipush 50, 2) := by decide +kernel
theorem dX7_init_215 : decode cX7_init 215 = .ok (.bipush 80, 2) := by decide +kernel
theorem dX7_init_217 : decode cX7_init 217 = .ok (.invokevirtual 71, 3) := by decide +kernel
theorem dX7_init_220 : decode cX7_init 220 = .ok (.aload_n 0, 1) := by decide +kernel
theorem dX7_init_221 : decode cX7_init 221 = .ok (.iconst 2, 1) := by decide +kernel
theorem dX7_init_222 : decode cX7_init 222 = .ok (.iconst 1, 1) := by decide +kernel
theorem dX7_init_223 : decode cX7_init 223 = .ok (.bipush 20, 2) := by decide +kernel
theorem dX7_init_225 : decode cX7_init 225 = .ok (.bipush 40, 2) := by decide +kernel
theorem dX7_init_227 : decode cX7_init 227 = .ok (.invokevirtual 71, 3) := by decide +kernel
theorem dX7_init_230 : decode cX7_init 230 = .ok (.aload_n 0, 1) := by decide +kernel
theorem dX7_init_231 : decode cX7_init 231 = .ok (.iconst 3, 1) := by decide +kernel
theorem dX7_init_232 : decode cX7_init 232 = .ok (.iconst 2, 1) := by decide +kernel
theorem dX7_init_233 : decode cX7_init 233 = .ok (.bipush 30, 2) := by decide +kernel
theorem dX7_init_235 : decode cX7_init 235 = .ok (.bipush 60, 2) := by decide +kernel
theorem dX7_init_237 : decode cX7_init 237 = .ok (.invokevirtual 71, 3) := by decide +kernel
theorem dX7_init_240 : decode cX7_init 240 = .ok (.aload_n 0, 1) := by decide +kernel
theorem dX7_init_241 : decode cX7_init 241 = .ok (.iconst 4, 1) := by decide +kernel
theorem dX7_init_242 : decode cX7_init 242 = .ok (.iconst 3, 1) := by decide +kernel
theorem dX7_init_243 : decode cX7_init 243 = .ok (.bipush 60, 2) := by decide +kernel
theorem dX7_init_245 : decode cX7_init 245 = .ok (.bipush 99, 2) := by decide +kernel
theorem dX7_init_247 : decode cX7_init 247 = .ok (.invokevirtual 71, 3) := by decide +kernel
theorem dX7_init_250 : decode cX7_init 250 = .ok (.aload_n 0, 1) := by decide +kernel
theorem dX7_init_251 : decode cX7_init 251 = .ok (.iconst 5, 1) := by decide +kernel
theorem dX7_init_252 : decode cX7_init 252 = .ok (.iconst 0, 1) := by decide +kernel
theorem dX7_init_253 : decode cX7_init 253 = .ok (.bipush 10, 2) := by decide +kernel
theorem dX7_init_255 : decode cX7_init 255 = .ok (.bipush 45, 2) := by decide +kernel
theorem dX7_init_257 : decode cX7_init 257 = .ok (.invokevirtual 71, 3) := by decide +kernel
theorem dX7_init_260 : decode cX7_init 260 = .ok (.aload_n 0, 1) := by decide +kernel
theorem dX7_init_261 : decode cX7_init 261 = .ok (.invokevirtual 75, 3) := by decide +kernel
theorem dX7_init_264 : decode cX7_init 264 = .ok (.return_, 1) := by decide +kernel
theorem dX7_in_0 : decode cX7_in 0 = .ok (.iload_n 0, 1) := by decide +kernel
theorem dX7_in_1 : decode cX7_in 1 = .ok (.iload_n 1, 1) := by decide +kernel
theorem dX7_in_2 : decode cX7_in 2 = .ok (.if_icmp .lt 12, 3) := by decide +kernel
theorem dX7_in_5 : decode cX7_in 5 = .ok (.iload_n 0, 1) := by decide +kernel
theorem dX7_in_6 : decode cX7_in 6 = .ok (.iload_n 2, 1) := by decide +kernel
theorem dX7_in_7 : decode cX7_in 7 = .ok (.if_icmp .gt 7, 3) := by decide +kernel
theorem dX7_in_10 : decode cX7_in 10 = .ok (.iconst 1, 1) := by decide +kernel
theorem dX7_in_11 : decode cX7_in 11 = .ok (.goto 4, 3) := by decide +kernel
theorem dX7_in_14 : decode cX7_in 14 = .ok (.iconst 0, 1) := by decide +kernel
theorem dX7_in_15 : decode cX7_in 15 = .ok (.ireturn, 1) := by decide +kernel
theorem dX7_invite_0 : decode cX7_invite 0 = .ok (.aload_n 0, 1) := by decide +kernel
theorem dX7_invite_1 : decode cX7_invite 1 = .ok (.getfield 29, 3) := by decide +kernel
theorem dX7_invite_4 : decode cX7_invite 4 = .ok (.bipush 9, 2) := by decide +kernel
theorem dX7_invite_6 : decode cX7_invite 6 = .ok (.iload_n 1, 1) := by decide +kernel
theorem dX7_invite_7 : decode cX7_invite 7 = .ok (.iadd, 1) := by decide +kernel
theorem dX7_invite_8 : decode cX7_invite 8 = .ok (.iload_n 2, 1) := by decide +kernel
theorem dX7_invite_9 : decode cX7_invite 9 = .ok (.iastore, 1) := by decide +kernel
theorem dX7_invite_10 : decode cX7_invite 10 = .ok (.aload_n 0, 1) := by decide +kernel
theorem dX7_invite_11 : decode cX7_invite 11 = .ok (.getfield 32, 3) := by decide +kernel
theorem dX7_invite_14 : decode cX7_invite 14 = .ok (.bipush 9, 2) := by decide +kernel
theorem dX7_invite_16 : decode cX7_invite 16 = .ok (.iload_n 1, 1) := by decide +kernel
theorem dX7_invite_17 : decode cX7_invite 17 = .ok (.iadd, 1) := by decide +kernel
theorem dX7_invite_18 : decode cX7_invite 18 = .ok (.iload_n 3, 1) := by decide +kernel
theorem dX7_invite_19 : decode cX7_invite 19 = .ok (.iastore, 1) := by decide +kernel
theorem dX7_invite_20 : decode cX7_invite 20 = .ok (.aload_n 0, 1) := by decide +kernel
theorem dX7_invite_21 : decode cX7_invite 21 = .ok (.getfield 35, 3) := by decide +kernel
theorem dX7_invite_24 : decode cX7_invite 24 = .ok (.bipush 9, 2) := by decide +kernel
theorem dX7_invite_26 : decode cX7_invite 26 = .ok (.iload_n 1, 1) := by decide +kernel
theorem dX7_invite_27 : decode cX7_invite 27 = .ok (.iadd, 1) := by decide +kernel
theorem dX7_invite_28 : decode cX7_invite 28 = .ok (.iload 4, 2) := by decide +kernel
theorem dX7_invite_30 : decode cX7_invite 30 = .ok (.iastore, 1) := by decide +kernel
theorem dX7_invite_31 : decode cX7_invite 31 = .ok (.return_, 1) := by decide +kernel
theorem dX7_write_0 : decode cX7_write 0 = .ok (.iload_n 1, 1) := by decide +kernel
theorem dX7_write_1 : decode cX7_write 1 = .ok (.bipush 32, 2) := by decide +kernel
theorem dX7_write_3 : decode cX7_write 3 = .ok (.bipush 126, 2) := by decide +kernel
theorem dX7_write_5 : decode cX7_write 5 = .ok (.invokestatic 78, 3) := by decide +kernel
theorem dX7_write_8 : decode cX7_write 8 = .ok (.ifCond .ne 5, 3) := by decide +kernel
theorem dX7_write_11 : decode cX7_write 11 = .ok (.iconst (-1), 1) := by decide +kernel
theorem dX7_write_12 : decode cX7_write 12 = .ok (.ireturn, 1) := by decide +kernel
theorem dX7_write_13 : decode cX7_write 13 = .ok (.aload_n 0, 1) := by decide +kernel
theorem dX7_write_14 : decode cX7_write 14 = .ok (.getfield 82, 3) := by decide +kernel
theorem dX7_write_17 : decode cX7_write 17 = .ok (.sipush 200, 3) := by decide +kernel
theorem dX7_write_20 : decode cX7_write 20 = .ok (.if_icmp .ne 6, 3) := by decide +kernel
theorem dX7_write_23 : decode cX7_write 23 = .ok (.bipush (-3), 2) := by decide +kernel
theorem dX7_write_25 : decode cX7_write 25 = .ok (.ireturn, 1) := by decide +kernel
theorem dX7_write_26 : decode cX7_write 26 = .ok (.aload_n 0, 1) := by decide +kernel
theorem dX7_write_27 : decode cX7_write 27 = .ok (.getfield 7, 3) := by decide +kernel
theorem dX7_write_30 : decode cX7_write 30 = .ok (.aload_n 0, 1) := by decide +kernel
theorem dX7_write_31 : decode cX7_write 31 = .ok (.getfield 82, 3) := by decide +kernel
theorem dX7_write_34 : decode cX7_write 34 = .ok (.iload_n 1, 1) := by decide +kernel
theorem dX7_write_35 : decode cX7_write 35 = .ok (.i2b, 1) := by decide +kernel
theorem dX7_write_36 : decode cX7_write 36 = .ok (.bastore, 1) := by decide +kernel
theorem dX7_write_37 : decode cX7_write 37 = .ok (.aload_n 0, 1) := by decide +kernel
theorem dX7_write_38 : decode cX7_write 38 = .ok (.dup, 1) := by decide +kernel
theorem dX7_write_39 : decode cX7_write 39 = .ok (.getfield 82, 3) := by decide +kernel
theorem dX7_write_42 : decode cX7_write 42 = .ok (.iconst 1, 1) := by decide +kernel
theorem dX7_write_43 : decode cX7_write 43 = .ok (.iadd, 1) := by decide +kernel
theorem dX7_write_44 : decode cX7_write 44 = .ok (.putfield 82, 3) := by decide +kernel
theorem dX7_write_47 : decode cX7_write 47 = .ok (.aload_n 0, 1) := by decide +kernel
theorem dX7_write_48 : decode cX7_write 48 = .ok (.getfield 82, 3) := by decide +kernel
theorem dX7_write_51 : decode cX7_write 51 = .ok (.ireturn, 1) := by decide +kernel
theorem dX7_wipe_0 : decode cX7_wipe 0 = .ok (.aload_n 0, 1) := by decide +kernel
theorem dX7_wipe_1 : decode cX7_wipe 1 = .ok (.getfield 82, 3) := by decide +kernel
theorem dX7_wipe_4 : decode cX7_wipe 4 = .ok (.istore_n 1, 1) := by decide +kernel
theorem dX7_wipe_5 : decode cX7_wipe 5 = .ok (.aload_n 0, 1) := by decide +kernel
theorem dX7_wipe_6 : decode cX7_wipe 6 = .ok (.iconst 0, 1) := by decide +kernel
theorem dX7_wipe_7 : decode cX7_wipe 7 = .ok (.putfield 82, 3) := by decide +kernel
theorem dX7_wipe_10 : decode cX7_wipe 10 = .ok (.iload_n 1, 1) := by decide +kernel
theorem dX7_wipe_11 : decode cX7_wipe 11 = .ok (.ireturn, 1) := by decide +kernel
theorem dX7_here_0 : decode cX7_here 0 = .ok (.aload_n 0, 1) := by decide +kernel
theorem dX7_here_1 : decode cX7_here 1 = .ok (.getfield 86, 3) := by decide +kernel
theorem dX7_here_4 : decode cX7_here 4 = .ok (.aload_n 0, 1) := by decide +kernel
theorem dX7_here_5 : decode cX7_here 5 = .ok (.getfield 82, 3) := by decide +kernel
theorem dX7_here_8 : decode cX7_here 8 = .ok (.if_icmp .ge 15, 3) := by decide +kernel
theorem dX7_here_11 : decode cX7_here 11 = .ok (.aload_n 0, 1) := by decide +kernel
theorem dX7_here_12 : decode cX7_here 12 = .ok (.getfield 7, 3) := by decide +kernel
theorem dX7_here_15 : decode cX7_here 15 = .ok (.aload_n 0, 1) := by decide +kernel
theorem dX7_here_16 : decode cX7_here 16 = .ok (.getfield 86, 3) := by decide +kernel
theorem dX7_here_19 : decode cX7_here 19 = .ok (.baload, 1) := by decide +kernel
theorem dX7_here_20 : decode cX7_here 20 = .ok (.goto 4, 3) := by decide +kernel
theorem dX7_here_23 : decode cX7_here 23 = .ok (.iconst 0, 1) := by decide +kernel
theorem dX7_here_24 : decode cX7_here 24 = .ok (.ireturn, 1) := by decide +kernel
theorem dX7_readNumber_0 : decode cX7_readNumber 0 = .ok (.iconst 0, 1) := by decide +kernel
theorem dX7_readNumber_1 : decode cX7_readNumber 1 = .ok (.istore 4, 2) := by decide +kernel
theorem dX7_readNumber_3 : decode cX7_readNumber 3 = .ok (.iconst 0, 1) := by decide +kernel
theorem dX7_readNumber_4 : decode cX7_readNumber 4 = .ok (.istore 5, 2) := by decide +kernel
theorem dX7_readNumber_6 : decode cX7_readNumber 6 = .ok (.aload_n 0, 1) := by decide +kernel
theorem dX7_readNumber_7 : decode cX7_readNumber 7 = .ok (.invokevirtual 89, 3) := by decide +kernel
theorem dX7_readNumber_10 : decode cX7_readNumber 10 = .ok (.bipush 48, 2) := by decide +kernel
theorem dX7_readNumber_12 : decode cX7_readNumber 12 = .ok (.bipush 57, 2) := by decide +kernel
theorem dX7_readNumber_14 : decode cX7_readNumber 14 = .ok (.invokestatic 78, 3) := by decide +kernel
theorem dX7_readNumber_17 : decode cX7_readNumber 17 = .ok (.ifCond .eq 40, 3) := by decide +kernel
theorem dX7_readNumber_20 : decode cX7_readNumber 20 = .ok (.iload 4, 2) := by decide +kernel
theorem dX7_readNumber_22 : decode cX7_readNumber 22 = .ok (.iconst 3, 1) := by decide +kernel
theorem dX7_readNumber_23 : decode cX7_readNumber 23 = .ok (.if_icmp .ge 34, 3) := by decide +kernel
theorem dX7_readNumber_26 : decode cX7_readNumber 26 = .ok (.bipush 10, 2) := by decide +kernel
theorem dX7_readNumber_28 : decode cX7_readNumber 28 = .ok (.iload 5, 2) := by decide +kernel
theorem dX7_readNumber_30 : decode cX7_readNumber 30 = .ok (.imul, 1) := by decide +kernel
theorem dX7_readNumber_31 : decode cX7_readNumber 31 = .ok (.aload_n 0, 1) := by decide +kernel
theorem dX7_readNumber_32 : decode cX7_readNumber 32 = .ok (.invokevirtual 89, 3) := by decide +kernel
theorem dX7_readNumber_35 : decode cX7_readNumber 35 = .ok (.iadd, 1) := by decide +kernel
theorem dX7_readNumber_36 : decode cX7_readNumber 36 = .ok (.bipush 48, 2) := by decide +kernel
theorem dX7_readNumber_38 : decode cX7_readNumber 38 = .ok (.isub, 1) := by decide +kernel
theorem dX7_readNumber_39 : decode cX7_readNumber 39 = .ok (.istore 5, 2) := by decide +kernel
theorem dX7_readNumber_41 : decode cX7_readNumber 41 = .ok (.aload_n 0, 1) := by decide +kernel
theorem dX7_readNumber_42 : decode cX7_readNumber 42 = .ok (.dup, 1) := by decide +kernel
theorem dX7_readNumber_43 : decode cX7_readNumber 43 = .ok (.getfield 86, 3) := by decide +kernel
theorem dX7_readNumber_46 : decode cX7_readNumber 46 = .ok (.iconst 1, 1) := by decide +kernel
theorem dX7_readNumber_47 : decode cX7_readNumber 47 = .ok (.iadd, 1) := by decide +kernel
theorem dX7_readNumber_48 : decode cX7_readNumber 48 = .ok (.putfield 86, 3) := by decide +kernel
theorem dX7_readNumber_51 : decode cX7_readNumber 51 = .ok (.iinc 4 1, 3) := by decide +kernel
theorem dX7_readNumber_54 : decode cX7_readNumber 54 = .ok (.goto (-48), 3) := by decide +kernel
theorem dX7_readNumber_57 : decode cX7_readNumber 57 = .ok (.aload_n 0, 1) := by decide +kernel
theorem dX7_readNumber_58 : decode cX7_readNumber 58 = .ok (.getfield 38, 3) := by decide +kernel
theorem dX7_readNumber_61 : decode cX7_readNumber 61 = .ok (.iload_n 1, 1) := by decide +kernel
theorem dX7_readNumber_62 : decode cX7_readNumber 62 = .ok (.iload 5, 2) := by decide +kernel
theorem dX7_readNumber_64 : decode cX7_readNumber 64 = .ok (.iastore, 1) := by decide +kernel
theorem dX7_readNumber_65 : decode cX7_readNumber 65 = .ok (.aload_n 0, 1) := by decide +kernel
theorem dX7_readNumber_66 : decode cX7_readNumber 66 = .ok (.aload_n 0, 1) := by decide +kernel
theorem dX7_readNumber_67 : decode cX7_readNumber 67 = .ok (.getfield 93, 3) := by decide +kernel
theorem dX7_readNumber_70 : decode cX7_readNumber 70 = .ok (.ifCond .eq 27, 3) := by decide +kernel
theorem dX7_readNumber_73 : decode cX7_readNumber 73 = .ok (.iload 4, 2) := by decide +kernel
theorem dX7_readNumber_75 : decode cX7_readNumber 75 = .ok (.iconst 1, 1) := by decide +kernel
theorem dX7_readNumber_76 : decode cX7_readNumber 76 = .ok (.iconst 2, 1) := by decide +kernel
theorem dX7_readNumber_77 : decode cX7_readNumber 77 = .ok (.invokestatic 78, 3) := by decide +kernel
theorem dX7_readNumber_80 : decode cX7_readNumber 80 = .ok (.ifCond .eq 17, 3) := by decide +kernel
theorem dX7_readNumber_83 : decode cX7_readNumber 83 = .ok (.iload 5, 2) := by decide +kernel
theorem dX7_readNumber_85 : decode cX7_readNumber 85 = .ok (.iload_n 2, 1) := by decide +kernel
theorem dX7_readNumber_86 : decode cX7_readNumber 86 = .ok (.iload_n 3, 1) := by decide +kernel
theorem dX7_readNumber_87 : decode cX7_readNumber 87 = .ok (.invokestatic 78, 3) := by decide +kernel
theorem dX7_readNumber_90 : decode cX7_readNumber 90 = .ok (.ifCond .eq 7, 3) := by decide +kernel
theorem dX7_readNumber_93 : decode cX7_readNumber 93 = .ok (.iconst 1, 1) := by decide +kernel
theorem dX7_readNumber_94 : decode cX7_readNumber 94 = .ok (.goto 4, 3) := by decide +kernel
theorem dX7_readNumber_97 : decode cX7_readNumber 97 = .ok (.iconst 0, 1) := by decide +kernel
theorem dX7_readNumber_98 : decode cX7_readNumber 98 = .ok (.putfield 93, 3) := by decide +kernel
theorem dX7_readNumber_101 : decode cX7_readNumber 101 = .ok (.return_, 1) := by decide +kernel
theorem dX7_readMark_0 : decode cX7_readMark 0 = .ok (.aload_n 0, 1) := by decide +kernel
theorem dX7_readMark_1 : decode cX7_readMark 1 = .ok (.aload_n 0, 1) := by decide +kernel
theorem dX7_readMark_2 : decode cX7_readMark 2 = .ok (.getfield 93, 3) := by decide +kernel
theorem dX7_readMark_5 : decode cX7_readMark 5 = .ok (.ifCond .eq 15, 3) := by decide +kernel
theorem dX7_readMark_8 : decode cX7_readMark 8 = .ok (.aload_n 0, 1) := by decide +kernel
theorem dX7_readMark_9 : decode cX7_readMark 9 = .ok (.invokevirtual 89, 3) := by decide +kernel
theorem dX7_readMark_12 : decode cX7_readMark 12 = .ok (.iload_n 1, 1) := by decide +kernel
theorem dX7_readMark_13 : decode cX7_readMark 13 = .ok (.if_icmp .ne 7, 3) := by decide +kernel
theorem dX7_readMark_16 : decode cX7_readMark 16 = .ok (.iconst 1, 1) := by decide +kernel
theorem dX7_readMark_17 : decode cX7_readMark 17 = .ok (.goto 4, 3) := by decide +kernel
theorem dX7_readMark_20 : decode cX7_readMark 20 = .ok (.iconst 0, 1) := by decide +kernel
theorem dX7_readMark_21 : decode cX7_readMark 21 = .ok (.putfield 93, 3) := by decide +kernel
theorem dX7_readMark_24 : decode cX7_readMark 24 = .ok (.aload_n 0, 1) := by decide +kernel
theorem dX7_readMark_25 : decode cX7_readMark 25 = .ok (.dup, 1) := by decide +kernel
theorem dX7_readMark_26 : decode cX7_readMark 26 = .ok (.getfield 86, 3) := by decide +kernel
theorem dX7_readMark_29 : decode cX7_readMark 29 = .ok (.iconst 1, 1) := by decide +kernel
theorem dX7_readMark_30 : decode cX7_readMark 30 = .ok (.iadd, 1) := by decide +kernel
theorem dX7_readMark_31 : decode cX7_readMark 31 = .ok (.putfield 86, 3) := by decide +kernel
theorem dX7_readMark_34 : decode cX7_readMark 34 = .ok (.return_, 1) := by decide +kernel
theorem dX7_readItem_0 : decode cX7_readItem 0 = .ok (.aload_n 0, 1) := by decide +kernel
theorem dX7_readItem_1 : decode cX7_readItem 1 = .ok (.invokevirtual 89, 3) := by decide +kernel
theorem dX7_readItem_4 : decode cX7_readItem 4 = .ok (.istore_n 1, 1) := by decide +kernel
theorem dX7_readItem_5 : decode cX7_readItem 5 = .ok (.aload_n 0, 1) := by decide +kernel
theorem dX7_readItem_6 : decode cX7_readItem 6 = .ok (.dup, 1) := by decide +kernel
theorem dX7_readItem_7 : decode cX7_readItem 7 = .ok (.getfield 86, 3) := by decide +kernel
theorem dX7_readItem_10 : decode cX7_readItem 10 = .ok (.iconst 1, 1) := by decide +kernel
theorem dX7_readItem_11 : decode cX7_readItem 11 = .ok (.iadd, 1) := by decide +kernel
theorem dX7_readItem_12 : decode cX7_readItem 12 = .ok (.putfield 86, 3) := by decide +kernel
theorem dX7_readItem_15 : decode cX7_readItem 15 = .ok (.iload_n 1, 1) := by decide +kernel
theorem dX7_readItem_16 : decode cX7_readItem 16 = .ok (.tableswitch 238 103 108 #[135, 86, 238, 238, 63, 40], 40) := by decide +kernel
theorem dX7_readItem_56 : decode cX7_readItem 56 = .ok (.aload_n 0, 1) := by decide +kernel
theorem dX7_readItem_57 : decode cX7_readItem 57 = .ok (.iconst 0, 1) := by decide +kernel
theorem dX7_readItem_58 : decode cX7_readItem 58 = .ok (.iconst 2, 1) := by decide +kernel
theorem dX7_readItem_59 : decode cX7_readItem 59 = .ok (.bipush 40, 2) := by decide +kernel
theorem dX7_readItem_61 : decode cX7_readItem 61 = .ok (.invokevirtual 97, 3) := by decide +kernel
theorem dX7_readItem_64 : decode cX7_readItem 64 = .ok (.aload_n 0, 1) := by decide +kernel
theorem dX7_readItem_65 : decode cX7_readItem 65 = .ok (.getfield 17, 3) := by decide +kernel
theorem dX7_readItem_68 : decode cX7_readItem 68 = .ok (.iconst 1, 1) := by decide +kernel
theorem dX7_readItem_69 : decode cX7_readItem 69 = .ok (.aload_n 0, 1) := by decide +kernel
theorem dX7_readItem_70 : decode cX7_readItem 70 = .ok (.getfield 38, 3) := by decide +kernel
theorem dX7_readItem_73 : decode cX7_readItem 73 = .ok (.iconst 0, 1) := by decide +kernel
theorem dX7_readItem_74 : decode cX7_readItem 74 = .ok (.iaload, 1) := by decide +kernel
theorem dX7_readItem_75 : decode cX7_readItem 75 = .ok (.iastore, 1) := by decide +kernel
theorem dX7_readItem_76 : decode cX7_readItem 76 = .ok (.goto 183, 3) := by decide +kernel
theorem dX7_readItem_79 : decode cX7_readItem 79 = .ok (.aload_n 0, 1) := by decide +kernel
theorem dX7_readItem_80 : decode cX7_readItem 80 = .ok (.iconst 0, 1) := by decide +kernel
theorem dX7_readItem_81 : decode cX7_readItem 81 = .ok (.iconst 1, 1) := by decide +kernel
theorem dX7_readItem_82 : decode cX7_readItem 82 = .ok (.bipush 9, 2) := by decide +kernel
theorem dX7_readItem_84 : decode cX7_readItem 84 = .ok (.invokevirtual 97, 3) := by decide +kernel
theorem dX7_readItem_87 : decode cX7_readItem 87 = .ok (.aload_n 0, 1) := by decide +kernel
theorem dX7_readItem_88 : decode cX7_readItem 88 = .ok (.getfield 20, 3) := by decide +kernel
theorem dX7_readItem_91 : decode cX7_readItem 91 = .ok (.iconst 1, 1) := by decide +kernel
theorem dX7_readItem_92 : decode cX7_readItem 92 = .ok (.aload_n 0, 1) := by decide +kernel
theorem dX7_readItem_93 : decode cX7_readItem 93 = .ok (.getfield 38, 3) := by decide +kernel
theorem dX7_readItem_96 : decode cX7_readItem 96 = .ok (.iconst 0, 1) := by decide +kernel
theorem dX7_readItem_97 : decode cX7_readItem 97 = .ok (.iaload, 1) := by decide +kernel
theorem dX7_readItem_98 : decode cX7_readItem 98 = .ok (.iastore, 1) := by decide +kernel
theorem dX7_readItem_99 : decode cX7_readItem 99 = .ok (.goto 160, 3) := by decide +kernel
theorem dX7_readItem_102 : decode cX7_readItem 102 = .ok (.aload_n 0, 1) := by decide +kernel
theorem dX7_readItem_103 : decode cX7_readItem 103 = .ok (.iconst 0, 1) := by decide +kernel
theorem dX7_readItem_104 : decode cX7_readItem 104 = .ok (.iconst 0, 1) := by decide +kernel
theorem dX7_readItem_105 : decode cX7_readItem 105 = .ok (.bipush 30, 2) := by decide +kernel
theorem dX7_readItem_107 : decode cX7_readItem 107 = .ok (.invokevirtual 97, 3) := by decide +kernel
theorem dX7_readItem_110 : decode cX7_readItem 110 = .ok (.aload_n 0, 1) := by decide +kernel
theorem dX7_readItem_111 : decode cX7_readItem 111 = .ok (.bipush 44, 2) := by decide +kernel
theorem dX7_readItem_113 : decode cX7_readItem 113 = .ok (.invokevirtual 101, 3) := by decide +kernel
theorem dX7_readItem_116 : decode cX7_readItem 116 = .ok (.aload_n 0, 1) := by decide +kernel
theorem dX7_readItem_117 : decode cX7_readItem 117 = .ok (.iconst 1, 1) := by decide +kernel
theorem dX7_readItem_118 : decode cX7_readItem 118 = .ok (.iconst 0, 1) := by decide +kernel
theorem dX7_readItem_119 : decode cX7_readItem 119 = .ok (.bipush 30, 2) := by decide +kernel
theorem dX7_readItem_121 : decode cX7_readItem 121 = .ok (.invokevirtual 97, 3) := by decide +kernel
theorem dX7_readItem_124 : decode cX7_readItem 124 = .ok (.aload_n 0, 1) := by decide +kernel
theorem dX7_readItem_125 : decode cX7_readItem 125 = .ok (.getfield 23, 3) := by decide +kernel
theorem dX7_readItem_128 : decode cX7_readItem 128 = .ok (.iconst 1, 1) := by decide +kernel
theorem dX7_readItem_129 : decode cX7_readItem 129 = .ok (.aload_n 0, 1) := by decide +kernel
theorem dX7_readItem_130 : decode cX7_readItem 130 = .ok (.getfield 38, 3) := by decide +kernel
theorem dX7_readItem_133 : decode cX7_readItem 133 = .ok (.iconst 0, 1) := by decide +kernel
theorem dX7_readItem_134 : decode cX7_readItem 134 = .ok (.iaload, 1) := by decide +kernel
theorem dX7_readItem_135 : decode cX7_readItem 135 = .ok (.iastore, 1) := by decide +kernel
theorem dX7_readItem_136 : decode cX7_readItem 136 = .ok (.aload_n 0, 1) := by decide +kernel
theorem dX7_readItem_137 : decode cX7_readItem 137 = .ok (.getfield 26, 3) := by decide +kernel
theorem dX7_readItem_140 : decode cX7_readItem 140 = .ok (.iconst 1, 1) := by decide +kernel
theorem dX7_readItem_141 : decode cX7_readItem 141 = .ok (.aload_n 0, 1) := by decide +kernel
theorem dX7_readItem_142 : decode cX7_readItem 142 = .ok (.getfield 38, 3) := by decide +kernel
theorem dX7_readItem_145 : decode cX7_readItem 145 = .ok (.iconst 1, 1) := by decide +kernel
theorem dX7_readItem_146 : decode cX7_readItem 146 = .ok (.iaload, 1) := by decide +kernel
theorem dX7_readItem_147 : decode cX7_readItem 147 = .ok (.iastore, 1) := by decide +kernel
theorem dX7_readItem_148 : decode cX7_readItem 148 = .ok (.goto 111, 3) := by decide +kernel
theorem dX7_readItem_151 : decode cX7_readItem 151 = .ok (.aload_n 0, 1) := by decide +kernel
theorem dX7_readItem_152 : decode cX7_readItem 152 = .ok (.aload_n 0, 1) := by decide +kernel
theorem dX7_readItem_153 : decode cX7_readItem 153 = .ok (.getfield 13, 3) := by decide +kernel
theorem dX7_readItem_156 : decode cX7_readItem 156 = .ok (.iconst 1, 1) := by decide +kernel
theorem dX7_readItem_157 : decode cX7_readItem 157 = .ok (.iaload, 1) := by decide +kernel
theorem dX7_readItem_158 : decode cX7_readItem 158 = .ok (.bipush 9, 2) := by decide +kernel
theorem dX7_readItem_160 : decode cX7_readItem 160 = .ok (.if_icmp .ge 7, 3) := by decide +kernel
theorem dX7_readItem_163 : decode cX7_readItem 163 = .ok (.iconst 1, 1) := by decide +kernel
theorem dX7_readItem_164 : decode cX7_readItem 164 = .ok (.goto 4, 3) := by decide +kernel
theorem dX7_readItem_167 : decode cX7_readItem 167 = .ok (.iconst 0, 1) := by decide +kernel
theorem dX7_readItem_168 : decode cX7_readItem 168 = .ok (.putfield 93, 3) := by decide +kernel
theorem dX7_readItem_171 : decode cX7_readItem 171 = .ok (.aload_n 0, 1) := by decide +kernel
theorem dX7_readItem_172 : decode cX7_readItem 172 = .ok (.iconst 0, 1) := by decide +kernel
theorem dX7_readItem_173 : decode cX7_readItem 173 = .ok (.iconst 0, 1) := by decide +kernel
theorem dX7_readItem_174 : decode cX7_readItem 174 = .ok (.iconst 3, 1) := by decide +kernel
theorem dX7_readItem_175 : decode cX7_readItem 175 = .ok (.invokevirtual 97, 3) := by decide +kernel
theorem dX7_readItem_178 : decode cX7_readItem 178 = .ok (.aload_n 0, 1) := by decide +kernel
theorem dX7_readItem_179 : decode cX7_readItem 179 = .ok (.bipush 44, 2) := by decide +kernel
theorem dX7_readItem_181 : decode cX7_readItem 181 = .ok (.invokevirtual 101, 3) := by decide +kernel
theorem dX7_readItem_184 : decode cX7_readItem 184 = .ok (.aload_n 0, 1) := by decide +kernel
theorem dX7_readItem_185 : decode cX7_readItem 185 = .ok (.iconst 1, 1) := by decide +kernel
theorem dX7_readItem_186 : decode cX7_readItem 186 = .ok (.iconst 0, 1) := by decide +kernel
theorem dX7_readItem_187 : decode cX7_readItem 187 = .ok (.bipush 99, 2) := by decide +kernel
theorem dX7_readItem_189 : decode cX7_readItem 189 = .ok (.invokevirtual 97, 3) := by decide +kernel
theorem dX7_readItem_192 : decode cX7_readItem 192 = .ok (.aload_n 0, 1) := by decide +kernel
theorem dX7_readItem_193 : decode cX7_readItem 193 = .ok (.bipush 44, 2) := by decide +kernel
theorem dX7_readItem_195 : decode cX7_readItem 195 = .ok (.invokevirtual 101, 3) := by decide +kernel
theorem dX7_readItem_198 : decode cX7_readItem 198 = .ok (.aload_n 0, 1) := by decide +kernel
theorem dX7_readItem_199 : decode cX7_readItem 199 = .ok (.iconst 2, 1) := by decide +kernel
theorem dX7_readItem_200 : decode cX7_readItem 200 = .ok (.iconst 0, 1) := by decide +kernel
theorem dX7_readItem_201 : decode cX7_readItem 201 = .ok (.bipush 99, 2) := by decide +kernel
theorem dX7_readItem_203 : decode cX7_readItem 203 = .ok (.invokevirtual 97, 3) := by decide +kernel
theorem dX7_readItem_206 : decode cX7_readItem 206 = .ok (.aload_n 0, 1) := by decide +kernel
theorem dX7_readItem_207 : decode cX7_readItem 207 = .ok (.getfield 93, 3) := by decide +kernel
theorem dX7_readItem_210 : decode cX7_readItem 210 = .ok (.ifCond .eq 49, 3) := by decide +kernel
theorem dX7_readItem_213 : decode cX7_readItem 213 = .ok (.aload_n 0, 1) := by decide +kernel
theorem dX7_readItem_214 : decode cX7_readItem 214 = .ok (.aload_n 0, 1) := by decide +kernel
theorem dX7_readItem_215 : decode cX7_readItem 215 = .ok (.getfield 13, 3) := by decide +kernel
theorem dX7_readItem_218 : decode cX7_readItem 218 = .ok (.iconst 1, 1) := by decide +kernel
theorem dX7_readItem_219 : decode cX7_readItem 219 = .ok (.iaload, 1) := by decide +kernel
theorem dX7_readItem_220 : decode cX7_readItem 220 = .ok (.aload_n 0, 1) := by decide +kernel
theorem dX7_readItem_221 : decode cX7_readItem 221 = .ok (.getfield 38, 3) := by decide +kernel
theorem dX7_readItem_224 : decode cX7_readItem 224 = .ok (.iconst 0, 1) := by decide +kernel
theorem dX7_readItem_225 : decode cX7_readItem 225 = .ok (.iaload, 1) := by decide +kernel
theorem dX7_readItem_226 : decode cX7_readItem 226 = .ok (.aload_n 0, 1) := by decide +kernel
theorem dX7_readItem_227 : decode cX7_readItem 227 = .ok (.getfield 38, 3) := by decide +kernel
theorem dX7_readItem_230 : decode cX7_readItem 230 = .ok (.iconst 1, 1) := by decide +kernel
theorem dX7_readItem_231 : decode cX7_readItem 231 = .ok (.iaload, 1) := by decide +kernel
theorem dX7_readItem_232 : decode cX7_readItem 232 = .ok (.aload_n 0, 1) := by decide +kernel
theorem dX7_readItem_233 : decode cX7_readItem 233 = .ok (.getfield 38, 3) := by decide +kernel
theorem dX7_readItem_236 : decode cX7_readItem 236 = .ok (.iconst 2, 1) := by decide +kernel
theorem dX7_readItem_237 : decode cX7_readItem 237 = .ok (.iaload, 1) := by decide +kernel
theorem dX7_readItem_238 : decode cX7_readItem 238 = .ok (.invokevirtual 71, 3) := by decide +kernel
theorem dX7_readItem_241 : decode cX7_readItem 241 = .ok (.aload_n 0, 1) := by decide +kernel
theorem dX7_readItem_242 : decode cX7_readItem 242 = .ok (.getfield 13, 3) := by decide +kernel
theorem dX7_readItem_245 : decode cX7_readItem 245 = .ok (.iconst 1, 1) := by decide +kernel
theorem dX7_readItem_246 : decode cX7_readItem 246 = .ok (.dup2, 1) := by decide +kernel
theorem dX7_readItem_247 : decode cX7_readItem 247 = .ok (.iaload, 1) := by decide +kernel
theorem dX7_readItem_248 : decode cX7_readItem 248 = .ok (.iconst 1, 1) := by decide +kernel
theorem dX7_readItem_249 : decode cX7_readItem 249 = .ok (.iadd, 1) := by decide +kernel
theorem dX7_readItem_250 : decode cX7_readItem 250 = .ok (.iastore, 1) := by decide +kernel
theorem dX7_readItem_251 : decode cX7_readItem 251 = .ok (.goto 8, 3) := by decide +kernel
theorem dX7_readItem_254 : decode cX7_readItem 254 = .ok (.aload_n 0, 1) := by decide +kernel
theorem dX7_readItem_255 : decode cX7_readItem 255 = .ok (.iconst 0, 1) := by decide +kernel
theorem dX7_readItem_256 : decode cX7_readItem 256 = .ok (.putfield 93, 3) := by decide +kernel
theorem dX7_readItem_259 : decode cX7_readItem 259 = .ok (.aload_n 0, 1) := by decide +kernel
theorem dX7_readItem_260 : decode cX7_readItem 260 = .ok (.bipush 59, 2) := by decide +kernel
theorem dX7_readItem_262 : decode cX7_readItem 262 = .ok (.invokevirtual 101, 3) := by decide +kernel
theorem dX7_readItem_265 : decode cX7_readItem 265 = .ok (.return_, 1) := by decide +kernel
theorem dX7_fault_0 : decode cX7_fault 0 = .ok (.aload_n 0, 1) := by decide +kernel
theorem dX7_fault_1 : decode cX7_fault 1 = .ok (.getfield 13, 3) := by decide +kernel
theorem dX7_fault_4 : decode cX7_fault 4 = .ok (.iconst 1, 1) := by decide +kernel
theorem dX7_fault_5 : decode cX7_fault 5 = .ok (.iconst 0, 1) := by decide +kernel
theorem dX7_fault_6 : decode cX7_fault 6 = .ok (.iastore, 1) := by decide +kernel
theorem dX7_fault_7 : decode cX7_fault 7 = .ok (.aload_n 0, 1) := by decide +kernel
theorem dX7_fault_8 : decode cX7_fault 8 = .ok (.getfield 17, 3) := by decide +kernel
theorem dX7_fault_11 : decode cX7_fault 11 = .ok (.iconst 1, 1) := by decide +kernel
theorem dX7_fault_12 : decode cX7_fault 12 = .ok (.bipush 18, 2) := by decide +kernel
theorem dX7_fault_14 : decode cX7_fault 14 = .ok (.iastore, 1) := by decide +kernel
theorem dX7_fault_15 : decode cX7_fault 15 = .ok (.aload_n 0, 1) := by decide +kernel
theorem dX7_fault_16 : decode cX7_fault 16 = .ok (.getfield 20, 3) := by decide +kernel
theorem dX7_fault_19 : decode cX7_fault 19 = .ok (.iconst 1, 1) := by decide +kernel
theorem dX7_fault_20 : decode cX7_fault 20 = .ok (.iconst 3, 1) := by decide +kernel
theorem dX7_fault_21 : decode cX7_fault 21 = .ok (.iastore, 1) := by decide +kernel
theorem dX7_fault_22 : decode cX7_fault 22 = .ok (.aload_n 0, 1) := by decide +kernel
theorem dX7_fault_23 : decode cX7_fault 23 = .ok (.getfield 23, 3) := by decide +kernel
theorem dX7_fault_26 : decode cX7_fault 26 = .ok (.iconst 1, 1) := by decide +kernel
theorem dX7_fault_27 : decode cX7_fault 27 = .ok (.bipush 8, 2) := by decide +kernel
theorem dX7_fault_29 : decode cX7_fault 29 = .ok (.iastore, 1) := by decide +kernel
theorem dX7_fault_30 : decode cX7_fault 30 = .ok (.aload_n 0, 1) := by decide +kernel
theorem dX7_fault_31 : decode cX7_fault 31 = .ok (.getfield 26, 3) := by decide +kernel
theorem dX7_fault_34 : decode cX7_fault 34 = .ok (.iconst 1, 1) := by decide +kernel
theorem dX7_fault_35 : decode cX7_fault 35 = .ok (.bipush 12, 2) := by decide +kernel
theorem dX7_fault_37 : decode cX7_fault 37 = .ok (.iastore, 1) := by decide +kernel
theorem dX7_fault_38 : decode cX7_fault 38 = .ok (.aload_n 0, 1) := by decide +kernel
theorem dX7_fault_39 : decode cX7_fault 39 = .ok (.iconst 0, 1) := by decide +kernel
theorem dX7_fault_40 : decode cX7_fault 40 = .ok (.putfield 86, 3) := by decide +kernel
theorem dX7_fault_43 : decode cX7_fault 43 = .ok (.aload_n 0, 1) := by decide +kernel
theorem dX7_fault_44 : decode cX7_fault 44 = .ok (.getfield 86, 3) := by decide +kernel
theorem dX7_fault_47 : decode cX7_fault 47 = .ok (.aload_n 0, 1) := by decide +kernel
theorem dX7_fault_48 : decode cX7_fault 48 = .ok (.getfield 82, 3) := by decide +kernel
theorem dX7_fault_51 : decode cX7_fault 51 = .ok (.if_icmp .ge 29, 3) := by decide +kernel
theorem dX7_fault_54 : decode cX7_fault 54 = .ok (.aload_n 0, 1) := by decide +kernel
theorem dX7_fault_55 : decode cX7_fault 55 = .ok (.getfield 86, 3) := by decide +kernel
theorem dX7_fault_58 : decode cX7_fault 58 = .ok (.istore_n 1, 1) := by decide +kernel
theorem dX7_fault_59 : decode cX7_fault 59 = .ok (.aload_n 0, 1) := by decide +kernel
theorem dX7_fault_60 : decode cX7_fault 60 = .ok (.iconst 1, 1) := by decide +kernel
theorem dX7_fault_61 : decode cX7_fault 61 = .ok (.putfield 93, 3) := by decide +kernel
theorem dX7_fault_64 : decode cX7_fault 64 = .ok (.aload_n 0, 1) := by decide +kernel
theorem dX7_fault_65 : decode cX7_fault 65 = .ok (.invokevirtual 105, 3) := by decide +kernel
theorem dX7_fault_68 : decode cX7_fault 68 = .ok (.aload_n 0, 1) := by decide +kernel
theorem dX7_fault_69 : decode cX7_fault 69 = .ok (.getfield 93, 3) := by decide +kernel
theorem dX7_fault_72 : decode cX7_fault 72 = .ok (.ifCond .ne 5, 3) := by decide +kernel
theorem dX7_fault_75 : decode cX7_fault 75 = .ok (.iload_n 1, 1) := by decide +kernel
theorem dX7_fault_76 : decode cX7_fault 76 = .ok (.ireturn, 1) := by decide +kernel
theorem dX7_fault_77 : decode cX7_fault 77 = .ok (.goto (-34), 3) := by decide +kernel
theorem dX7_fault_80 : decode cX7_fault 80 = .ok (.bipush (-4), 2) := by decide +kernel
theorem dX7_fault_82 : decode cX7_fault 82 = .ok (.ireturn, 1) := by decide +kernel
theorem dX7_takeDraft_0 : decode cX7_takeDraft 0 = .ok (.aload_n 0, 1) := by decide +kernel
theorem dX7_takeDraft_1 : decode cX7_takeDraft 1 = .ok (.getfield 13, 3) := by decide +kernel
theorem dX7_takeDraft_4 : decode cX7_takeDraft 4 = .ok (.iconst 0, 1) := by decide +kernel
theorem dX7_takeDraft_5 : decode cX7_takeDraft 5 = .ok (.aload_n 0, 1) := by decide +kernel
theorem dX7_takeDraft_6 : decode cX7_takeDraft 6 = .ok (.getfield 13, 3) := by decide +kernel
theorem dX7_takeDraft_9 : decode cX7_takeDraft 9 = .ok (.iconst 1, 1) := by decide +kernel
theorem dX7_takeDraft_10 : decode cX7_takeDraft 10 = .ok (.iaload, 1) := by decide +kernel
theorem dX7_takeDraft_11 : decode cX7_takeDraft 11 = .ok (.iastore, 1) := by decide +kernel
theorem dX7_takeDraft_12 : decode cX7_takeDraft 12 = .ok (.aload_n 0, 1) := by decide +kernel
theorem dX7_takeDraft_13 : decode cX7_takeDraft 13 = .ok (.getfield 17, 3) := by decide +kernel
theorem dX7_takeDraft_16 : decode cX7_takeDraft 16 = .ok (.iconst 0, 1) := by decide +kernel
theorem dX7_takeDraft_17 : decode cX7_takeDraft 17 = .ok (.aload_n 0, 1) := by decide +kernel
theorem dX7_takeDraft_18 : decode cX7_takeDraft 18 = .ok (.getfield 17, 3) := by decide +kernel
theorem dX7_takeDraft_21 : decode cX7_takeDraft 21 = .ok (.iconst 1, 1) := by decide +kernel
theorem dX7_takeDraft_22 : decode cX7_takeDraft 22 = .ok (.iaload, 1) := by decide +kernel
theorem dX7_takeDraft_23 : decode cX7_takeDraft 23 = .ok (.iastore, 1) := by decide +kernel
theorem dX7_takeDraft_24 : decode cX7_takeDraft 24 = .ok (.aload_n 0, 1) := by decide +kernel
theorem dX7_takeDraft_25 : decode cX7_takeDraft 25 = .ok (.getfield 26, 3) := by decide +kernel
theorem dX7_takeDraft_28 : decode cX7_takeDraft 28 = .ok (.iconst 0, 1) := by decide +kernel
theorem dX7_takeDraft_29 : decode cX7_takeDraft 29 = .ok (.aload_n 0, 1) := by decide +kernel
theorem dX7_takeDraft_30 : decode cX7_takeDraft 30 = .ok (.getfield 26, 3) := by decide +kernel
theorem dX7_takeDraft_33 : decode cX7_takeDraft 33 = .ok (.iconst 1, 1) := by decide +kernel
theorem dX7_takeDraft_34 : decode cX7_takeDraft 34 = .ok (.iaload, 1) := by decide +kernel
theorem dX7_takeDraft_35 : decode cX7_takeDraft 35 = .ok (.iastore, 1) := by decide +kernel
theorem dX7_takeDraft_36 : decode cX7_takeDraft 36 = .ok (.iconst 0, 1) := by decide +kernel
theorem dX7_takeDraft_37 : decode cX7_takeDraft 37 = .ok (.istore_n 1, 1) := by decide +kernel
theorem dX7_takeDraft_38 : decode cX7_takeDraft 38 = .ok (.iload_n 1, 1) := by decide +kernel
theorem dX7_takeDraft_39 : decode cX7_takeDraft 39 = .ok (.bipush 9, 2) := by decide +kernel
theorem dX7_takeDraft_41 : decode cX7_takeDraft 41 = .ok (.if_icmp .ge 54, 3) := by decide +kernel
theorem dX7_takeDraft_44 : decode cX7_takeDraft 44 = .ok (.aload_n 0, 1) := by decide +kernel
theorem dX7_takeDraft_45 : decode cX7_takeDraft 45 = .ok (.getfield 29, 3) := by decide +kernel
theorem dX7_takeDraft_48 : decode cX7_takeDraft 48 = .ok (.iload_n 1, 1) := by decide +kernel
theorem dX7_takeDraft_49 : decode cX7_takeDraft 49 = .ok (.aload_n 0, 1) := by decide +kernel
theorem dX7_takeDraft_50 : decode cX7_takeDraft 50 = .ok (.getfield 29, 3) := by decide +kernel
theorem dX7_takeDraft_53 : decode cX7_takeDraft 53 = .ok (.bipush 9, 2) := by decide +kernel
theorem dX7_takeDraft_55 : decode cX7_takeDraft 55 = .ok (.iload_n 1, 1) := by decide +kernel
theorem dX7_takeDraft_56 : decode cX7_takeDraft 56 = .ok (.iadd, 1) := by decide +kernel
theorem dX7_takeDraft_57 : decode cX7_takeDraft 57 = .ok (.iaload, 1) := by decide +kernel
theorem dX7_takeDraft_58 : decode cX7_takeDraft 58 = .ok (.iastore, 1) := by decide +kernel
theorem dX7_takeDraft_59 : decode cX7_takeDraft 59 = .ok (.aload_n 0, 1) := by decide +kernel
theorem dX7_takeDraft_60 : decode cX7_takeDraft 60 = .ok (.getfield 32, 3) := by decide +kernel
theorem dX7_takeDraft_63 : decode cX7_takeDraft 63 = .ok (.iload_n 1, 1) := by decide +kernel
theorem dX7_takeDraft_64 : decode cX7_takeDraft 64 = .ok (.aload_n 0, 1) := by decide +kernel
theorem dX7_takeDraft_65 : decode cX7_takeDraft 65 = .ok (.getfield 32, 3) := by decide +kernel
theorem dX7_takeDraft_68 : decode cX7_takeDraft 68 = .ok (.bipush 9, 2) := by decide +kernel
theorem dX7_takeDraft_70 : decode cX7_takeDraft 70 = .ok (.iload_n 1, 1) := by decide +kernel
theorem dX7_takeDraft_71 : decode cX7_takeDraft 71 = .ok (.iadd, 1) := by decide +kernel
theorem dX7_takeDraft_72 : decode cX7_takeDraft 72 = .ok (.iaload, 1) := by decide +kernel
theorem dX7_takeDraft_73 : decode cX7_takeDraft 73 = .ok (.iastore, 1) := by decide +kernel
theorem dX7_takeDraft_74 : decode cX7_takeDraft 74 = .ok (.aload_n 0, 1) := by decide +kernel
theorem dX7_takeDraft_75 : decode cX7_takeDraft 75 = .ok (.getfield 35, 3) := by decide +kernel
theorem dX7_takeDraft_78 : decode cX7_takeDraft 78 = .ok (.iload_n 1, 1) := by decide +kernel
theorem dX7_takeDraft_79 : decode cX7_takeDraft 79 = .ok (.aload_n 0, 1) := by decide +kernel
theorem dX7_takeDraft_80 : decode cX7_takeDraft 80 = .ok (.getfield 35, 3) := by decide +kernel
theorem dX7_takeDraft_83 : decode cX7_takeDraft 83 = .ok (.bipush 9, 2) := by decide +kernel
theorem dX7_takeDraft_85 : decode cX7_takeDraft 85 = .ok (.iload_n 1, 1) := by decide +kernel
theorem dX7_takeDraft_86 : decode cX7_takeDraft 86 = .ok (.iadd, 1) := by decide +kernel
theorem dX7_takeDraft_87 : decode cX7_takeDraft 87 = .ok (.iaload, 1) := by decide +kernel
theorem dX7_takeDraft_88 : decode cX7_takeDraft 88 = .ok (.iastore, 1) := by decide +kernel
theorem dX7_takeDraft_89 : decode cX7_takeDraft 89 = .ok (.iinc 1 1, 3) := by decide +kernel
theorem dX7_takeDraft_92 : decode cX7_takeDraft 92 = .ok (.goto (-54), 3) := by decide +kernel
theorem dX7_takeDraft_95 : decode cX7_takeDraft 95 = .ok (.iconst 0, 1) := by decide +kernel
theorem dX7_takeDraft_96 : decode cX7_takeDraft 96 = .ok (.istore_n 1, 1) := by decide +kernel
theorem dX7_takeDraft_97 : decode cX7_takeDraft 97 = .ok (.iload_n 1, 1) := by decide +kernel
theorem dX7_takeDraft_98 : decode cX7_takeDraft 98 = .ok (.bipush 48, 2) := by decide +kernel
theorem dX7_takeDraft_100 : decode cX7_takeDraft 100 = .ok (.if_icmp .ge 16, 3) := by decide +kernel
theorem dX7_takeDraft_103 : decode cX7_takeDraft 103 = .ok (.aload_n 0, 1) := by decide +kernel
theorem dX7_takeDraft_104 : decode cX7_takeDraft 104 = .ok (.getfield 41, 3) := by decide +kernel
theorem dX7_takeDraft_107 : decode cX7_takeDraft 107 = .ok (.iload_n 1, 1) := by decide +kernel
theorem dX7_takeDraft_108 : decode cX7_takeDraft 108 = .ok (.iconst 0, 1) := by decide +kernel
theorem dX7_takeDraft_109 : decode cX7_takeDraft 109 = .ok (.iastore, 1) := by decide +kernel
theorem dX7_takeDraft_110 : decode cX7_takeDraft 110 = .ok (.iinc 1 1, 3) := by decide +kernel
theorem dX7_takeDraft_113 : decode cX7_takeDraft 113 = .ok (.goto (-16), 3) := by decide +kernel
theorem dX7_takeDraft_116 : decode cX7_takeDraft 116 = .ok (.iconst 0, 1) := by decide +kernel
theorem dX7_takeDraft_117 : decode cX7_takeDraft 117 = .ok (.istore_n 1, 1) := by decide +kernel
theorem dX7_takeDraft_118 : decode cX7_takeDraft 118 = .ok (.iload_n 1, 1) := by decide +kernel
theorem dX7_takeDraft_119 : decode cX7_takeDraft 119 = .ok (.bipush 9, 2) := by decide +kernel
theorem dX7_takeDraft_121 : decode cX7_takeDraft 121 = .ok (.if_icmp .ge 20, 3) := by decide +kernel
theorem dX7_takeDraft_124 : decode cX7_takeDraft 124 = .ok (.aload_n 0, 1) := by decide +kernel
theorem dX7_takeDraft_125 : decode cX7_takeDraft 125 = .ok (.getfield 41, 3) := by decide +kernel
theorem dX7_takeDraft_128 : decode cX7_takeDraft 128 = .ok (.bipush 39, 2) := by decide +kernel
theorem dX7_takeDraft_130 : decode cX7_takeDraft 130 = .ok (.iload_n 1, 1) := by decide +kernel
theorem dX7_takeDraft_131 : decode cX7_takeDraft 131 = .ok (.iadd, 1) := by decide +kernel
theorem dX7_takeDraft_132 : decode cX7_takeDraft 132 = .ok (.bipush (-4), 2) := by decide +kernel
theorem dX7_takeDraft_134 : decode cX7_takeDraft 134 = .ok (.iastore, 1) := by decide +kernel
theorem dX7_takeDraft_135 : decode cX7_takeDraft 135 = .ok (.iinc 1 1, 3) := by decide +kernel
theorem dX7_takeDraft_138 : decode cX7_takeDraft 138 = .ok (.goto (-20), 3) := by decide +kernel
theorem dX7_takeDraft_141 : decode cX7_takeDraft 141 = .ok (.aload_n 0, 1) := by decide +kernel
theorem dX7_takeDraft_142 : decode cX7_takeDraft 142 = .ok (.getfield 41, 3) := by decide +kernel
theorem dX7_takeDraft_145 : decode cX7_takeDraft 145 = .ok (.iconst 0, 1) := by decide +kernel
theorem dX7_takeDraft_146 : decode cX7_takeDraft 146 = .ok (.aload_n 0, 1) := by decide +kernel
theorem dX7_takeDraft_147 : decode cX7_takeDraft 147 = .ok (.getfield 20, 3) := by decide +kernel
theorem dX7_takeDraft_150 : decode cX7_takeDraft 150 = .ok (.iconst 1, 1) := by decide +kernel
theorem dX7_takeDraft_151 : decode cX7_takeDraft 151 = .ok (.iaload, 1) := by decide +kernel
theorem dX7_takeDraft_152 : decode cX7_takeDraft 152 = .ok (.iastore, 1) := by decide +kernel
theorem dX7_takeDraft_153 : decode cX7_takeDraft 153 = .ok (.aload_n 0, 1) := by decide +kernel
theorem dX7_takeDraft_154 : decode cX7_takeDraft 154 = .ok (.getfield 41, 3) := by decide +kernel
theorem dX7_takeDraft_157 : decode cX7_takeDraft 157 = .ok (.iconst 1, 1) := by decide +kernel
theorem dX7_takeDraft_158 : decode cX7_takeDraft 158 = .ok (.aload_n 0, 1) := by decide +kernel
theorem dX7_takeDraft_159 : decode cX7_takeDraft 159 = .ok (.getfield 23, 3) := by decide +kernel
theorem dX7_takeDraft_162 : decode cX7_takeDraft 162 = .ok (.iconst 1, 1) := by decide +kernel
theorem dX7_takeDraft_163 : decode cX7_takeDraft 163 = .ok (.iaload, 1) := by decide +kernel
theorem dX7_takeDraft_164 : decode cX7_takeDraft 164 = .ok (.iastore, 1) := by decide +kernel
theorem dX7_takeDraft_165 : decode cX7_takeDraft 165 = .ok (.aload_n 0, 1) := by decide +kernel
theorem dX7_takeDraft_166 : decode cX7_takeDraft 166 = .ok (.iconst 0, 1) := by decide +kernel
theorem dX7_takeDraft_167 : decode cX7_takeDraft 167 = .ok (.putfield 108, 3) := by decide +kernel
theorem dX7_takeDraft_170 : decode cX7_takeDraft 170 = .ok (.aload_n 0, 1) := by decide +kernel
theorem dX7_takeDraft_171 : decode cX7_takeDraft 171 = .ok (.iconst 0, 1) := by decide +kernel
theorem dX7_takeDraft_172 : decode cX7_takeDraft 172 = .ok (.putfield 111, 3) := by decide +kernel
theorem dX7_takeDraft_175 : decode cX7_takeDraft 175 = .ok (.aload_n 0, 1) := by decide +kernel
theorem dX7_takeDraft_176 : decode cX7_takeDraft 176 = .ok (.iconst 0, 1) := by decide +kernel
theorem dX7_takeDraft_177 : decode cX7_takeDraft 177 = .ok (.putfield 114, 3) := by decide +kernel
theorem dX7_takeDraft_180 : decode cX7_takeDraft 180 = .ok (.return_, 1) := by decide +kernel
theorem dX7_lay_0 : decode cX7_lay 0 = .ok (.aload_n 0, 1) := by decide +kernel
theorem dX7_lay_1 : decode cX7_lay 1 = .ok (.invokevirtual 117, 3) := by decide +kernel
theorem dX7_lay_4 : decode cX7_lay 4 = .ok (.bipush (-4), 2) := by decide +kernel
theorem dX7_lay_6 : decode cX7_lay 6 = .ok (.if_icmp .ne 12, 3) := by decide +kernel
theorem dX7_lay_9 : decode cX7_lay 9 = .ok (.aload_n 0, 1) := by decide +kernel
theorem dX7_lay_10 : decode cX7_lay 10 = .ok (.getfield 13, 3) := by decide +kernel
theorem dX7_lay_13 : decode cX7_lay 13 = .ok (.iconst 1, 1) := by decide +kernel
theorem dX7_lay_14 : decode cX7_lay 14 = .ok (.iaload, 1) := by decide +kernel
theorem dX7_lay_15 : decode cX7_lay 15 = .ok (.ifCond .ne 6, 3) := by decide +kernel
theorem dX7_lay_18 : decode cX7_lay 18 = .ok (.bipush (-2), 2) := by decide +kernel
theorem dX7_lay_20 : decode cX7_lay 20 = .ok (.ireturn, 1) := by decide +kernel
theorem dX7_lay_21 : decode cX7_lay 21 = .ok (.aload_n 0, 1) := by decide +kernel
theorem dX7_lay_22 : decode cX7_lay 22 = .ok (.invokevirtual 75, 3) := by decide +kernel
theorem dX7_lay_25 : decode cX7_lay 25 = .ok (.aload_n 0, 1) := by decide +kernel
theorem dX7_lay_26 : decode cX7_lay 26 = .ok (.getfield 13, 3) := by decide +kernel
theorem dX7_lay_29 : decode cX7_lay 29 = .ok (.iconst 0, 1) := by decide +kernel
theorem dX7_lay_30 : decode cX7_lay 30 = .ok (.iaload, 1) := by decide +kernel
theorem dX7_lay_31 : decode cX7_lay 31 = .ok (.ireturn, 1) := by decide +kernel
theorem dX7_isGuest_0 : decode cX7_isGuest 0 = .ok (.iload_n 1, 1) := by decide +kernel
theorem dX7_isGuest_1 : decode cX7_isGuest 1 = .ok (.iconst 0, 1) := by decide +kernel
theorem dX7_isGuest_2 : decode cX7_isGuest 2 = .ok (.aload_n 0, 1) := by decide +kernel
theorem dX7_isGuest_3 : decode cX7_isGuest 3 = .ok (.getfield 13, 3) := by decide +kernel
theorem dX7_isGuest_6 : decode cX7_isGuest 6 = .ok (.iconst 0, 1) := by decide +kernel
theorem dX7_isGuest_7 : decode cX7_isGuest 7 = .ok (.iaload, 1) := by decide +kernel
theorem dX7_isGuest_8 : decode cX7_isGuest 8 = .ok (.iconst 1, 1) := by decide +kernel
theorem dX7_isGuest_9 : decode cX7_isGuest 9 = .ok (.isub, 1) := by decide +kernel
theorem dX7_isGuest_10 : decode cX7_isGuest 10 = .ok (.invokestatic 78, 3) := by decide +kernel
theorem dX7_isGuest_13 : decode cX7_isGuest 13 = .ok (.ireturn, 1) := by decide +kernel
theorem dX7_takeNow_0 : decode cX7_takeNow 0 = .ok (.iconst 0, 1) := by decide +kernel
theorem dX7_takeNow_1 : decode cX7_takeNow 1 = .ok (.istore_n 1, 1) := by decide +kernel
theorem dX7_takeNow_2 : decode cX7_takeNow 2 = .ok (.iload_n 1, 1) := by decide +kernel
theorem dX7_takeNow_3 : decode cX7_takeNow 3 = .ok (.bipush 48, 2) := by decide +kernel
theorem dX7_takeNow_5 : decode cX7_takeNow 5 = .ok (.if_icmp .ge 21, 3) := by decide +kernel
theorem dX7_takeNow_8 : decode cX7_takeNow 8 = .ok (.aload_n 0, 1) := by decide +kernel
theorem dX7_takeNow_9 : decode cX7_takeNow 9 = .ok (.getfield 44, 3) := by decide +kernel
theorem dX7_takeNow_12 : decode cX7_takeNow 12 = .ok (.iload_n 1, 1) := by decide +kernel
theorem dX7_takeNow_13 : decode cX7_takeNow 13 = .ok (.aload_n 0, 1) := by decide +kernel
theorem dX7_takeNow_14 : decode cX7_takeNow 14 = .ok (.getfield 41, 3) := by decide +kernel
theorem dX7_takeNow_17 : decode cX7_takeNow 17 = .ok (.iload_n 1, 1) := by decide +kernel
theorem dX7_takeNow_18 : decode cX7_takeNow 18 = .ok (.iaload, 1) := by decide +kernel
theorem dX7_takeNow_19 : decode cX7_takeNow 19 = .ok (.iastore, 1) := by decide +kernel
theorem dX7_takeNow_20 : decode cX7_takeNow 20 = .ok (.iinc 1 1, 3) := by decide +kernel
theorem dX7_takeNow_23 : decode cX7_takeNow 23 = .ok (.goto (-21), 3) := by decide +kernel
theorem dX7_takeNow_26 : decode cX7_takeNow 26 = .ok (.return_, 1) := by decide +kernel
theorem dX7_manyIn_0 : decode cX7_manyIn 0 = .ok (.iconst 0, 1) := by decide +kernel
theorem dX7_manyIn_1 : decode cX7_manyIn 1 = .ok (.istore_n 3, 1) := by decide +kernel
theorem dX7_manyIn_2 : decode cX7_manyIn 2 = .ok (.iconst 0, 1) := by decide +kernel
theorem dX7_manyIn_3 : decode cX7_manyIn 3 = .ok (.istore 4, 2) := by decide +kernel
theorem dX7_manyIn_5 : decode cX7_manyIn 5 = .ok (.iload 4, 2) := by decide +kernel
theorem dX7_manyIn_7 : decode cX7_manyIn 7 = .ok (.aload_n 0, 1) := by decide +kernel
theorem dX7_manyIn_8 : decode cX7_manyIn 8 = .ok (.getfield 13, 3) := by decide +kernel
theorem dX7_manyIn_11 : decode cX7_manyIn 11 = .ok (.iconst 0, 1) := by decide +kernel
theorem dX7_manyIn_12 : decode cX7_manyIn 12 = .ok (.iaload, 1) := by decide +kernel
theorem dX7_manyIn_13 : decode cX7_manyIn 13 = .ok (.if_icmp .ge 27, 3) := by decide +kernel
theorem dX7_manyIn_16 : decode cX7_manyIn 16 = .ok (.iload_n 3, 1) := by decide +kernel
theorem dX7_manyIn_17 : decode cX7_manyIn 17 = .ok (.aload_n 1, 1) := by decide +kernel
theorem dX7_manyIn_18 : decode cX7_manyIn 18 = .ok (.iconst 3, 1) := by decide +kernel
theorem dX7_manyIn_19 : decode cX7_manyIn 19 = .ok (.iload 4, 2) := by decide +kernel
theorem dX7_manyIn_21 : decode cX7_manyIn 21 = .ok (.iadd, 1) := by decide +kernel
theorem dX7_manyIn_22 : decode cX7_manyIn 22 = .ok (.iaload, 1) := by decide +kernel
theorem dX7_manyIn_23 : decode cX7_manyIn 23 = .ok (.iload_n 2, 1) := by decide +kernel
theorem dX7_manyIn_24 : decode cX7_manyIn 24 = .ok (.if_icmp .ne 7, 3) := by decide +kernel
theorem dX7_manyIn_27 : decode cX7_manyIn 27 = .ok (.iconst 1, 1) := by decide +kernel
theorem dX7_manyIn_28 : decode cX7_manyIn 28 = .ok (.goto 4, 3) := by decide +kernel
theorem dX7_manyIn_31 : decode cX7_manyIn 31 = .ok (.iconst 0, 1) := by decide +kernel
theorem dX7_manyIn_32 : decode cX7_manyIn 32 = .ok (.iadd, 1) := by decide +kernel
theorem dX7_manyIn_33 : decode cX7_manyIn 33 = .ok (.istore_n 3, 1) := by decide +kernel
theorem dX7_manyIn_34 : decode cX7_manyIn 34 = .ok (.iinc 4 1, 3) := by decide +kernel
theorem dX7_manyIn_37 : decode cX7_manyIn 37 = .ok (.goto (-32), 3) := by decide +kernel
theorem dX7_manyIn_40 : decode cX7_manyIn 40 = .ok (.iload_n 3, 1) := by decide +kernel
theorem dX7_manyIn_41 : decode cX7_manyIn 41 = .ok (.ireturn, 1) := by decide +kernel
theorem dX7_isRightFor_0 : decode cX7_isRightFor 0 = .ok (.aload_n 1, 1) := by decide +kernel
theorem dX7_isRightFor_1 : decode cX7_isRightFor 1 = .ok (.bipush 30, 2) := by decide +kernel
theorem dX7_isRightFor_3 : decode cX7_isRightFor 3 = .ok (.iload_n 3, 1) := by decide +kernel
theorem dX7_isRightFor_4 : decode cX7_isRightFor 4 = .ok (.iadd, 1) := by decide +kernel
theorem dX7_isRightFor_5 : decode cX7_isRightFor 5 = .ok (.iaload, 1) := by decide +kernel
theorem dX7_isRightFor_6 : decode cX7_isRightFor 6 = .ok (.aload_n 0, 1) := by decide +kernel
theorem dX7_isRightFor_7 : decode cX7_isRightFor 7 = .ok (.getfield 32, 3) := by decide +kernel
theorem dX7_isRightFor_10 : decode cX7_isRightFor 10 = .ok (.iload_n 2, 1) := by decide +kernel
theorem dX7_isRightFor_11 : decode cX7_isRightFor 11 = .ok (.iaload, 1) := by decide +kernel
theorem dX7_isRightFor_12 : decode cX7_isRightFor 12 = .ok (.aload_n 0, 1) := by decide +kernel
theorem dX7_isRightFor_13 : decode cX7_isRightFor 13 = .ok (.getfield 35, 3) := by decide +kernel
theorem dX7_isRightFor_16 : decode cX7_isRightFor 16 = .ok (.iload_n 2, 1) := by decide +kernel
theorem dX7_isRightFor_17 : decode cX7_isRightFor 17 = .ok (.iaload, 1) := by decide +kernel
theorem dX7_isRightFor_18 : decode cX7_isRightFor 18 = .ok (.invokestatic 78, 3) := by decide +kernel
theorem dX7_isRightFor_21 : decode cX7_isRightFor 21 = .ok (.ireturn, 1) := by decide +kernel
theorem dX7_browner_0 : decode cX7_browner 0 = .ok (.iload_n 0, 1) := by decide +kernel
theorem dX7_browner_1 : decode cX7_browner 1 = .ok (.tableswitch 46 0 2 #[27, 29, 33], 27) := by decide +kernel
theorem dX7_browner_28 : decode cX7_browner 28 = .ok (.iload_n 1, 1) := by decide +kernel
theorem dX7_browner_29 : decode cX7_browner 29 = .ok (.ireturn, 1) := by decide +kernel
theorem dX7_browner_30 : decode cX7_browner 30 = .ok (.iload_n 1, 1) := by decide +kernel
theorem dX7_browner_31 : decode cX7_browner 31 = .ok (.iconst 2, 1) := by decide +kernel
theorem dX7_browner_32 : decode cX7_browner 32 = .ok (.idiv, 1) := by decide +kernel
theorem dX7_browner_33 : decode cX7_browner 33 = .ok (.ireturn, 1) := by decide +kernel
theorem dX7_browner_34 : decode cX7_browner 34 = .ok (.iload_n 1, 1) := by decide +kernel
theorem dX7_browner_35 : decode cX7_browner 35 = .ok (.iconst 3, 1) := by decide +kernel
theorem dX7_browner_36 : decode cX7_browner 36 = .ok (.if_icmp .ge 7, 3) := by decide +kernel
theorem dX7_browner_39 : decode cX7_browner 39 = .ok (.iconst 0, 1) := by decide +kernel
theorem dX7_browner_40 : decode cX7_browner 40 = .ok (.goto 6, 3) := by decide +kernel
theorem dX7_browner_43 : decode cX7_browner 43 = .ok (.iload_n 1, 1) := by decide +kernel
theorem dX7_browner_44 : decode cX7_browner 44 = .ok (.iconst 3, 1) := by decide +kernel
theorem dX7_browner_45 : decode cX7_browner 45 = .ok (.isub, 1) := by decide +kernel
theorem dX7_browner_46 : decode cX7_browner 46 = .ok (.ireturn, 1) := by decide +kernel
theorem dX7_browner_47 : decode cX7_browner 47 = .ok (.iconst 2, 1) := by decide +kernel
theorem dX7_browner_48 : decode cX7_browner 48 = .ok (.iload_n 1, 1) := by decide +kernel
theorem dX7_browner_49 : decode cX7_browner 49 = .ok (.imul, 1) := by decide +kernel
theorem dX7_browner_50 : decode cX7_browner 50 = .ok (.ireturn, 1) := by decide +kernel
theorem dX7_moment_0 : decode cX7_moment 0 = .ok (.aload_n 0, 1) := by decide +kernel
theorem dX7_moment_1 : decode cX7_moment 1 = .ok (.aload_n 1, 1) := by decide +kernel
theorem dX7_moment_2 : decode cX7_moment 2 = .ok (.iconst 1, 1) := by decide +kernel
theorem dX7_moment_3 : decode cX7_moment 3 = .ok (.invokevirtual 120, 3) := by decide +kernel
theorem dX7_moment_6 : decode cX7_moment 6 = .ok (.istore_n 2, 1) := by decide +kernel
theorem dX7_moment_7 : decode cX7_moment 7 = .ok (.iconst 0, 1) := by decide +kernel
theorem dX7_moment_8 : decode cX7_moment 8 = .ok (.istore_n 3, 1) := by decide +kernel
theorem dX7_moment_9 : decode cX7_moment 9 = .ok (.iconst 0, 1) := by decide +kernel
theorem dX7_moment_10 : decode cX7_moment 10 = .ok (.istore 4, 2) := by decide +kernel
theorem dX7_moment_12 : decode cX7_moment 12 = .ok (.iload 4, 2) := by decide +kernel
theorem dX7_moment_14 : decode cX7_moment 14 = .ok (.aload_n 0, 1) := by decide +kernel
theorem dX7_moment_15 : decode cX7_moment 15 = .ok (.getfield 13, 3) := by decide +kernel
theorem dX7_moment_18 : decode cX7_moment 18 = .ok (.iconst 0, 1) := by decide +kernel
theorem dX7_moment_19 : decode cX7_moment 19 = .ok (.iaload, 1) := by decide +kernel
theorem dX7_moment_20 : decode cX7_moment 20 = .ok (.if_icmp .ge 97, 3) := by decide +kernel
theorem dX7_moment_23 : decode cX7_moment 23 = .ok (.aload_n 1, 1) := by decide +kernel
theorem dX7_moment_24 : decode cX7_moment 24 = .ok (.iconst 3, 1) := by decide +kernel
theorem dX7_moment_25 : decode cX7_moment 25 = .ok (.iload 4, 2) := by decide +kernel
theorem dX7_moment_27 : decode cX7_moment 27 = .ok (.iadd, 1) := by decide +kernel
theorem dX7_moment_28 : decode cX7_moment 28 = .ok (.iaload, 1) := by decide +kernel
theorem dX7_moment_29 : decode cX7_moment 29 = .ok (.iconst 1, 1) := by decide +kernel
theorem dX7_moment_30 : decode cX7_moment 30 = .ok (.if_icmp .ne 81, 3) := by decide +kernel
theorem dX7_moment_33 : decode cX7_moment 33 = .ok (.aload_n 1, 1) := by decide +kernel
theorem dX7_moment_34 : decode cX7_moment 34 = .ok (.bipush 30, 2) := by decide +kernel
theorem dX7_moment_36 : decode cX7_moment 36 = .ok (.iload 4, 2) := by decide +kernel
theorem dX7_moment_38 : decode cX7_moment 38 = .ok (.iadd, 1) := by decide +kernel
theorem dX7_moment_39 : decode cX7_moment 39 = .ok (.dup2, 1) := by decide +kernel
theorem dX7_moment_40 : decode cX7_moment 40 = .ok (.iaload, 1) := by decide +kernel
theorem dX7_moment_41 : decode cX7_moment 41 = .ok (.aload_n 0, 1) := by decide +kernel
theorem dX7_moment_42 : decode cX7_moment 42 = .ok (.getfield 29, 3) := by decide +kernel
theorem dX7_moment_45 : decode cX7_moment 45 = .ok (.iload 4, 2) := by decide +kernel
theorem dX7_moment_47 : decode cX7_moment 47 = .ok (.iaload, 1) := by decide +kernel
theorem dX7_moment_48 : decode cX7_moment 48 = .ok (.aload_n 1, 1) := by decide +kernel
theorem dX7_moment_49 : decode cX7_moment 49 = .ok (.iconst 1, 1) := by decide +kernel
theorem dX7_moment_50 : decode cX7_moment 50 = .ok (.iaload, 1) := by decide +kernel
theorem dX7_moment_51 : decode cX7_moment 51 = .ok (.aload_n 1, 1) := by decide +kernel
theorem dX7_moment_52 : decode cX7_moment 52 = .ok (.bipush 12, 2) := by decide +kernel
theorem dX7_moment_54 : decode cX7_moment 54 = .ok (.iload 4, 2) := by decide +kernel
theorem dX7_moment_56 : decode cX7_moment 56 = .ok (.iadd, 1) := by decide +kernel
theorem dX7_moment_57 : decode cX7_moment 57 = .ok (.iaload, 1) := by decide +kernel
theorem dX7_moment_58 : decode cX7_moment 58 = .ok (.ifCond .ne 7, 3) := by decide +kernel
theorem dX7_moment_61 : decode cX7_moment 61 = .ok (.iconst 2, 1) := by decide +kernel
theorem dX7_moment_62 : decode cX7_moment 62 = .ok (.goto 4, 3) := by decide +kernel
theorem dX7_moment_65 : decode cX7_moment 65 = .ok (.iconst 0, 1) := by decide +kernel
theorem dX7_moment_66 : decode cX7_moment 66 = .ok (.iadd, 1) := by decide +kernel
theorem dX7_moment_67 : decode cX7_moment 67 = .ok (.invokestatic 124, 3) := by decide +kernel
theorem dX7_moment_70 : decode cX7_moment 70 = .ok (.iadd, 1) := by decide +kernel
theorem dX7_moment_71 : decode cX7_moment 71 = .ok (.iastore, 1) := by decide +kernel
theorem dX7_moment_72 : decode cX7_moment 72 = .ok (.aload_n 1, 1) := by decide +kernel
theorem dX7_moment_73 : decode cX7_moment 73 = .ok (.bipush 21, 2) := by decide +kernel
theorem dX7_moment_75 : decode cX7_moment 75 = .ok (.iload 4, 2) := by decide +kernel
theorem dX7_moment_77 : decode cX7_moment 77 = .ok (.iadd, 1) := by decide +kernel
theorem dX7_moment_78 : decode cX7_moment 78 = .ok (.dup2, 1) := by decide +kernel
theorem dX7_moment_79 : decode cX7_moment 79 = .ok (.iaload, 1) := by decide +kernel
theorem dX7_moment_80 : decode cX7_moment 80 = .ok (.aload_n 1, 1) := by decide +kernel
theorem dX7_moment_81 : decode cX7_moment 81 = .ok (.iconst 0, 1) := by decide +kernel
theorem dX7_moment_82 : decode cX7_moment 82 = .ok (.iaload, 1) := by decide +kernel
theorem dX7_moment_83 : decode cX7_moment 83 = .ok (.iadd, 1) := by decide +kernel
theorem dX7_moment_84 : decode cX7_moment 84 = .ok (.iastore, 1) := by decide +kernel
theorem dX7_moment_85 : decode cX7_moment 85 = .ok (.aload_n 1, 1) := by decide +kernel
theorem dX7_moment_86 : decode cX7_moment 86 = .ok (.bipush 21, 2) := by decide +kernel
theorem dX7_moment_88 : decode cX7_moment 88 = .ok (.iload 4, 2) := by decide +kernel
theorem dX7_moment_90 : decode cX7_moment 90 = .ok (.iadd, 1) := by decide +kernel
theorem dX7_moment_91 : decode cX7_moment 91 = .ok (.iaload, 1) := by decide +kernel
theorem dX7_moment_92 : decode cX7_moment 92 = .ok (.aload_n 0, 1) := by decide +kernel
theorem dX7_moment_93 : decode cX7_moment 93 = .ok (.getfield 17, 3) := by decide +kernel
theorem dX7_moment_96 : decode cX7_moment 96 = .ok (.iconst 0, 1) := by decide +kernel
theorem dX7_moment_97 : decode cX7_moment 97 = .ok (.iaload, 1) := by decide +kernel
theorem dX7_moment_98 : decode cX7_moment 98 = .ok (.if_icmp .lt 13, 3) := by decide +kernel
theorem dX7_moment_101 : decode cX7_moment 101 = .ok (.aload_n 1, 1) := by decide +kernel
theorem dX7_moment_102 : decode cX7_moment 102 = .ok (.iconst 3, 1) := by decide +kernel
theorem dX7_moment_103 : decode cX7_moment 103 = .ok (.iload 4, 2) := by decide +kernel
theorem dX7_moment_105 : decode cX7_moment 105 = .ok (.iadd, 1) := by decide +kernel
theorem dX7_moment_106 : decode cX7_moment 106 = .ok (.iconst 2, 1) := by decide +kernel
theorem dX7_moment_107 : decode cX7_moment 107 = .ok (.iastore, 1) := by decide +kernel
theorem dX7_moment_108 : decode cX7_moment 108 = .ok (.iinc 3 1, 3) := by decide +kernel
theorem dX7_moment_111 : decode cX7_moment 111 = .ok (.iinc 4 1, 3) := by decide +kernel
theorem dX7_moment_114 : decode cX7_moment 114 = .ok (.goto (-102), 3) := by decide +kernel
theorem dX7_moment_117 : decode cX7_moment 117 = .ok (.iload_n 2, 1) := by decide +kernel
theorem dX7_moment_118 : decode cX7_moment 118 = .ok (.ifCond .ne 29, 3) := by decide +kernel
theorem dX7_moment_121 : decode cX7_moment 121 = .ok (.aload_n 1, 1) := by decide +kernel
theorem dX7_moment_122 : decode cX7_moment 122 = .ok (.iconst 1, 1) := by decide +kernel
theorem dX7_moment_123 : decode cX7_moment 123 = .ok (.dup2, 1) := by decide +kernel
theorem dX7_moment_124 : decode cX7_moment 124 = .ok (.iaload, 1) := by decide +kernel
theorem dX7_moment_125 : decode cX7_moment 125 = .ok (.aload_n 1, 1) := by decide +kernel
theorem dX7_moment_126 : decode cX7_moment 126 = .ok (.iconst 1, 1) := by decide +kernel
theorem dX7_moment_127 : decode cX7_moment 127 = .ok (.iaload, 1) := by decide +kernel
theorem dX7_moment_128 : decode cX7_moment 128 = .ok (.aload_n 0, 1) := by decide +kernel
theorem dX7_moment_129 : decode cX7_moment 129 = .ok (.getfield 26, 3) := by decide +kernel
theorem dX7_moment_132 : decode cX7_moment 132 = .ok (.iconst 0, 1) := by decide +kernel
theorem dX7_moment_133 : decode cX7_moment 133 = .ok (.iaload, 1) := by decide +kernel
theorem dX7_moment_134 : decode cX7_moment 134 = .ok (.if_icmp .ge 7, 3) := by decide +kernel
theorem dX7_moment_137 : decode cX7_moment 137 = .ok (.iconst 1, 1) := by decide +kernel
theorem dX7_moment_138 : decode cX7_moment 138 = .ok (.goto 4, 3) := by decide +kernel
theorem dX7_moment_141 : decode cX7_moment 141 = .ok (.iconst 0, 1) := by decide +kernel
theorem dX7_moment_142 : decode cX7_moment 142 = .ok (.iadd, 1) := by decide +kernel
theorem dX7_moment_143 : decode cX7_moment 143 = .ok (.iastore, 1) := by decide +kernel
theorem dX7_moment_144 : decode cX7_moment 144 = .ok (.goto 26, 3) := by decide +kernel
theorem dX7_moment_147 : decode cX7_moment 147 = .ok (.aload_n 1, 1) := by decide +kernel
theorem dX7_moment_148 : decode cX7_moment 148 = .ok (.iconst 1, 1) := by decide +kernel
theorem dX7_moment_149 : decode cX7_moment 149 = .ok (.aload_n 1, 1) := by decide +kernel
theorem dX7_moment_150 : decode cX7_moment 150 = .ok (.iconst 1, 1) := by decide +kernel
theorem dX7_moment_151 : decode cX7_moment 151 = .ok (.iaload, 1) := by decide +kernel
theorem dX7_moment_152 : decode cX7_moment 152 = .ok (.iload_n 2, 1) := by decide +kernel
theorem dX7_moment_153 : decode cX7_moment 153 = .ok (.iconst 2, 1) := by decide +kernel
theorem dX7_moment_154 : decode cX7_moment 154 = .ok (.idiv, 1) := by decide +kernel
theorem dX7_moment_155 : decode cX7_moment 155 = .ok (.if_icmp .ge 7, 3) := by decide +kernel
theorem dX7_moment_158 : decode cX7_moment 158 = .ok (.iconst 0, 1) := by decide +kernel
theorem dX7_moment_159 : decode cX7_moment 159 = .ok (.goto 10, 3) := by decide +kernel
theorem dX7_moment_162 : decode cX7_moment 162 = .ok (.aload_n 1, 1) := by decide +kernel
theorem dX7_moment_163 : decode cX7_moment 163 = .ok (.iconst 1, 1) := by decide +kernel
theorem dX7_moment_164 : decode cX7_moment 164 = .ok (.iaload, 1) := by decide +kernel
theorem dX7_moment_165 : decode cX7_moment 165 = .ok (.iload_n 2, 1) := by decide +kernel
theorem dX7_moment_166 : decode cX7_moment 166 = .ok (.iconst 2, 1) := by decide +kernel
theorem dX7_moment_167 : decode cX7_moment 167 = .ok (.idiv, 1) := by decide +kernel
theorem dX7_moment_168 : decode cX7_moment 168 = .ok (.isub, 1) := by decide +kernel
theorem dX7_moment_169 : decode cX7_moment 169 = .ok (.iastore, 1) := by decide +kernel
theorem dX7_moment_170 : decode cX7_moment 170 = .ok (.aload_n 1, 1) := by decide +kernel
theorem dX7_moment_171 : decode cX7_moment 171 = .ok (.iconst 2, 1) := by decide +kernel
theorem dX7_moment_172 : decode cX7_moment 172 = .ok (.dup2, 1) := by decide +kernel
theorem dX7_moment_173 : decode cX7_moment 173 = .ok (.iaload, 1) := by decide +kernel
theorem dX7_moment_174 : decode cX7_moment 174 = .ok (.iconst 1, 1) := by decide +kernel
theorem dX7_moment_175 : decode cX7_moment 175 = .ok (.iadd, 1) := by decide +kernel
theorem dX7_moment_176 : decode cX7_moment 176 = .ok (.iastore, 1) := by decide +kernel
theorem dX7_moment_177 : decode cX7_moment 177 = .ok (.iload_n 3, 1) := by decide +kernel
theorem dX7_moment_178 : decode cX7_moment 178 = .ok (.ireturn, 1) := by decide +kernel
theorem dX7_isFree_0 : decode cX7_isFree 0 = .ok (.iconst 1, 1) := by decide +kernel
theorem dX7_isFree_1 : decode cX7_isFree 1 = .ok (.istore_n 3, 1) := by decide +kernel
theorem dX7_isFree_2 : decode cX7_isFree 2 = .ok (.iconst 0, 1) := by decide +kernel
theorem dX7_isFree_3 : decode cX7_isFree 3 = .ok (.istore 4, 2) := by decide +kernel
theorem dX7_isFree_5 : decode cX7_isFree 5 = .ok (.iload 4, 2) := by decide +kernel
theorem dX7_isFree_7 : decode cX7_isFree 7 = .ok (.aload_n 0, 1) := by decide +kernel
theorem dX7_isFree_8 : decode cX7_isFree 8 = .ok (.getfield 13, 3) := by decide +kernel
theorem dX7_isFree_11 : decode cX7_isFree 11 = .ok (.iconst 0, 1) := by decide +kernel
theorem dX7_isFree_12 : decode cX7_isFree 12 = .ok (.iaload, 1) := by decide +kernel
theorem dX7_isFree_13 : decode cX7_isFree 13 = .ok (.if_icmp .ge 50, 3) := by decide +kernel
theorem dX7_isFree_16 : decode cX7_isFree 16 = .ok (.iload_n 3, 1) := by decide +kernel
theorem dX7_isFree_17 : decode cX7_isFree 17 = .ok (.ifCond .eq 38, 3) := by decide +kernel
theorem dX7_isFree_20 : decode cX7_isFree 20 = .ok (.aload_n 1, 1) := by decide +kernel
theorem dX7_isFree_21 : decode cX7_isFree 21 = .ok (.iconst 3, 1) := by decide +kernel
theorem dX7_isFree_22 : decode cX7_isFree 22 = .ok (.iload 4, 2) := by decide +kernel
theorem dX7_isFree_24 : decode cX7_isFree 24 = .ok (.iadd, 1) := by decide +kernel
theorem dX7_isFree_25 : decode cX7_isFree 25 = .ok (.iaload, 1) := by decide +kernel
theorem dX7_isFree_26 : decode cX7_isFree 26 = .ok (.iconst 1, 1) := by decide +kernel
theorem dX7_isFree_27 : decode cX7_isFree 27 = .ok (.if_icmp .ne 24, 3) := by decide +kernel
theorem dX7_isFree_30 : decode cX7_isFree 30 = .ok (.aload_n 1, 1) := by decide +kernel
theorem dX7_isFree_31 : decode cX7_isFree 31 = .ok (.bipush 12, 2) := by decide +kernel
theorem dX7_isFree_33 : decode cX7_isFree 33 = .ok (.iload 4, 2) := by decide +kernel
theorem dX7_isFree_35 : decode cX7_isFree 35 = .ok (.iadd, 1) := by decide +kernel
theorem dX7_isFree_36 : decode cX7_isFree 36 = .ok (.iaload, 1) := by decide +kernel
theorem dX7_isFree_37 : decode cX7_isFree 37 = .ok (.iload_n 2, 1) := by decide +kernel
theorem dX7_isFree_38 : decode cX7_isFree 38 = .ok (.if_icmp .ne 13, 3) := by decide +kernel
theorem dX7_isFree_41 : decode cX7_isFree 41 = .ok (.aload_n 1, 1) := by decide +kernel
theorem dX7_isFree_42 : decode cX7_isFree 42 = .ok (.bipush 21, 2) := by decide +kernel
theorem dX7_isFree_44 : decode cX7_isFree 44 = .ok (.iload 4, 2) := by decide +kernel
theorem dX7_isFree_46 : decode cX7_isFree 46 = .ok (.iadd, 1) := by decide +kernel
theorem dX7_isFree_47 : decode cX7_isFree 47 = .ok (.iaload, 1) := by decide +kernel
theorem dX7_isFree_48 : decode cX7_isFree 48 = .ok (.ifCond .eq 7, 3) := by decide +kernel
theorem dX7_isFree_51 : decode cX7_isFree 51 = .ok (.iconst 1, 1) := by decide +kernel
theorem dX7_isFree_52 : decode cX7_isFree 52 = .ok (.goto 4, 3) := by decide +kernel
theorem dX7_isFree_55 : decode cX7_isFree 55 = .ok (.iconst 0, 1) := by decide +kernel
theorem dX7_isFree_56 : decode cX7_isFree 56 = .ok (.istore_n 3, 1) := by decide +kernel
theorem dX7_isFree_57 : decode cX7_isFree 57 = .ok (.iinc 4 1, 3) := by decide +kernel
theorem dX7_isFree_60 : decode cX7_isFree 60 = .ok (.goto (-55), 3) := by decide +kernel
theorem dX7_isFree_63 : decode cX7_isFree 63 = .ok (.iload_n 3, 1) := by decide +kernel
theorem dX7_isFree_64 : decode cX7_isFree 64 = .ok (.ireturn, 1) := by decide +kernel
theorem dX7_put_0 : decode cX7_put 0 = .ok (.aload_n 1, 1) := by decide +kernel
theorem dX7_put_1 : decode cX7_put 1 = .ok (.iconst 3, 1) := by decide +kernel
theorem dX7_put_2 : decode cX7_put 2 = .ok (.iload_n 2, 1) := by decide +kernel
theorem dX7_put_3 : decode cX7_put 3 = .ok (.iadd, 1) := by decide +kernel
theorem dX7_put_4 : decode cX7_put 4 = .ok (.iconst 1, 1) := by decide +kernel
theorem dX7_put_5 : decode cX7_put 5 = .ok (.iastore, 1) := by decide +kernel
theorem dX7_put_6 : decode cX7_put 6 = .ok (.aload_n 1, 1) := by decide +kernel
theorem dX7_put_7 : decode cX7_put 7 = .ok (.bipush 12, 2) := by decide +kernel
theorem dX7_put_9 : decode cX7_put 9 = .ok (.iload_n 2, 1) := by decide +kernel
theorem dX7_put_10 : decode cX7_put 10 = .ok (.iadd, 1) := by decide +kernel
theorem dX7_put_11 : decode cX7_put 11 = .ok (.iload_n 3, 1) := by decide +kernel
theorem dX7_put_12 : decode cX7_put 12 = .ok (.iastore, 1) := by decide +kernel
theorem dX7_put_13 : decode cX7_put 13 = .ok (.aload_n 1, 1) := by decide +kernel
theorem dX7_put_14 : decode cX7_put 14 = .ok (.bipush 21, 2) := by decide +kernel
theorem dX7_put_16 : decode cX7_put 16 = .ok (.iload_n 2, 1) := by decide +kernel
theorem dX7_put_17 : decode cX7_put 17 = .ok (.iadd, 1) := by decide +kernel
theorem dX7_put_18 : decode cX7_put 18 = .ok (.iconst 0, 1) := by decide +kernel
theorem dX7_put_19 : decode cX7_put 19 = .ok (.iastore, 1) := by decide +kernel
theorem dX7_put_20 : decode cX7_put 20 = .ok (.return_, 1) := by decide +kernel
theorem dX7_hasEaten_0 : decode cX7_hasEaten 0 = .ok (.iconst 0, 1) := by decide +kernel
theorem dX7_hasEaten_1 : decode cX7_hasEaten 1 = .ok (.istore_n 3, 1) := by decide +kernel
theorem dX7_hasEaten_2 : decode cX7_hasEaten 2 = .ok (.iconst 0, 1) := by decide +kernel
theorem dX7_hasEaten_3 : decode cX7_hasEaten 3 = .ok (.istore 4, 2) := by decide +kernel
theorem dX7_hasEaten_5 : decode cX7_hasEaten 5 = .ok (.iload 4, 2) := by decide +kernel
theorem dX7_hasEaten_7 : decode cX7_hasEaten 7 = .ok (.aload_n 0, 1) := by decide +kernel
theorem dX7_hasEaten_8 : decode cX7_hasEaten 8 = .ok (.getfield 13, 3) := by decide +kernel
theorem dX7_hasEaten_11 : decode cX7_hasEaten 11 = .ok (.iconst 0, 1) := by decide +kernel
theorem dX7_hasEaten_12 : decode cX7_hasEaten 12 = .ok (.iaload, 1) := by decide +kernel
theorem dX7_hasEaten_13 : decode cX7_hasEaten 13 = .ok (.if_icmp .ge 30, 3) := by decide +kernel
theorem dX7_hasEaten_16 : decode cX7_hasEaten 16 = .ok (.iload_n 3, 1) := by decide +kernel
theorem dX7_hasEaten_17 : decode cX7_hasEaten 17 = .ok (.ifCond .ne 14, 3) := by decide +kernel
theorem dX7_hasEaten_20 : decode cX7_hasEaten 20 = .ok (.aload_n 1, 1) := by decide +kernel
theorem dX7_hasEaten_21 : decode cX7_hasEaten 21 = .ok (.bipush 39, 2) := by decide +kernel
theorem dX7_hasEaten_23 : decode cX7_hasEaten 23 = .ok (.iload 4, 2) := by decide +kernel
theorem dX7_hasEaten_25 : decode cX7_hasEaten 25 = .ok (.iadd, 1) := by decide +kernel
theorem dX7_hasEaten_26 : decode cX7_hasEaten 26 = .ok (.iaload, 1) := by decide +kernel
theorem dX7_hasEaten_27 : decode cX7_hasEaten 27 = .ok (.iload_n 2, 1) := by decide +kernel
theorem dX7_hasEaten_28 : decode cX7_hasEaten 28 = .ok (.if_icmp .ne 7, 3) := by decide +kernel
theorem dX7_hasEaten_31 : decode cX7_hasEaten 31 = .ok (.iconst 1, 1) := by decide +kernel
theorem dX7_hasEaten_32 : decode cX7_hasEaten 32 = .ok (.goto 4, 3) := by decide +kernel
theorem dX7_hasEaten_35 : decode cX7_hasEaten 35 = .ok (.iconst 0, 1) := by decide +kernel
theorem dX7_hasEaten_36 : decode cX7_hasEaten 36 = .ok (.istore_n 3, 1) := by decide +kernel
theorem dX7_hasEaten_37 : decode cX7_hasEaten 37 = .ok (.iinc 4 1, 3) := by decide +kernel
theorem dX7_hasEaten_40 : decode cX7_hasEaten 40 = .ok (.goto (-35), 3) := by decide +kernel
theorem dX7_hasEaten_43 : decode cX7_hasEaten 43 = .ok (.iload_n 3, 1) := by decide +kernel
theorem dX7_hasEaten_44 : decode cX7_hasEaten 44 = .ok (.ireturn, 1) := by decide +kernel
theorem dX7_canTake_0 : decode cX7_canTake 0 = .ok (.aload_n 1, 1) := by decide +kernel
theorem dX7_canTake_1 : decode cX7_canTake 1 = .ok (.iconst 3, 1) := by decide +kernel
theorem dX7_canTake_2 : decode cX7_canTake 2 = .ok (.iload_n 3, 1) := by decide +kernel
theorem dX7_canTake_3 : decode cX7_canTake 3 = .ok (.iadd, 1) := by decide +kernel
theorem dX7_canTake_4 : decode cX7_canTake 4 = .ok (.iaload, 1) := by decide +kernel
theorem dX7_canTake_5 : decode cX7_canTake 5 = .ok (.iconst 2, 1) := by decide +kernel
theorem dX7_canTake_6 : decode cX7_canTake 6 = .ok (.if_icmp .ne 31, 3) := by decide +kernel
theorem dX7_canTake_9 : decode cX7_canTake 9 = .ok (.aload_n 0, 1) := by decide +kernel
theorem dX7_canTake_10 : decode cX7_canTake 10 = .ok (.getfield 29, 3) := by decide +kernel
theorem dX7_canTake_13 : decode cX7_canTake 13 = .ok (.iload_n 2, 1) := by decide +kernel
theorem dX7_canTake_14 : decode cX7_canTake 14 = .ok (.iaload, 1) := by decide +kernel
theorem dX7_canTake_15 : decode cX7_canTake 15 = .ok (.aload_n 0, 1) := by decide +kernel
theorem dX7_canTake_16 : decode cX7_canTake 16 = .ok (.getfield 29, 3) := by decide +kernel
theorem dX7_canTake_19 : decode cX7_canTake 19 = .ok (.iload_n 3, 1) := by decide +kernel
theorem dX7_canTake_20 : decode cX7_canTake 20 = .ok (.iaload, 1) := by decide +kernel
theorem dX7_canTake_21 : decode cX7_canTake 21 = .ok (.if_icmp .ne 16, 3) := by decide +kernel
theorem dX7_canTake_24 : decode cX7_canTake 24 = .ok (.aload_n 0, 1) := by decide +kernel
theorem dX7_canTake_25 : decode cX7_canTake 25 = .ok (.aload_n 1, 1) := by decide +kernel
theorem dX7_canTake_26 : decode cX7_canTake 26 = .ok (.iload_n 2, 1) := by decide +kernel
theorem dX7_canTake_27 : decode cX7_canTake 27 = .ok (.invokevirtual 128, 3) := by decide +kernel
theorem dX7_canTake_30 : decode cX7_canTake 30 = .ok (.ifCond .ne 7, 3) := by decide +kernel
theorem dX7_canTake_33 : decode cX7_canTake 33 = .ok (.iconst 1, 1) := by decide +kernel
theorem dX7_canTake_34 : decode cX7_canTake 34 = .ok (.goto 4, 3) := by decide +kernel
theorem dX7_canTake_37 : decode cX7_canTake 37 = .ok (.iconst 0, 1) := by decide +kernel
theorem dX7_canTake_38 : decode cX7_canTake 38 = .ok (.ireturn, 1) := by decide +kernel
theorem dX7_eat_0 : decode cX7_eat 0 = .ok (.aload_n 1, 1) := by decide +kernel
theorem dX7_eat_1 : decode cX7_eat 1 = .ok (.iconst 3, 1) := by decide +kernel
theorem dX7_eat_2 : decode cX7_eat 2 = .ok (.iload_n 3, 1) := by decide +kernel
theorem dX7_eat_3 : decode cX7_eat 3 = .ok (.iadd, 1) := by decide +kernel
theorem dX7_eat_4 : decode cX7_eat 4 = .ok (.iconst 3, 1) := by decide +kernel
theorem dX7_eat_5 : decode cX7_eat 5 = .ok (.iastore, 1) := by decide +kernel
theorem dX7_eat_6 : decode cX7_eat 6 = .ok (.aload_n 1, 1) := by decide +kernel
theorem dX7_eat_7 : decode cX7_eat 7 = .ok (.bipush 39, 2) := by decide +kernel
theorem dX7_eat_9 : decode cX7_eat 9 = .ok (.iload_n 3, 1) := by decide +kernel
theorem dX7_eat_10 : decode cX7_eat 10 = .ok (.iadd, 1) := by decide +kernel
theorem dX7_eat_11 : decode cX7_eat 11 = .ok (.iload_n 2, 1) := by decide +kernel
theorem dX7_eat_12 : decode cX7_eat 12 = .ok (.iastore, 1) := by decide +kernel
theorem dX7_eat_13 : decode cX7_eat 13 = .ok (.return_, 1) := by decide +kernel
theorem dX7_guest_0 : decode cX7_guest 0 = .ok (.aload_n 0, 1) := by decide +kernel
theorem dX7_guest_1 : decode cX7_guest 1 = .ok (.iload_n 1, 1) := by decide +kernel
theorem dX7_guest_2 : decode cX7_guest 2 = .ok (.invokevirtual 132, 3) := by decide +kernel
theorem dX7_guest_5 : decode cX7_guest 5 = .ok (.ifCond .eq 12, 3) := by decide +kernel
theorem dX7_guest_8 : decode cX7_guest 8 = .ok (.iload_n 2, 1) := by decide +kernel
theorem dX7_guest_9 : decode cX7_guest 9 = .ok (.iconst 0, 1) := by decide +kernel
theorem dX7_guest_10 : decode cX7_guest 10 = .ok (.iconst 3, 1) := by decide +kernel
theorem dX7_guest_11 : decode cX7_guest 11 = .ok (.invokestatic 78, 3) := by decide +kernel
theorem dX7_guest_14 : decode cX7_guest 14 = .ok (.ifCond .ne 5, 3) := by decide +kernel
theorem dX7_guest_17 : decode cX7_guest 17 = .ok (.iconst (-1), 1) := by decide +kernel
theorem dX7_guest_18 : decode cX7_guest 18 = .ok (.ireturn, 1) := by decide +kernel
theorem dX7_guest_19 : decode cX7_guest 19 = .ok (.bipush (-4), 2) := by decide +kernel
theorem dX7_guest_21 : decode cX7_guest 21 = .ok (.istore_n 3, 1) := by decide +kernel
theorem dX7_guest_22 : decode cX7_guest 22 = .ok (.iconst 0, 1) := by decide +kernel
theorem dX7_guest_23 : decode cX7_guest 23 = .ok (.istore 4, 2) := by decide +kernel
theorem dX7_guest_25 : decode cX7_guest 25 = .ok (.iload 4, 2) := by decide +kernel
theorem dX7_guest_27 : decode cX7_guest 27 = .ok (.aload_n 0, 1) := by decide +kernel
theorem dX7_guest_28 : decode cX7_guest 28 = .ok (.getfield 13, 3) := by decide +kernel
theorem dX7_guest_31 : decode cX7_guest 31 = .ok (.iconst 0, 1) := by decide +kernel
theorem dX7_guest_32 : decode cX7_guest 32 = .ok (.iaload, 1) := by decide +kernel
theorem dX7_guest_33 : decode cX7_guest 33 = .ok (.if_icmp .ge 30, 3) := by decide +kernel
theorem dX7_guest_36 : decode cX7_guest 36 = .ok (.aload_n 0, 1) := by decide +kernel
theorem dX7_guest_37 : decode cX7_guest 37 = .ok (.getfield 41, 3) := by decide +kernel
theorem dX7_guest_40 : decode cX7_guest 40 = .ok (.bipush 39, 2) := by decide +kernel
theorem dX7_guest_42 : decode cX7_guest 42 = .ok (.iload 4, 2) := by decide +kernel
theorem dX7_guest_44 : decode cX7_guest 44 = .ok (.iadd, 1) := by decide +kernel
theorem dX7_guest_45 : decode cX7_guest 45 = .ok (.iaload, 1) := by decide +kernel
theorem dX7_guest_46 : decode cX7_guest 46 = .ok (.iload_n 1, 1) := by decide +kernel
theorem dX7_guest_47 : decode cX7_guest 47 = .ok (.if_icmp .ne 8, 3) := by decide +kernel
theorem dX7_guest_50 : decode cX7_guest 50 = .ok (.iload 4, 2) := by decide +kernel
theorem dX7_guest_52 : decode cX7_guest 52 = .ok (.goto 4, 3) := by decide +kernel
theorem dX7_guest_55 : decode cX7_guest 55 = .ok (.iload_n 3, 1) := by decide +kernel
theorem dX7_guest_56 : decode cX7_guest 56 = .ok (.istore_n 3, 1) := by decide +kernel
theorem dX7_guest_57 : decode cX7_guest 57 = .ok (.iinc 4 1, 3) := by decide +kernel
theorem dX7_guest_60 : decode cX7_guest 60 = .ok (.goto (-35), 3) := by decide +kernel
theorem dX7_guest_63 : decode cX7_guest 63 = .ok (.iload_n 2, 1) := by decide +kernel
theorem dX7_guest_64 : decode cX7_guest 64 = .ok (.ifCond .ne 12, 3) := by decide +kernel
theorem dX7_guest_67 : decode cX7_guest 67 = .ok (.aload_n 0, 1) := by decide +kernel
theorem dX7_guest_68 : decode cX7_guest 68 = .ok (.getfield 29, 3) := by decide +kernel
theorem dX7_guest_71 : decode cX7_guest 71 = .ok (.iload_n 1, 1) := by decide +kernel
theorem dX7_guest_72 : decode cX7_guest 72 = .ok (.iaload, 1) := by decide +kernel
theorem dX7_guest_73 : decode cX7_guest 73 = .ok (.goto 32, 3) := by decide +kernel
theorem dX7_guest_76 : decode cX7_guest 76 = .ok (.iload_n 2, 1) := by decide +kernel
theorem dX7_guest_77 : decode cX7_guest 77 = .ok (.iconst 1, 1) := by decide +kernel
theorem dX7_guest_78 : decode cX7_guest 78 = .ok (.if_icmp .ne 12, 3) := by decide +kernel
theorem dX7_guest_81 : decode cX7_guest 81 = .ok (.aload_n 0, 1) := by decide +kernel
theorem dX7_guest_82 : decode cX7_guest 82 = .ok (.getfield 32, 3) := by decide +kernel
theorem dX7_guest_85 : decode cX7_guest 85 = .ok (.iload_n 1, 1) := by decide +kernel
theorem dX7_guest_86 : decode cX7_guest 86 = .ok (.iaload, 1) := by decide +kernel
theorem dX7_guest_87 : decode cX7_guest 87 = .ok (.goto 18, 3) := by decide +kernel
theorem dX7_guest_90 : decode cX7_guest 90 = .ok (.iload_n 2, 1) := by decide +kernel
theorem dX7_guest_91 : decode cX7_guest 91 = .ok (.iconst 2, 1) := by decide +kernel
theorem dX7_guest_92 : decode cX7_guest 92 = .ok (.if_icmp .ne 12, 3) := by decide +kernel
theorem dX7_guest_95 : decode cX7_guest 95 = .ok (.aload_n 0, 1) := by decide +kernel
theorem dX7_guest_96 : decode cX7_guest 96 = .ok (.getfield 35, 3) := by decide +kernel
theorem dX7_guest_99 : decode cX7_guest 99 = .ok (.iload_n 1, 1) := by decide +kernel
theorem dX7_guest_100 : decode cX7_guest 100 = .ok (.iaload, 1) := by decide +kernel
theorem dX7_guest_101 : decode cX7_guest 101 = .ok (.goto 4, 3) := by decide +kernel
theorem dX7_guest_104 : decode cX7_guest 104 = .ok (.iload_n 3, 1) := by decide +kernel
theorem dX7_guest_105 : decode cX7_guest 105 = .ok (.ireturn, 1) := by decide +kernel
theorem dX7_slice_0 : decode cX7_slice 0 = .ok (.aload_n 0, 1) := by decide +kernel
theorem dX7_slice_1 : decode cX7_slice 1 = .ok (.iload_n 1, 1) := by decide +kernel
theorem dX7_slice_2 : decode cX7_slice 2 = .ok (.invokevirtual 132, 3) := by decide +kernel
theorem dX7_slice_5 : decode cX7_slice 5 = .ok (.ifCond .ne 5, 3) := by decide +kernel
theorem dX7_slice_8 : decode cX7_slice 8 = .ok (.iconst (-1), 1) := by decide +kernel
theorem dX7_slice_9 : decode cX7_slice 9 = .ok (.ireturn, 1) := by decide +kernel
theorem dX7_slice_10 : decode cX7_slice 10 = .ok (.aload_n 0, 1) := by decide +kernel
theorem dX7_slice_11 : decode cX7_slice 11 = .ok (.getfield 41, 3) := by decide +kernel
theorem dX7_slice_14 : decode cX7_slice 14 = .ok (.iconst 3, 1) := by decide +kernel
theorem dX7_slice_15 : decode cX7_slice 15 = .ok (.iload_n 1, 1) := by decide +kernel
theorem dX7_slice_16 : decode cX7_slice 16 = .ok (.iadd, 1) := by decide +kernel
theorem dX7_slice_17 : decode cX7_slice 17 = .ok (.iaload, 1) := by decide +kernel
theorem dX7_slice_18 : decode cX7_slice 18 = .ok (.iconst 1, 1) := by decide +kernel
theorem dX7_slice_19 : decode cX7_slice 19 = .ok (.if_icmp .ne 7, 3) := by decide +kernel
theorem dX7_slice_22 : decode cX7_slice 22 = .ok (.iconst 1, 1) := by decide +kernel
theorem dX7_slice_23 : decode cX7_slice 23 = .ok (.goto 4, 3) := by decide +kernel
theorem dX7_slice_26 : decode cX7_slice 26 = .ok (.iconst 0, 1) := by decide +kernel
theorem dX7_slice_27 : decode cX7_slice 27 = .ok (.istore_n 3, 1) := by decide +kernel
theorem dX7_slice_28 : decode cX7_slice 28 = .ok (.iload_n 2, 1) := by decide +kernel
theorem dX7_slice_29 : decode cX7_slice 29 = .ok (.tableswitch 125 0 5 #[39, 48, 67, 86, 96, 106], 39) := by decide +kernel
theorem dX7_slice_68 : decode cX7_slice 68 = .ok (.aload_n 0, 1) := by decide +kernel
theorem dX7_slice_69 : decode cX7_slice 69 = .ok (.getfield 41, 3) := by decide +kernel
theorem dX7_slice_72 : decode cX7_slice 72 = .ok (.iconst 3, 1) := by decide +kernel
theorem dX7_slice_73 : decode cX7_slice 73 = .ok (.iload_n 1, 1) := by decide +kernel
theorem dX7_slice_74 : decode cX7_slice 74 = .ok (.iadd, 1) := by decide +kernel
theorem dX7_slice_75 : decode cX7_slice 75 = .ok (.iaload, 1) := by decide +kernel
theorem dX7_slice_76 : decode cX7_slice 76 = .ok (.ireturn, 1) := by decide +kernel
theorem dX7_slice_77 : decode cX7_slice 77 = .ok (.iload_n 3, 1) := by decide +kernel
theorem dX7_slice_78 : decode cX7_slice 78 = .ok (.ifCond .eq 15, 3) := by decide +kernel
theorem dX7_slice_81 : decode cX7_slice 81 = .ok (.aload_n 0, 1) := by decide +kernel
theorem dX7_slice_82 : decode cX7_slice 82 = .ok (.getfield 41, 3) := by decide +kernel
theorem dX7_slice_85 : decode cX7_slice 85 = .ok (.bipush 12, 2) := by decide +kernel
theorem dX7_slice_87 : decode cX7_slice 87 = .ok (.iload_n 1, 1) := by decide +kernel
theorem dX7_slice_88 : decode cX7_slice 88 = .ok (.iadd, 1) := by decide +kernel
theorem dX7_slice_89 : decode cX7_slice 89 = .ok (.iaload, 1) := by decide +kernel
theorem dX7_slice_90 : decode cX7_slice 90 = .ok (.goto 5, 3) := by decide +kernel
theorem dX7_slice_93 : decode cX7_slice 93 = .ok (.bipush (-4), 2) := by decide +kernel
theorem dX7_slice_95 : decode cX7_slice 95 = .ok (.ireturn, 1) := by decide +kernel
theorem dX7_slice_96 : decode cX7_slice 96 = .ok (.iload_n 3, 1) := by decide +kernel
theorem dX7_slice_97 : decode cX7_slice 97 = .ok (.ifCond .eq 15, 3) := by decide +kernel
theorem dX7_slice_100 : decode cX7_slice 100 = .ok (.aload_n 0, 1) := by decide +kernel
theorem dX7_slice_101 : decode cX7_slice 101 = .ok (.getfield 41, 3) := by decide +kernel
theorem dX7_slice_104 : decode cX7_slice 104 = .ok (.bipush 21, 2) := by decide +kernel
theorem dX7_slice_106 : decode cX7_slice 106 = .ok (.iload_n 1, 1) := by decide +kernel
theorem dX7_slice_107 : decode cX7_slice 107 = .ok (.iadd, 1) := by decide +kernel
theorem dX7_slice_108 : decode cX7_slice 108 = .ok (.iaload, 1) := by decide +kernel
theorem dX7_slice_109 : decode cX7_slice 109 = .ok (.goto 5, 3) := by decide +kernel
theorem dX7_slice_112 : decode cX7_slice 112 = .ok (.bipush (-4), 2) := by decide +kernel
theorem dX7_slice_114 : decode cX7_slice 114 = .ok (.ireturn, 1) := by decide +kernel
theorem dX7_slice_115 : decode cX7_slice 115 = .ok (.aload_n 0, 1) := by decide +kernel
theorem dX7_slice_116 : decode cX7_slice 116 = .ok (.getfield 41, 3) := by decide +kernel
theorem dX7_slice_119 : decode cX7_slice 119 = .ok (.bipush 30, 2) := by decide +kernel
theorem dX7_slice_121 : decode cX7_slice 121 = .ok (.iload_n 1, 1) := by decide +kernel
theorem dX7_slice_122 : decode cX7_slice 122 = .ok (.iadd, 1) := by decide +kernel
theorem dX7_slice_123 : decode cX7_slice 123 = .ok (.iaload, 1) := by decide +kernel
theorem dX7_slice_124 : decode cX7_slice 124 = .ok (.ireturn, 1) := by decide +kernel
theorem dX7_slice_125 : decode cX7_slice 125 = .ok (.aload_n 0, 1) := by decide +kernel
theorem dX7_slice_126 : decode cX7_slice 126 = .ok (.getfield 41, 3) := by decide +kernel
theorem dX7_slice_129 : decode cX7_slice 129 = .ok (.bipush 39, 2) := by decide +kernel
theorem dX7_slice_131 : decode cX7_slice 131 = .ok (.iload_n 1, 1) := by decide +kernel
theorem dX7_slice_132 : decode cX7_slice 132 = .ok (.iadd, 1) := by decide +kernel
theorem dX7_slice_133 : decode cX7_slice 133 = .ok (.iaload, 1) := by decide +kernel
theorem dX7_slice_134 : decode cX7_slice 134 = .ok (.ireturn, 1) := by decide +kernel
theorem dX7_slice_135 : decode cX7_slice 135 = .ok (.aload_n 0, 1) := by decide +kernel
theorem dX7_slice_136 : decode cX7_slice 136 = .ok (.aload_n 0, 1) := by decide +kernel
theorem dX7_slice_137 : decode cX7_slice 137 = .ok (.getfield 41, 3) := by decide +kernel
theorem dX7_slice_140 : decode cX7_slice 140 = .ok (.iload_n 1, 1) := by decide +kernel
theorem dX7_slice_141 : decode cX7_slice 141 = .ok (.iload_n 1, 1) := by decide +kernel
theorem dX7_slice_142 : decode cX7_slice 142 = .ok (.invokevirtual 136, 3) := by decide +kernel
theorem dX7_slice_145 : decode cX7_slice 145 = .ok (.ifCond .eq 7, 3) := by decide +kernel
theorem dX7_slice_148 : decode cX7_slice 148 = .ok (.iconst 1, 1) := by decide +kernel
theorem dX7_slice_149 : decode cX7_slice 149 = .ok (.goto 4, 3) := by decide +kernel
theorem dX7_slice_152 : decode cX7_slice 152 = .ok (.iconst 0, 1) := by decide +kernel
theorem dX7_slice_153 : decode cX7_slice 153 = .ok (.ireturn, 1) := by decide +kernel
theorem dX7_slice_154 : decode cX7_slice 154 = .ok (.iconst (-1), 1) := by decide +kernel
theorem dX7_slice_155 : decode cX7_slice 155 = .ok (.ireturn, 1) := by decide +kernel
theorem dX7_know_0 : decode cX7_know 0 = .ok (.aload_n 0, 1) := by decide +kernel
theorem dX7_know_1 : decode cX7_know 1 = .ok (.getfield 108, 3) := by decide +kernel
theorem dX7_know_4 : decode cX7_know 4 = .ok (.bipush 8, 2) := by decide +kernel
theorem dX7_know_6 : decode cX7_know 6 = .ok (.if_icmp .ne 43, 3) := by decide +kernel
theorem dX7_know_9 : decode cX7_know 9 = .ok (.iconst 0, 1) := by decide +kernel
theorem dX7_know_10 : decode cX7_know 10 = .ok (.istore_n 1, 1) := by decide +kernel
theorem dX7_know_11 : decode cX7_know 11 = .ok (.iload_n 1, 1) := by decide +kernel
theorem dX7_know_12 : decode cX7_know 12 = .ok (.sipush 336, 3) := by decide +kernel
theorem dX7_know_15 : decode cX7_know 15 = .ok (.if_icmp .ge 24, 3) := by decide +kernel
theorem dX7_know_18 : decode cX7_know 18 = .ok (.aload_n 0, 1) := by decide +kernel
theorem dX7_know_19 : decode cX7_know 19 = .ok (.getfield 47, 3) := by decide +kernel
theorem dX7_know_22 : decode cX7_know 22 = .ok (.iload_n 1, 1) := by decide +kernel
theorem dX7_know_23 : decode cX7_know 23 = .ok (.aload_n 0, 1) := by decide +kernel
theorem dX7_know_24 : decode cX7_know 24 = .ok (.getfield 47, 3) := by decide +kernel
theorem dX7_know_27 : decode cX7_know 27 = .ok (.bipush 48, 2) := by decide +kernel
theorem dX7_know_29 : decode cX7_know 29 = .ok (.iload_n 1, 1) := by decide +kernel
theorem dX7_know_30 : decode cX7_know 30 = .ok (.iadd, 1) := by decide +kernel
theorem dX7_know_31 : decode cX7_know 31 = .ok (.iaload, 1) := by decide +kernel
theorem dX7_know_32 : decode cX7_know 32 = .ok (.iastore, 1) := by decide +kernel
theorem dX7_know_33 : decode cX7_know 33 = .ok (.iinc 1 1, 3) := by decide +kernel
theorem dX7_know_36 : decode cX7_know 36 = .ok (.goto (-25), 3) := by decide +kernel
theorem dX7_know_39 : decode cX7_know 39 = .ok (.aload_n 0, 1) := by decide +kernel
theorem dX7_know_40 : decode cX7_know 40 = .ok (.dup, 1) := by decide +kernel
theorem dX7_know_41 : decode cX7_know 41 = .ok (.getfield 108, 3) := by decide +kernel
theorem dX7_know_44 : decode cX7_know 44 = .ok (.iconst 1, 1) := by decide +kernel
theorem dX7_know_45 : decode cX7_know 45 = .ok (.isub, 1) := by decide +kernel
theorem dX7_know_46 : decode cX7_know 46 = .ok (.putfield 108, 3) := by decide +kernel
theorem dX7_know_49 : decode cX7_know 49 = .ok (.iconst 0, 1) := by decide +kernel
theorem dX7_know_50 : decode cX7_know 50 = .ok (.istore_n 1, 1) := by decide +kernel
theorem dX7_know_51 : decode cX7_know 51 = .ok (.iload_n 1, 1) := by decide +kernel
theorem dX7_know_52 : decode cX7_know 52 = .ok (.bipush 48, 2) := by decide +kernel
theorem dX7_know_54 : decode cX7_know 54 = .ok (.if_icmp .ge 29, 3) := by decide +kernel
theorem dX7_know_57 : decode cX7_know 57 = .ok (.aload_n 0, 1) := by decide +kernel
theorem dX7_know_58 : decode cX7_know 58 = .ok (.getfield 47, 3) := by decide +kernel
theorem dX7_know_61 : decode cX7_know 61 = .ok (.bipush 48, 2) := by decide +kernel
theorem dX7_know_63 : decode cX7_know 63 = .ok (.aload_n 0, 1) := by decide +kernel
theorem dX7_know_64 : decode cX7_know 64 = .ok (.getfield 108, 3) := by decide +kernel
theorem dX7_know_67 : decode cX7_know 67 = .ok (.imul, 1) := by decide +kernel
theorem dX7_know_68 : decode cX7_know 68 = .ok (.iload_n 1, 1) := by decide +kernel
theorem dX7_know_69 : decode cX7_know 69 = .ok (.iadd, 1) := by decide +kernel
theorem dX7_know_70 : decode cX7_know 70 = .ok (.aload_n 0, 1) := by decide +kernel
theorem dX7_know_71 : decode cX7_know 71 = .ok (.getfield 41, 3) := by decide +kernel
theorem dX7_know_74 : decode cX7_know 74 = .ok (.iload_n 1, 1) := by decide +kernel
theorem dX7_know_75 : decode cX7_know 75 = .ok (.iaload, 1) := by decide +kernel
theorem dX7_know_76 : decode cX7_know 76 = .ok (.iastore, 1) := by decide +kernel
theorem dX7_know_77 : decode cX7_know 77 = .ok (.iinc 1 1, 3) := by decide +kernel
theorem dX7_know_80 : decode cX7_know 80 = .ok (.goto (-29), 3) := by decide +kernel
theorem dX7_know_83 : decode cX7_know 83 = .ok (.aload_n 0, 1) := by decide +kernel
theorem dX7_know_84 : decode cX7_know 84 = .ok (.dup, 1) := by decide +kernel
theorem dX7_know_85 : decode cX7_know 85 = .ok (.getfield 108, 3) := by decide +kernel
theorem dX7_know_88 : decode cX7_know 88 = .ok (.iconst 1, 1) := by decide +kernel
theorem dX7_know_89 : decode cX7_know 89 = .ok (.iadd, 1) := by decide +kernel
theorem dX7_know_90 : decode cX7_know 90 = .ok (.putfield 108, 3) := by decide +kernel
theorem dX7_know_93 : decode cX7_know 93 = .ok (.return_, 1) := by decide +kernel
theorem dX7_isLane_0 : decode cX7_isLane 0 = .ok (.iload_n 0, 1) := by decide +kernel
theorem dX7_isLane_1 : decode cX7_isLane 1 = .ok (.iconst 0, 1) := by decide +kernel
theorem dX7_isLane_2 : decode cX7_isLane 2 = .ok (.iconst 1, 1) := by decide +kernel
theorem dX7_isLane_3 : decode cX7_isLane 3 = .ok (.invokestatic 78, 3) := by decide +kernel
theorem dX7_isLane_6 : decode cX7_isLane 6 = .ok (.ireturn, 1) := by decide +kernel
theorem dX7_isLoose_0 : decode cX7_isLoose 0 = .ok (.aload_n 0, 1) := by decide +kernel
theorem dX7_isLoose_1 : decode cX7_isLoose 1 = .ok (.getfield 41, 3) := by decide +kernel
theorem dX7_isLoose_4 : decode cX7_isLoose 4 = .ok (.iconst 3, 1) := by decide +kernel
theorem dX7_isLoose_5 : decode cX7_isLoose 5 = .ok (.iload_n 1, 1) := by decide +kernel
theorem dX7_isLoose_6 : decode cX7_isLoose 6 = .ok (.iadd, 1) := by decide +kernel
theorem dX7_isLoose_7 : decode cX7_isLoose 7 = .ok (.iaload, 1) := by decide +kernel
theorem dX7_isLoose_8 : decode cX7_isLoose 8 = .ok (.ifCond .eq 15, 3) := by decide +kernel
theorem dX7_isLoose_11 : decode cX7_isLoose 11 = .ok (.aload_n 0, 1) := by decide +kernel
theorem dX7_isLoose_12 : decode cX7_isLoose 12 = .ok (.getfield 41, 3) := by decide +kernel
theorem dX7_isLoose_15 : decode cX7_isLoose 15 = .ok (.iconst 3, 1) := by decide +kernel
theorem dX7_isLoose_16 : decode cX7_isLoose 16 = .ok (.iload_n 1, 1) := by decide +kernel
theorem dX7_isLoose_17 : decode cX7_isLoose 17 = .ok (.iadd, 1) := by decide +kernel
theorem dX7_isLoose_18 : decode cX7_isLoose 18 = .ok (.iaload, 1) := by decide +kernel
theorem dX7_isLoose_19 : decode cX7_isLoose 19 = .ok (.iconst 2, 1) := by decide +kernel
theorem dX7_isLoose_20 : decode cX7_isLoose 20 = .ok (.if_icmp .ne 7, 3) := by decide +kernel
theorem dX7_isLoose_23 : decode cX7_isLoose 23 = .ok (.iconst 1, 1) := by decide +kernel
theorem dX7_isLoose_24 : decode cX7_isLoose 24 = .ok (.goto 4, 3) := by decide +kernel
theorem dX7_isLoose_27 : decode cX7_isLoose 27 = .ok (.iconst 0, 1) := by decide +kernel
theorem dX7_isLoose_28 : decode cX7_isLoose 28 = .ok (.ireturn, 1) := by decide +kernel
theorem dX7_putIn_0 : decode cX7_putIn 0 = .ok (.aload_n 0, 1) := by decide +kernel
theorem dX7_putIn_1 : decode cX7_putIn 1 = .ok (.iload_n 1, 1) := by decide +kernel
theorem dX7_putIn_2 : decode cX7_putIn 2 = .ok (.invokevirtual 132, 3) := by decide +kernel
theorem dX7_putIn_5 : decode cX7_putIn 5 = .ok (.ifCond .eq 10, 3) := by decide +kernel
theorem dX7_putIn_8 : decode cX7_putIn 8 = .ok (.iload_n 2, 1) := by decide +kernel
theorem dX7_putIn_9 : decode cX7_putIn 9 = .ok (.invokestatic 140, 3) := by decide +kernel
theorem dX7_putIn_12 : decode cX7_putIn 12 = .ok (.ifCond .ne 5, 3) := by decide +kernel
theorem dX7_putIn_15 : decode cX7_putIn 15 = .ok (.iconst (-1), 1) := by decide +kernel
theorem dX7_putIn_16 : decode cX7_putIn 16 = .ok (.ireturn, 1) := by decide +kernel
theorem dX7_putIn_17 : decode cX7_putIn 17 = .ok (.aload_n 0, 1) := by decide +kernel
theorem dX7_putIn_18 : decode cX7_putIn 18 = .ok (.iload_n 1, 1) := by decide +kernel
theorem dX7_putIn_19 : decode cX7_putIn 19 = .ok (.invokevirtual 143, 3) := by decide +kernel
theorem dX7_putIn_22 : decode cX7_putIn 22 = .ok (.ifCond .eq 15, 3) := by decide +kernel
theorem dX7_putIn_25 : decode cX7_putIn 25 = .ok (.aload_n 0, 1) := by decide +kernel
theorem dX7_putIn_26 : decode cX7_putIn 26 = .ok (.aload_n 0, 1) := by decide +kernel
theorem dX7_putIn_27 : decode cX7_putIn 27 = .ok (.getfield 41, 3) := by decide +kernel
theorem dX7_putIn_30 : decode cX7_putIn 30 = .ok (.iload_n 2, 1) := by decide +kernel
theorem dX7_putIn_31 : decode cX7_putIn 31 = .ok (.invokevirtual 146, 3) := by decide +kernel
theorem dX7_putIn_34 : decode cX7_putIn 34 = .ok (.ifCond .ne 6, 3) := by decide +kernel
theorem dX7_putIn_37 : decode cX7_putIn 37 = .ok (.bipush (-2), 2) := by decide +kernel
theorem dX7_putIn_39 : decode cX7_putIn 39 = .ok (.ireturn, 1) := by decide +kernel
theorem dX7_putIn_40 : decode cX7_putIn 40 = .ok (.aload_n 0, 1) := by decide +kernel
theorem dX7_putIn_41 : decode cX7_putIn 41 = .ok (.invokevirtual 149, 3) := by decide +kernel
theorem dX7_putIn_44 : decode cX7_putIn 44 = .ok (.aload_n 0, 1) := by decide +kernel
theorem dX7_putIn_45 : decode cX7_putIn 45 = .ok (.aload_n 0, 1) := by decide +kernel
theorem dX7_putIn_46 : decode cX7_putIn 46 = .ok (.getfield 41, 3) := by decide +kernel
theorem dX7_putIn_49 : decode cX7_putIn 49 = .ok (.iload_n 1, 1) := by decide +kernel
theorem dX7_putIn_50 : decode cX7_putIn 50 = .ok (.iload_n 2, 1) := by decide +kernel
theorem dX7_putIn_51 : decode cX7_putIn 51 = .ok (.invokevirtual 152, 3) := by decide +kernel
theorem dX7_putIn_54 : decode cX7_putIn 54 = .ok (.aload_n 0, 1) := by decide +kernel
theorem dX7_putIn_55 : decode cX7_putIn 55 = .ok (.aload_n 0, 1) := by decide +kernel
theorem dX7_putIn_56 : decode cX7_putIn 56 = .ok (.getfield 41, 3) := by decide +kernel
theorem dX7_putIn_59 : decode cX7_putIn 59 = .ok (.iconst 1, 1) := by decide +kernel
theorem dX7_putIn_60 : decode cX7_putIn 60 = .ok (.invokevirtual 120, 3) := by decide +kernel
theorem dX7_putIn_63 : decode cX7_putIn 63 = .ok (.ireturn, 1) := by decide +kernel
theorem dX7_pass_0 : decode cX7_pass 0 = .ok (.iload_n 1, 1) := by decide +kernel
theorem dX7_pass_1 : decode cX7_pass 1 = .ok (.iconst 1, 1) := by decide +kernel
theorem dX7_pass_2 : decode cX7_pass 2 = .ok (.bipush 60, 2) := by decide +kernel
theorem dX7_pass_4 : decode cX7_pass 4 = .ok (.invokestatic 78, 3) := by decide +kernel
theorem dX7_pass_7 : decode cX7_pass 7 = .ok (.ifCond .ne 5, 3) := by decide +kernel
theorem dX7_pass_10 : decode cX7_pass 10 = .ok (.iconst (-1), 1) := by decide +kernel
theorem dX7_pass_11 : decode cX7_pass 11 = .ok (.ireturn, 1) := by decide +kernel
theorem dX7_pass_12 : decode cX7_pass 12 = .ok (.aload_n 0, 1) := by decide +kernel
theorem dX7_pass_13 : decode cX7_pass 13 = .ok (.getfield 41, 3) := by decide +kernel
theorem dX7_pass_16 : decode cX7_pass 16 = .ok (.iconst 2, 1) := by decide +kernel
theorem dX7_pass_17 : decode cX7_pass 17 = .ok (.iaload, 1) := by decide +kernel
theorem dX7_pass_18 : decode cX7_pass 18 = .ok (.iload_n 1, 1) := by decide +kernel
theorem dX7_pass_19 : decode cX7_pass 19 = .ok (.iadd, 1) := by decide +kernel
theorem dX7_pass_20 : decode cX7_pass 20 = .ok (.sipush 999, 3) := by decide +kernel
theorem dX7_pass_23 : decode cX7_pass 23 = .ok (.if_icmp .le 6, 3) := by decide +kernel
theorem dX7_pass_26 : decode cX7_pass 26 = .ok (.bipush (-2), 2) := by decide +kernel
theorem dX7_pass_28 : decode cX7_pass 28 = .ok (.ireturn, 1) := by decide +kernel
theorem dX7_pass_29 : decode cX7_pass 29 = .ok (.aload_n 0, 1) := by decide +kernel
theorem dX7_pass_30 : decode cX7_pass 30 = .ok (.invokevirtual 149, 3) := by decide +kernel
theorem dX7_pass_33 : decode cX7_pass 33 = .ok (.iconst 0, 1) := by decide +kernel
theorem dX7_pass_34 : decode cX7_pass 34 = .ok (.istore_n 2, 1) := by decide +kernel
theorem dX7_pass_35 : decode cX7_pass 35 = .ok (.iconst 0, 1) := by decide +kernel
theorem dX7_pass_36 : decode cX7_pass 36 = .ok (.istore_n 3, 1) := by decide +kernel
theorem dX7_pass_37 : decode cX7_pass 37 = .ok (.iload_n 3, 1) := by decide +kernel
theorem dX7_pass_38 : decode cX7_pass 38 = .ok (.iload_n 1, 1) := by decide +kernel
theorem dX7_pass_39 : decode cX7_pass 39 = .ok (.if_icmp .ge 20, 3) := by decide +kernel
theorem dX7_pass_42 : decode cX7_pass 42 = .ok (.iload_n 2, 1) := by decide +kernel
theorem dX7_pass_43 : decode cX7_pass 43 = .ok (.aload_n 0, 1) := by decide +kernel
theorem dX7_pass_44 : decode cX7_pass 44 = .ok (.aload_n 0, 1) := by decide +kernel
theorem dX7_pass_45 : decode cX7_pass 45 = .ok (.getfield 41, 3) := by decide +kernel
theorem dX7_pass_48 : decode cX7_pass 48 = .ok (.invokevirtual 156, 3) := by decide +kernel
theorem dX7_pass_51 : decode cX7_pass 51 = .ok (.iadd, 1) := by decide +kernel
theorem dX7_pass_52 : decode cX7_pass 52 = .ok (.istore_n 2, 1) := by decide +kernel
theorem dX7_pass_53 : decode cX7_pass 53 = .ok (.iinc 3 1, 3) := by decide +kernel
theorem dX7_pass_56 : decode cX7_pass 56 = .ok (.goto (-19), 3) := by decide +kernel
theorem dX7_pass_59 : decode cX7_pass 59 = .ok (.iload_n 2, 1) := by decide +kernel
theorem dX7_pass_60 : decode cX7_pass 60 = .ok (.ireturn, 1) := by decide +kernel
theorem dX7_knob_0 : decode cX7_knob 0 = .ok (.iload_n 1, 1) := by decide +kernel
theorem dX7_knob_1 : decode cX7_knob 1 = .ok (.iconst 1, 1) := by decide +kernel
theorem dX7_knob_2 : decode cX7_knob 2 = .ok (.bipush 9, 2) := by decide +kernel
theorem dX7_knob_4 : decode cX7_knob 4 = .ok (.invokestatic 78, 3) := by decide +kernel
theorem dX7_knob_7 : decode cX7_knob 7 = .ok (.ifCond .ne 5, 3) := by decide +kernel
theorem dX7_knob_10 : decode cX7_knob 10 = .ok (.iconst (-1), 1) := by decide +kernel
theorem dX7_knob_11 : decode cX7_knob 11 = .ok (.ireturn, 1) := by decide +kernel
theorem dX7_knob_12 : decode cX7_knob 12 = .ok (.aload_n 0, 1) := by decide +kernel
theorem dX7_knob_13 : decode cX7_knob 13 = .ok (.invokevirtual 149, 3) := by decide +kernel
theorem dX7_knob_16 : decode cX7_knob 16 = .ok (.aload_n 0, 1) := by decide +kernel
theorem dX7_knob_17 : decode cX7_knob 17 = .ok (.getfield 41, 3) := by decide +kernel
theorem dX7_knob_20 : decode cX7_knob 20 = .ok (.iconst 0, 1) := by decide +kernel
theorem dX7_knob_21 : decode cX7_knob 21 = .ok (.iaload, 1) := by decide +kernel
theorem dX7_knob_22 : decode cX7_knob 22 = .ok (.istore_n 2, 1) := by decide +kernel
theorem dX7_knob_23 : decode cX7_knob 23 = .ok (.aload_n 0, 1) := by decide +kernel
theorem dX7_knob_24 : decode cX7_knob 24 = .ok (.getfield 41, 3) := by decide +kernel
theorem dX7_knob_27 : decode cX7_knob 27 = .ok (.iconst 0, 1) := by decide +kernel
theorem dX7_knob_28 : decode cX7_knob 28 = .ok (.iload_n 1, 1) := by decide +kernel
theorem dX7_knob_29 : decode cX7_knob 29 = .ok (.iastore, 1) := by decide +kernel
theorem dX7_knob_30 : decode cX7_knob 30 = .ok (.iload_n 2, 1) := by decide +kernel
theorem dX7_knob_31 : decode cX7_knob 31 = .ok (.ireturn, 1) := by decide +kernel
theorem dX7_take_0 : decode cX7_take 0 = .ok (.aload_n 0, 1) := by decide +kernel
theorem dX7_take_1 : decode cX7_take 1 = .ok (.iload_n 1, 1) := by decide +kernel
theorem dX7_take_2 : decode cX7_take 2 = .ok (.invokevirtual 132, 3) := by decide +kernel
theorem dX7_take_5 : decode cX7_take 5 = .ok (.ifCond .eq 11, 3) := by decide +kernel
theorem dX7_take_8 : decode cX7_take 8 = .ok (.aload_n 0, 1) := by decide +kernel
theorem dX7_take_9 : decode cX7_take 9 = .ok (.iload_n 2, 1) := by decide +kernel
theorem dX7_take_10 : decode cX7_take 10 = .ok (.invokevirtual 132, 3) := by decide +kernel
theorem dX7_take_13 : decode cX7_take 13 = .ok (.ifCond .ne 5, 3) := by decide +kernel
theorem dX7_take_16 : decode cX7_take 16 = .ok (.iconst (-1), 1) := by decide +kernel
theorem dX7_take_17 : decode cX7_take 17 = .ok (.ireturn, 1) := by decide +kernel
theorem dX7_take_18 : decode cX7_take 18 = .ok (.aload_n 0, 1) := by decide +kernel
theorem dX7_take_19 : decode cX7_take 19 = .ok (.aload_n 0, 1) := by decide +kernel
theorem dX7_take_20 : decode cX7_take 20 = .ok (.getfield 41, 3) := by decide +kernel
theorem dX7_take_23 : decode cX7_take 23 = .ok (.iload_n 1, 1) := by decide +kernel
theorem dX7_take_24 : decode cX7_take 24 = .ok (.iload_n 2, 1) := by decide +kernel
theorem dX7_take_25 : decode cX7_take 25 = .ok (.invokevirtual 160, 3) := by decide +kernel
theorem dX7_take_28 : decode cX7_take 28 = .ok (.ifCond .ne 6, 3) := by decide +kernel
theorem dX7_take_31 : decode cX7_take 31 = .ok (.bipush (-2), 2) := by decide +kernel
theorem dX7_take_33 : decode cX7_take 33 = .ok (.ireturn, 1) := by decide +kernel
theorem dX7_take_34 : decode cX7_take 34 = .ok (.aload_n 0, 1) := by decide +kernel
theorem dX7_take_35 : decode cX7_take 35 = .ok (.invokevirtual 149, 3) := by decide +kernel
theorem dX7_take_38 : decode cX7_take 38 = .ok (.aload_n 0, 1) := by decide +kernel
theorem dX7_take_39 : decode cX7_take 39 = .ok (.aload_n 0, 1) := by decide +kernel
theorem dX7_take_40 : decode cX7_take 40 = .ok (.getfield 41, 3) := by decide +kernel
theorem dX7_take_43 : decode cX7_take 43 = .ok (.iload_n 1, 1) := by decide +kernel
theorem dX7_take_44 : decode cX7_take 44 = .ok (.iload_n 2, 1) := by decide +kernel
theorem dX7_take_45 : decode cX7_take 45 = .ok (.invokevirtual 163, 3) := by decide +kernel
theorem dX7_take_48 : decode cX7_take 48 = .ok (.aload_n 0, 1) := by decide +kernel
theorem dX7_take_49 : decode cX7_take 49 = .ok (.aload_n 0, 1) := by decide +kernel
theorem dX7_take_50 : decode cX7_take 50 = .ok (.getfield 41, 3) := by decide +kernel
theorem dX7_take_53 : decode cX7_take 53 = .ok (.iload_n 1, 1) := by decide +kernel
theorem dX7_take_54 : decode cX7_take 54 = .ok (.iload_n 2, 1) := by decide +kernel
theorem dX7_take_55 : decode cX7_take 55 = .ok (.invokevirtual 136, 3) := by decide +kernel
theorem dX7_take_58 : decode cX7_take 58 = .ok (.ifCond .eq 7, 3) := by decide +kernel
theorem dX7_take_61 : decode cX7_take 61 = .ok (.iconst 1, 1) := by decide +kernel
theorem dX7_take_62 : decode cX7_take 62 = .ok (.goto 4, 3) := by decide +kernel
theorem dX7_take_65 : decode cX7_take 65 = .ok (.iconst 0, 1) := by decide +kernel
theorem dX7_take_66 : decode cX7_take 66 = .ok (.ireturn, 1) := by decide +kernel
theorem dX7_undo_0 : decode cX7_undo 0 = .ok (.aload_n 0, 1) := by decide +kernel
theorem dX7_undo_1 : decode cX7_undo 1 = .ok (.getfield 108, 3) := by decide +kernel
theorem dX7_undo_4 : decode cX7_undo 4 = .ok (.ifCond .ne 6, 3) := by decide +kernel
theorem dX7_undo_7 : decode cX7_undo 7 = .ok (.bipush (-2), 2) := by decide +kernel
theorem dX7_undo_9 : decode cX7_undo 9 = .ok (.ireturn, 1) := by decide +kernel
theorem dX7_undo_10 : decode cX7_undo 10 = .ok (.aload_n 0, 1) := by decide +kernel
theorem dX7_undo_11 : decode cX7_undo 11 = .ok (.dup, 1) := by decide +kernel
theorem dX7_undo_12 : decode cX7_undo 12 = .ok (.getfield 108, 3) := by decide +kernel
theorem dX7_undo_15 : decode cX7_undo 15 = .ok (.iconst 1, 1) := by decide +kernel
theorem dX7_undo_16 : decode cX7_undo 16 = .ok (.isub, 1) := by decide +kernel
theorem dX7_undo_17 : decode cX7_undo 17 = .ok (.putfield 108, 3) := by decide +kernel
theorem dX7_undo_20 : decode cX7_undo 20 = .ok (.iconst 0, 1) := by decide +kernel
theorem dX7_undo_21 : decode cX7_undo 21 = .ok (.istore_n 1, 1) := by decide +kernel
theorem dX7_undo_22 : decode cX7_undo 22 = .ok (.iload_n 1, 1) := by decide +kernel
theorem dX7_undo_23 : decode cX7_undo 23 = .ok (.bipush 48, 2) := by decide +kernel
theorem dX7_undo_25 : decode cX7_undo 25 = .ok (.if_icmp .ge 29, 3) := by decide +kernel
theorem dX7_undo_28 : decode cX7_undo 28 = .ok (.aload_n 0, 1) := by decide +kernel
theorem dX7_undo_29 : decode cX7_undo 29 = .ok (.getfield 41, 3) := by decide +kernel
theorem dX7_undo_32 : decode cX7_undo 32 = .ok (.iload_n 1, 1) := by decide +kernel
theorem dX7_undo_33 : decode cX7_undo 33 = .ok (.aload_n 0, 1) := by decide +kernel
theorem dX7_undo_34 : decode cX7_undo 34 = .ok (.getfield 47, 3) := by decide +kernel
theorem dX7_undo_37 : decode cX7_undo 37 = .ok (.bipush 48, 2) := by decide +kernel
theorem dX7_undo_39 : decode cX7_undo 39 = .ok (.aload_n 0, 1) := by decide +kernel
theorem dX7_undo_40 : decode cX7_undo 40 = .ok (.getfield 108, 3) := by decide +kernel
theorem dX7_undo_43 : decode cX7_undo 43 = .ok (.imul, 1) := by decide +kernel
theorem dX7_undo_44 : decode cX7_undo 44 = .ok (.iload_n 1, 1) := by decide +kernel
theorem dX7_undo_45 : decode cX7_undo 45 = .ok (.iadd, 1) := by decide +kernel
theorem dX7_undo_46 : decode cX7_undo 46 = .ok (.iaload, 1) := by decide +kernel
theorem dX7_undo_47 : decode cX7_undo 47 = .ok (.iastore, 1) := by decide +kernel
theorem dX7_undo_48 : decode cX7_undo 48 = .ok (.iinc 1 1, 3) := by decide +kernel
theorem dX7_undo_51 : decode cX7_undo 51 = .ok (.goto (-29), 3) := by decide +kernel
theorem dX7_undo_54 : decode cX7_undo 54 = .ok (.aload_n 0, 1) := by decide +kernel
theorem dX7_undo_55 : decode cX7_undo 55 = .ok (.getfield 108, 3) := by decide +kernel
theorem dX7_undo_58 : decode cX7_undo 58 = .ok (.ireturn, 1) := by decide +kernel
theorem dX7_falls_0 : decode cX7_falls 0 = .ok (.aload_n 0, 1) := by decide +kernel
theorem dX7_falls_1 : decode cX7_falls 1 = .ok (.iload_n 1, 1) := by decide +kernel
theorem dX7_falls_2 : decode cX7_falls 2 = .ok (.invokevirtual 132, 3) := by decide +kernel
theorem dX7_falls_5 : decode cX7_falls 5 = .ok (.ifCond .ne 5, 3) := by decide +kernel
theorem dX7_falls_8 : decode cX7_falls 8 = .ok (.iconst (-1), 1) := by decide +kernel
theorem dX7_falls_9 : decode cX7_falls 9 = .ok (.ireturn, 1) := by decide +kernel
theorem dX7_falls_10 : decode cX7_falls 10 = .ok (.aload_n 0, 1) := by decide +kernel
theorem dX7_falls_11 : decode cX7_falls 11 = .ok (.getfield 41, 3) := by decide +kernel
theorem dX7_falls_14 : decode cX7_falls 14 = .ok (.iconst 3, 1) := by decide +kernel
theorem dX7_falls_15 : decode cX7_falls 15 = .ok (.iload_n 1, 1) := by decide +kernel
theorem dX7_falls_16 : decode cX7_falls 16 = .ok (.iadd, 1) := by decide +kernel
theorem dX7_falls_17 : decode cX7_falls 17 = .ok (.iaload, 1) := by decide +kernel
theorem dX7_falls_18 : decode cX7_falls 18 = .ok (.iconst 1, 1) := by decide +kernel
theorem dX7_falls_19 : decode cX7_falls 19 = .ok (.if_icmp .ne 38, 3) := by decide +kernel
theorem dX7_falls_22 : decode cX7_falls 22 = .ok (.aload_n 0, 1) := by decide +kernel
theorem dX7_falls_23 : decode cX7_falls 23 = .ok (.getfield 17, 3) := by decide +kernel
theorem dX7_falls_26 : decode cX7_falls 26 = .ok (.iconst 0, 1) := by decide +kernel
theorem dX7_falls_27 : decode cX7_falls 27 = .ok (.iaload, 1) := by decide +kernel
theorem dX7_falls_28 : decode cX7_falls 28 = .ok (.aload_n 0, 1) := by decide +kernel
theorem dX7_falls_29 : decode cX7_falls 29 = .ok (.getfield 41, 3) := by decide +kernel
theorem dX7_falls_32 : decode cX7_falls 32 = .ok (.bipush 21, 2) := by decide +kernel
theorem dX7_falls_34 : decode cX7_falls 34 = .ok (.iload_n 1, 1) := by decide +kernel
theorem dX7_falls_35 : decode cX7_falls 35 = .ok (.iadd, 1) := by decide +kernel
theorem dX7_falls_36 : decode cX7_falls 36 = .ok (.iaload, 1) := by decide +kernel
theorem dX7_falls_37 : decode cX7_falls 37 = .ok (.isub, 1) := by decide +kernel
theorem dX7_falls_38 : decode cX7_falls 38 = .ok (.aload_n 0, 1) := by decide +kernel
theorem dX7_falls_39 : decode cX7_falls 39 = .ok (.getfield 41, 3) := by decide +kernel
theorem dX7_falls_42 : decode cX7_falls 42 = .ok (.iconst 0, 1) := by decide +kernel
theorem dX7_falls_43 : decode cX7_falls 43 = .ok (.iaload, 1) := by decide +kernel
theorem dX7_falls_44 : decode cX7_falls 44 = .ok (.iadd, 1) := by decide +kernel
theorem dX7_falls_45 : decode cX7_falls 45 = .ok (.iconst 1, 1) := by decide +kernel
theorem dX7_falls_46 : decode cX7_falls 46 = .ok (.isub, 1) := by decide +kernel
theorem dX7_falls_47 : decode cX7_falls 47 = .ok (.aload_n 0, 1) := by decide +kernel
theorem dX7_falls_48 : decode cX7_falls 48 = .ok (.getfield 41, 3) := by decide +kernel
theorem dX7_falls_51 : decode cX7_falls 51 = .ok (.iconst 0, 1) := by decide +kernel
theorem dX7_falls_52 : decode cX7_falls 52 = .ok (.iaload, 1) := by decide +kernel
theorem dX7_falls_53 : decode cX7_falls 53 = .ok (.idiv, 1) := by decide +kernel
theorem dX7_falls_54 : decode cX7_falls 54 = .ok (.goto 5, 3) := by decide +kernel
theorem dX7_falls_57 : decode cX7_falls 57 = .ok (.bipush (-4), 2) := by decide +kernel
theorem dX7_falls_59 : decode cX7_falls 59 = .ok (.ireturn, 1) := by decide +kernel
theorem dX7_goOn_0 : decode cX7_goOn 0 = .ok (.aload_n 0, 1) := by decide +kernel
theorem dX7_goOn_1 : decode cX7_goOn 1 = .ok (.getfield 44, 3) := by decide +kernel
theorem dX7_goOn_4 : decode cX7_goOn 4 = .ok (.iconst 3, 1) := by decide +kernel
theorem dX7_goOn_5 : decode cX7_goOn 5 = .ok (.iload_n 1, 1) := by decide +kernel
theorem dX7_goOn_6 : decode cX7_goOn 6 = .ok (.iadd, 1) := by decide +kernel
theorem dX7_goOn_7 : decode cX7_goOn 7 = .ok (.iaload, 1) := by decide +kernel
theorem dX7_goOn_8 : decode cX7_goOn 8 = .ok (.iconst 1, 1) := by decide +kernel
theorem dX7_goOn_9 : decode cX7_goOn 9 = .ok (.if_icmp .ne 15, 3) := by decide +kernel
theorem dX7_goOn_12 : decode cX7_goOn 12 = .ok (.aload_n 0, 1) := by decide +kernel
theorem dX7_goOn_13 : decode cX7_goOn 13 = .ok (.aload_n 0, 1) := by decide +kernel
theorem dX7_goOn_14 : decode cX7_goOn 14 = .ok (.getfield 44, 3) := by decide +kernel
theorem dX7_goOn_17 : decode cX7_goOn 17 = .ok (.invokevirtual 156, 3) := by decide +kernel
theorem dX7_goOn_20 : decode cX7_goOn 20 = .ok (.pop, 1) := by decide +kernel
theorem dX7_goOn_21 : decode cX7_goOn 21 = .ok (.goto (-21), 3) := by decide +kernel
theorem dX7_goOn_24 : decode cX7_goOn 24 = .ok (.return_, 1) := by decide +kernel
theorem dX7_willBe_0 : decode cX7_willBe 0 = .ok (.aload_n 0, 1) := by decide +kernel
theorem dX7_willBe_1 : decode cX7_willBe 1 = .ok (.iload_n 1, 1) := by decide +kernel
theorem dX7_willBe_2 : decode cX7_willBe 2 = .ok (.invokevirtual 132, 3) := by decide +kernel
theorem dX7_willBe_5 : decode cX7_willBe 5 = .ok (.ifCond .ne 5, 3) := by decide +kernel
theorem dX7_willBe_8 : decode cX7_willBe 8 = .ok (.iconst (-1), 1) := by decide +kernel
theorem dX7_willBe_9 : decode cX7_willBe 9 = .ok (.ireturn, 1) := by decide +kernel
theorem dX7_willBe_10 : decode cX7_willBe 10 = .ok (.aload_n 0, 1) := by decide +kernel
theorem dX7_willBe_11 : decode cX7_willBe 11 = .ok (.invokevirtual 166, 3) := by decide +kernel
theorem dX7_willBe_14 : decode cX7_willBe 14 = .ok (.aload_n 0, 1) := by decide +kernel
theorem dX7_willBe_15 : decode cX7_willBe 15 = .ok (.iload_n 1, 1) := by decide +kernel
theorem dX7_willBe_16 : decode cX7_willBe 16 = .ok (.invokevirtual 169, 3) := by decide +kernel
theorem dX7_willBe_19 : decode cX7_willBe 19 = .ok (.aload_n 0, 1) := by decide +kernel
theorem dX7_willBe_20 : decode cX7_willBe 20 = .ok (.getfield 41, 3) := by decide +kernel
theorem dX7_willBe_23 : decode cX7_willBe 23 = .ok (.iconst 3, 1) := by decide +kernel
theorem dX7_willBe_24 : decode cX7_willBe 24 = .ok (.iload_n 1, 1) := by decide +kernel
theorem dX7_willBe_25 : decode cX7_willBe 25 = .ok (.iadd, 1) := by decide +kernel
theorem dX7_willBe_26 : decode cX7_willBe 26 = .ok (.iaload, 1) := by decide +kernel
theorem dX7_willBe_27 : decode cX7_willBe 27 = .ok (.iconst 3, 1) := by decide +kernel
theorem dX7_willBe_28 : decode cX7_willBe 28 = .ok (.if_icmp .ne 8, 3) := by decide +kernel
theorem dX7_willBe_31 : decode cX7_willBe 31 = .ok (.bipush (-4), 2) := by decide +kernel
theorem dX7_willBe_33 : decode cX7_willBe 33 = .ok (.goto 12, 3) := by decide +kernel
theorem dX7_willBe_36 : decode cX7_willBe 36 = .ok (.aload_n 0, 1) := by decide +kernel
theorem dX7_willBe_37 : decode cX7_willBe 37 = .ok (.getfield 44, 3) := by decide +kernel
theorem dX7_willBe_40 : decode cX7_willBe 40 = .ok (.bipush 30, 2) := by decide +kernel
theorem dX7_willBe_42 : decode cX7_willBe 42 = .ok (.iload_n 1, 1) := by decide +kernel
theorem dX7_willBe_43 : decode cX7_willBe 43 = .ok (.iadd, 1) := by decide +kernel
theorem dX7_willBe_44 : decode cX7_willBe 44 = .ok (.iaload, 1) := by decide +kernel
theorem dX7_willBe_45 : decode cX7_willBe 45 = .ok (.ireturn, 1) := by decide +kernel
theorem dX7_contentOf_0 : decode cX7_contentOf 0 = .ok (.iconst 0, 1) := by decide +kernel
theorem dX7_contentOf_1 : decode cX7_contentOf 1 = .ok (.istore_n 2, 1) := by decide +kernel
theorem dX7_contentOf_2 : decode cX7_contentOf 2 = .ok (.iconst 0, 1) := by decide +kernel
theorem dX7_contentOf_3 : decode cX7_contentOf 3 = .ok (.istore_n 3, 1) := by decide +kernel
theorem dX7_contentOf_4 : decode cX7_contentOf 4 = .ok (.iload_n 3, 1) := by decide +kernel
theorem dX7_contentOf_5 : decode cX7_contentOf 5 = .ok (.aload_n 0, 1) := by decide +kernel
theorem dX7_contentOf_6 : decode cX7_contentOf 6 = .ok (.getfield 13, 3) := by decide +kernel
theorem dX7_contentOf_9 : decode cX7_contentOf 9 = .ok (.iconst 0, 1) := by decide +kernel
theorem dX7_contentOf_10 : decode cX7_contentOf 10 = .ok (.iaload, 1) := by decide +kernel
theorem dX7_contentOf_11 : decode cX7_contentOf 11 = .ok (.if_icmp .ge 46, 3) := by decide +kernel
theorem dX7_contentOf_14 : decode cX7_contentOf 14 = .ok (.aload_n 1, 1) := by decide +kernel
theorem dX7_contentOf_15 : decode cX7_contentOf 15 = .ok (.bipush 39, 2) := by decide +kernel
theorem dX7_contentOf_17 : decode cX7_contentOf 17 = .ok (.iload_n 3, 1) := by decide +kernel
theorem dX7_contentOf_18 : decode cX7_contentOf 18 = .ok (.iadd, 1) := by decide +kernel
theorem dX7_contentOf_19 : decode cX7_contentOf 19 = .ok (.iaload, 1) := by decide +kernel
theorem dX7_contentOf_20 : decode cX7_contentOf 20 = .ok (.istore 4, 2) := by decide +kernel
theorem dX7_contentOf_22 : decode cX7_contentOf 22 = .ok (.iload_n 2, 1) := by decide +kernel
theorem dX7_contentOf_23 : decode cX7_contentOf 23 = .ok (.iload 4, 2) := by decide +kernel
theorem dX7_contentOf_25 : decode cX7_contentOf 25 = .ok (.bipush (-4), 2) := by decide +kernel
theorem dX7_contentOf_27 : decode cX7_contentOf 27 = .ok (.if_icmp .eq 21, 3) := by decide +kernel
theorem dX7_contentOf_30 : decode cX7_contentOf 30 = .ok (.aload_n 0, 1) := by decide +kernel
theorem dX7_contentOf_31 : decode cX7_contentOf 31 = .ok (.aload_n 1, 1) := by decide +kernel
theorem dX7_contentOf_32 : decode cX7_contentOf 32 = .ok (.iload 4, 2) := by decide +kernel
theorem dX7_contentOf_34 : decode cX7_contentOf 34 = .ok (.iload_n 3, 1) := by decide +kernel
theorem dX7_contentOf_35 : decode cX7_contentOf 35 = .ok (.invokevirtual 136, 3) := by decide +kernel
theorem dX7_contentOf_38 : decode cX7_contentOf 38 = .ok (.ifCond .eq 10, 3) := by decide +kernel
theorem dX7_contentOf_41 : decode cX7_contentOf 41 = .ok (.iconst 1, 1) := by decide +kernel
theorem dX7_contentOf_42 : decode cX7_contentOf 42 = .ok (.iload 4, 2) := by decide +kernel
theorem dX7_contentOf_44 : decode cX7_contentOf 44 = .ok (.ishl, 1) := by decide +kernel
theorem dX7_contentOf_45 : decode cX7_contentOf 45 = .ok (.goto 4, 3) := by decide +kernel
theorem dX7_contentOf_48 : decode cX7_contentOf 48 = .ok (.iconst 0, 1) := by decide +kernel
theorem dX7_contentOf_49 : decode cX7_contentOf 49 = .ok (.ior, 1) := by decide +kernel
theorem dX7_contentOf_50 : decode cX7_contentOf 50 = .ok (.istore_n 2, 1) := by decide +kernel
theorem dX7_contentOf_51 : decode cX7_contentOf 51 = .ok (.iinc 3 1, 3) := by decide +kernel
theorem dX7_contentOf_54 : decode cX7_contentOf 54 = .ok (.goto (-50), 3) := by decide +kernel
theorem dX7_contentOf_57 : decode cX7_contentOf 57 = .ok (.iload_n 2, 1) := by decide +kernel
theorem dX7_contentOf_58 : decode cX7_contentOf 58 = .ok (.ireturn, 1) := by decide +kernel
theorem dX7_content_0 : decode cX7_content 0 = .ok (.aload_n 0, 1) := by decide +kernel
theorem dX7_content_1 : decode cX7_content 1 = .ok (.aload_n 0, 1) := by decide +kernel
theorem dX7_content_2 : decode cX7_content 2 = .ok (.getfield 41, 3) := by decide +kernel
theorem dX7_content_5 : decode cX7_content 5 = .ok (.invokevirtual 172, 3) := by decide +kernel
theorem dX7_content_8 : decode cX7_content 8 = .ok (.ireturn, 1) := by decide +kernel
theorem dX7_isRightBy_0 : decode cX7_isRightBy 0 = .ok (.aload_n 0, 1) := by decide +kernel
theorem dX7_isRightBy_1 : decode cX7_isRightBy 1 = .ok (.aload_n 0, 1) := by decide +kernel
theorem dX7_isRightBy_2 : decode cX7_isRightBy 2 = .ok (.getfield 44, 3) := by decide +kernel
theorem dX7_isRightBy_5 : decode cX7_isRightBy 5 = .ok (.iload_n 1, 1) := by decide +kernel
theorem dX7_isRightBy_6 : decode cX7_isRightBy 6 = .ok (.iload_n 2, 1) := by decide +kernel
theorem dX7_isRightBy_7 : decode cX7_isRightBy 7 = .ok (.invokevirtual 152, 3) := by decide +kernel
theorem dX7_isRightBy_10 : decode cX7_isRightBy 10 = .ok (.aload_n 0, 1) := by decide +kernel
theorem dX7_isRightBy_11 : decode cX7_isRightBy 11 = .ok (.iload_n 1, 1) := by decide +kernel
theorem dX7_isRightBy_12 : decode cX7_isRightBy 12 = .ok (.invokevirtual 169, 3) := by decide +kernel
theorem dX7_isRightBy_15 : decode cX7_isRightBy 15 = .ok (.aload_n 0, 1) := by decide +kernel
theorem dX7_isRightBy_16 : decode cX7_isRightBy 16 = .ok (.aload_n 0, 1) := by decide +kernel
theorem dX7_isRightBy_17 : decode cX7_isRightBy 17 = .ok (.getfield 44, 3) := by decide +kernel
theorem dX7_isRightBy_20 : decode cX7_isRightBy 20 = .ok (.iload_n 1, 1) := by decide +kernel
theorem dX7_isRightBy_21 : decode cX7_isRightBy 21 = .ok (.iload_n 1, 1) := by decide +kernel
theorem dX7_isRightBy_22 : decode cX7_isRightBy 22 = .ok (.invokevirtual 136, 3) := by decide +kernel
theorem dX7_isRightBy_25 : decode cX7_isRightBy 25 = .ok (.ireturn, 1) := by decide +kernel
theorem dX7_knobFor_0 : decode cX7_knobFor 0 = .ok (.aload_n 0, 1) := by decide +kernel
theorem dX7_knobFor_1 : decode cX7_knobFor 1 = .ok (.iload_n 1, 1) := by decide +kernel
theorem dX7_knobFor_2 : decode cX7_knobFor 2 = .ok (.invokevirtual 132, 3) := by decide +kernel
theorem dX7_knobFor_5 : decode cX7_knobFor 5 = .ok (.ifCond .eq 10, 3) := by decide +kernel
theorem dX7_knobFor_8 : decode cX7_knobFor 8 = .ok (.iload_n 2, 1) := by decide +kernel
theorem dX7_knobFor_9 : decode cX7_knobFor 9 = .ok (.invokestatic 140, 3) := by decide +kernel
theorem dX7_knobFor_12 : decode cX7_knobFor 12 = .ok (.ifCond .ne 5, 3) := by decide +kernel
theorem dX7_knobFor_15 : decode cX7_knobFor 15 = .ok (.iconst (-1), 1) := by decide +kernel
theorem dX7_knobFor_16 : decode cX7_knobFor 16 = .ok (.ireturn, 1) := by decide +kernel
theorem dX7_knobFor_17 : decode cX7_knobFor 17 = .ok (.aload_n 0, 1) := by decide +kernel
theorem dX7_knobFor_18 : decode cX7_knobFor 18 = .ok (.iload_n 1, 1) := by decide +kernel
theorem dX7_knobFor_19 : decode cX7_knobFor 19 = .ok (.invokevirtual 143, 3) := by decide +kernel
theorem dX7_knobFor_22 : decode cX7_knobFor 22 = .ok (.ifCond .ne 6, 3) := by decide +kernel
theorem dX7_knobFor_25 : decode cX7_knobFor 25 = .ok (.bipush (-2), 2) := by decide +kernel
theorem dX7_knobFor_27 : decode cX7_knobFor 27 = .ok (.ireturn, 1) := by decide +kernel
theorem dX7_knobFor_28 : decode cX7_knobFor 28 = .ok (.iconst 1, 1) := by decide +kernel
theorem dX7_knobFor_29 : decode cX7_knobFor 29 = .ok (.istore_n 3, 1) := by decide +kernel
theorem dX7_knobFor_30 : decode cX7_knobFor 30 = .ok (.iload_n 3, 1) := by decide +kernel
theorem dX7_knobFor_31 : decode cX7_knobFor 31 = .ok (.bipush 9, 2) := by decide +kernel
theorem dX7_knobFor_33 : decode cX7_knobFor 33 = .ok (.if_icmp .gt 31, 3) := by decide +kernel
theorem dX7_knobFor_36 : decode cX7_knobFor 36 = .ok (.aload_n 0, 1) := by decide +kernel
theorem dX7_knobFor_37 : decode cX7_knobFor 37 = .ok (.invokevirtual 166, 3) := by decide +kernel
theorem dX7_knobFor_40 : decode cX7_knobFor 40 = .ok (.aload_n 0, 1) := by decide +kernel
theorem dX7_knobFor_41 : decode cX7_knobFor 41 = .ok (.getfield 44, 3) := by decide +kernel
theorem dX7_knobFor_44 : decode cX7_knobFor 44 = .ok (.iconst 0, 1) := by decide +kernel
theorem dX7_knobFor_45 : decode cX7_knobFor 45 = .ok (.iload_n 3, 1) := by decide +kernel
theorem dX7_knobFor_46 : decode cX7_knobFor 46 = .ok (.iastore, 1) := by decide +kernel
theorem dX7_knobFor_47 : decode cX7_knobFor 47 = .ok (.aload_n 0, 1) := by decide +kernel
theorem dX7_knobFor_48 : decode cX7_knobFor 48 = .ok (.iload_n 1, 1) := by decide +kernel
theorem dX7_knobFor_49 : decode cX7_knobFor 49 = .ok (.iload_n 2, 1) := by decide +kernel
theorem dX7_knobFor_50 : decode cX7_knobFor 50 = .ok (.invokevirtual 175, 3) := by decide +kernel
theorem dX7_knobFor_53 : decode cX7_knobFor 53 = .ok (.ifCond .eq 5, 3) := by decide +kernel
theorem dX7_knobFor_56 : decode cX7_knobFor 56 = .ok (.iload_n 3, 1) := by decide +kernel
theorem dX7_knobFor_57 : decode cX7_knobFor 57 = .ok (.ireturn, 1) := by decide +kernel
theorem dX7_knobFor_58 : decode cX7_knobFor 58 = .ok (.iinc 3 1, 3) := by decide +kernel
theorem dX7_knobFor_61 : decode cX7_knobFor 61 = .ok (.goto (-31), 3) := by decide +kernel
theorem dX7_knobFor_64 : decode cX7_knobFor 64 = .ok (.bipush (-4), 2) := by decide +kernel
theorem dX7_knobFor_66 : decode cX7_knobFor 66 = .ok (.ireturn, 1) := by decide +kernel
theorem dX7_often_0 : decode cX7_often 0 = .ok (.aload_n 0, 1) := by decide +kernel
theorem dX7_often_1 : decode cX7_often 1 = .ok (.iload_n 1, 1) := by decide +kernel
theorem dX7_often_2 : decode cX7_often 2 = .ok (.invokevirtual 132, 3) := by decide +kernel
theorem dX7_often_5 : decode cX7_often 5 = .ok (.ifCond .eq 10, 3) := by decide +kernel
theorem dX7_often_8 : decode cX7_often 8 = .ok (.iload_n 2, 1) := by decide +kernel
theorem dX7_often_9 : decode cX7_often 9 = .ok (.invokestatic 140, 3) := by decide +kernel
theorem dX7_often_12 : decode cX7_often 12 = .ok (.ifCond .ne 5, 3) := by decide +kernel
theorem dX7_often_15 : decode cX7_often 15 = .ok (.iconst (-1), 1) := by decide +kernel
theorem dX7_often_16 : decode cX7_often 16 = .ok (.ireturn, 1) := by decide +kernel
theorem dX7_often_17 : decode cX7_often 17 = .ok (.aload_n 0, 1) := by decide +kernel
theorem dX7_often_18 : decode cX7_often 18 = .ok (.iload_n 1, 1) := by decide +kernel
theorem dX7_often_19 : decode cX7_often 19 = .ok (.invokevirtual 143, 3) := by decide +kernel
theorem dX7_often_22 : decode cX7_often 22 = .ok (.ifCond .ne 6, 3) := by decide +kernel
theorem dX7_often_25 : decode cX7_often 25 = .ok (.bipush (-2), 2) := by decide +kernel
theorem dX7_often_27 : decode cX7_often 27 = .ok (.ireturn, 1) := by decide +kernel
theorem dX7_often_28 : decode cX7_often 28 = .ok (.aload_n 0, 1) := by decide +kernel
theorem dX7_often_29 : decode cX7_often 29 = .ok (.invokevirtual 166, 3) := by decide +kernel
theorem dX7_often_32 : decode cX7_often 32 = .ok (.iconst 1, 1) := by decide +kernel
theorem dX7_often_33 : decode cX7_often 33 = .ok (.istore_n 3, 1) := by decide +kernel
theorem dX7_often_34 : decode cX7_often 34 = .ok (.iload_n 3, 1) := by decide +kernel
theorem dX7_often_35 : decode cX7_often 35 = .ok (.iconst 5, 1) := by decide +kernel
theorem dX7_often_36 : decode cX7_often 36 = .ok (.if_icmp .gt 20, 3) := by decide +kernel
theorem dX7_often_39 : decode cX7_often 39 = .ok (.aload_n 0, 1) := by decide +kernel
theorem dX7_often_40 : decode cX7_often 40 = .ok (.iload_n 1, 1) := by decide +kernel
theorem dX7_often_41 : decode cX7_often 41 = .ok (.iload_n 2, 1) := by decide +kernel
theorem dX7_often_42 : decode cX7_often 42 = .ok (.invokevirtual 175, 3) := by decide +kernel
theorem dX7_often_45 : decode cX7_often 45 = .ok (.ifCond .eq 5, 3) := by decide +kernel
theorem dX7_often_48 : decode cX7_often 48 = .ok (.iload_n 3, 1) := by decide +kernel
theorem dX7_often_49 : decode cX7_often 49 = .ok (.ireturn, 1) := by decide +kernel
theorem dX7_often_50 : decode cX7_often 50 = .ok (.iinc 3 1, 3) := by decide +kernel
theorem dX7_often_53 : decode cX7_often 53 = .ok (.goto (-19), 3) := by decide +kernel
theorem dX7_often_56 : decode cX7_often 56 = .ok (.bipush (-4), 2) := by decide +kernel
theorem dX7_often_58 : decode cX7_often 58 = .ok (.ireturn, 1) := by decide +kernel
theorem dX7_waits_0 : decode cX7_waits 0 = .ok (.aload_n 0, 1) := by decide +kernel
theorem dX7_waits_1 : decode cX7_waits 1 = .ok (.iload_n 1, 1) := by decide +kernel
theorem dX7_waits_2 : decode cX7_waits 2 = .ok (.invokevirtual 132, 3) := by decide +kernel
theorem dX7_waits_5 : decode cX7_waits 5 = .ok (.ifCond .eq 10, 3) := by decide +kernel
theorem dX7_waits_8 : decode cX7_waits 8 = .ok (.iload_n 2, 1) := by decide +kernel
theorem dX7_waits_9 : decode cX7_waits 9 = .ok (.invokestatic 140, 3) := by decide +kernel
theorem dX7_waits_12 : decode cX7_waits 12 = .ok (.ifCond .ne 5, 3) := by decide +kernel
theorem dX7_waits_15 : decode cX7_waits 15 = .ok (.iconst (-1), 1) := by decide +kernel
theorem dX7_waits_16 : decode cX7_waits 16 = .ok (.ireturn, 1) := by decide +kernel
theorem dX7_waits_17 : decode cX7_waits 17 = .ok (.aload_n 0, 1) := by decide +kernel
theorem dX7_waits_18 : decode cX7_waits 18 = .ok (.iload_n 1, 1) := by decide +kernel
theorem dX7_waits_19 : decode cX7_waits 19 = .ok (.invokevirtual 143, 3) := by decide +kernel
theorem dX7_waits_22 : decode cX7_waits 22 = .ok (.ifCond .ne 6, 3) := by decide +kernel
theorem dX7_waits_25 : decode cX7_waits 25 = .ok (.bipush (-2), 2) := by decide +kernel
theorem dX7_waits_27 : decode cX7_waits 27 = .ok (.ireturn, 1) := by decide +kernel
theorem dX7_waits_28 : decode cX7_waits 28 = .ok (.iconst 0, 1) := by decide +kernel
theorem dX7_waits_29 : decode cX7_waits 29 = .ok (.istore_n 3, 1) := by decide +kernel
theorem dX7_waits_30 : decode cX7_waits 30 = .ok (.iload_n 3, 1) := by decide +kernel
theorem dX7_waits_31 : decode cX7_waits 31 = .ok (.bipush 30, 2) := by decide +kernel
theorem dX7_waits_33 : decode cX7_waits 33 = .ok (.if_icmp .gt 48, 3) := by decide +kernel
theorem dX7_waits_36 : decode cX7_waits 36 = .ok (.aload_n 0, 1) := by decide +kernel
theorem dX7_waits_37 : decode cX7_waits 37 = .ok (.invokevirtual 166, 3) := by decide +kernel
theorem dX7_waits_40 : decode cX7_waits 40 = .ok (.iconst 0, 1) := by decide +kernel
theorem dX7_waits_41 : decode cX7_waits 41 = .ok (.istore 4, 2) := by decide +kernel
theorem dX7_waits_43 : decode cX7_waits 43 = .ok (.iload 4, 2) := by decide +kernel
theorem dX7_waits_45 : decode cX7_waits 45 = .ok (.iload_n 3, 1) := by decide +kernel
theorem dX7_waits_46 : decode cX7_waits 46 = .ok (.if_icmp .ge 18, 3) := by decide +kernel
theorem dX7_waits_49 : decode cX7_waits 49 = .ok (.aload_n 0, 1) := by decide +kernel
theorem dX7_waits_50 : decode cX7_waits 50 = .ok (.aload_n 0, 1) := by decide +kernel
theorem dX7_waits_51 : decode cX7_waits 51 = .ok (.getfield 44, 3) := by decide +kernel
theorem dX7_waits_54 : decode cX7_waits 54 = .ok (.invokevirtual 156, 3) := by decide +kernel
theorem dX7_waits_57 : decode cX7_waits 57 = .ok (.pop, 1) := by decide +kernel
theorem dX7_waits_58 : decode cX7_waits 58 = .ok (.iinc 4 1, 3) := by decide +kernel
theorem dX7_waits_61 : decode cX7_waits 61 = .ok (.goto (-18), 3) := by decide +kernel
theorem dX7_waits_64 : decode cX7_waits 64 = .ok (.aload_n 0, 1) := by decide +kernel
theorem dX7_waits_65 : decode cX7_waits 65 = .ok (.iload_n 1, 1) := by decide +kernel
theorem dX7_waits_66 : decode cX7_waits 66 = .ok (.iload_n 2, 1) := by decide +kernel
theorem dX7_waits_67 : decode cX7_waits 67 = .ok (.invokevirtual 175, 3) := by decide +kernel
theorem dX7_waits_70 : decode cX7_waits 70 = .ok (.ifCond .eq 5, 3) := by decide +kernel
theorem dX7_waits_73 : decode cX7_waits 73 = .ok (.iload_n 3, 1) := by decide +kernel
theorem dX7_waits_74 : decode cX7_waits 74 = .ok (.ireturn, 1) := by decide +kernel
theorem dX7_waits_75 : decode cX7_waits 75 = .ok (.iinc 3 1, 3) := by decide +kernel
theorem dX7_waits_78 : decode cX7_waits 78 = .ok (.goto (-48), 3) := by decide +kernel
theorem dX7_waits_81 : decode cX7_waits 81 = .ok (.bipush (-4), 2) := by decide +kernel
theorem dX7_waits_83 : decode cX7_waits 83 = .ok (.ireturn, 1) := by decide +kernel
theorem dX7_rightBy_0 : decode cX7_rightBy 0 = .ok (.iconst 0, 1) := by decide +kernel
theorem dX7_rightBy_1 : decode cX7_rightBy 1 = .ok (.istore_n 2, 1) := by decide +kernel
theorem dX7_rightBy_2 : decode cX7_rightBy 2 = .ok (.aload_n 0, 1) := by decide +kernel
theorem dX7_rightBy_3 : decode cX7_rightBy 3 = .ok (.invokevirtual 166, 3) := by decide +kernel
theorem dX7_rightBy_6 : decode cX7_rightBy 6 = .ok (.aload_n 0, 1) := by decide +kernel
theorem dX7_rightBy_7 : decode cX7_rightBy 7 = .ok (.getfield 44, 3) := by decide +kernel
theorem dX7_rightBy_10 : decode cX7_rightBy 10 = .ok (.iconst 0, 1) := by decide +kernel
theorem dX7_rightBy_11 : decode cX7_rightBy 11 = .ok (.iload_n 1, 1) := by decide +kernel
theorem dX7_rightBy_12 : decode cX7_rightBy 12 = .ok (.iastore, 1) := by decide +kernel
theorem dX7_rightBy_13 : decode cX7_rightBy 13 = .ok (.iconst 0, 1) := by decide +kernel
theorem dX7_rightBy_14 : decode cX7_rightBy 14 = .ok (.istore_n 3, 1) := by decide +kernel
theorem dX7_rightBy_15 : decode cX7_rightBy 15 = .ok (.iload_n 3, 1) := by decide +kernel
theorem dX7_rightBy_16 : decode cX7_rightBy 16 = .ok (.aload_n 0, 1) := by decide +kernel
theorem dX7_rightBy_17 : decode cX7_rightBy 17 = .ok (.getfield 13, 3) := by decide +kernel
theorem dX7_rightBy_20 : decode cX7_rightBy 20 = .ok (.iconst 0, 1) := by decide +kernel
theorem dX7_rightBy_21 : decode cX7_rightBy 21 = .ok (.iaload, 1) := by decide +kernel
theorem dX7_rightBy_22 : decode cX7_rightBy 22 = .ok (.if_icmp .ge 14, 3) := by decide +kernel
theorem dX7_rightBy_25 : decode cX7_rightBy 25 = .ok (.aload_n 0, 1) := by decide +kernel
theorem dX7_rightBy_26 : decode cX7_rightBy 26 = .ok (.iload_n 3, 1) := by decide +kernel
theorem dX7_rightBy_27 : decode cX7_rightBy 27 = .ok (.invokevirtual 169, 3) := by decide +kernel
theorem dX7_rightBy_30 : decode cX7_rightBy 30 = .ok (.iinc 3 1, 3) := by decide +kernel
theorem dX7_rightBy_33 : decode cX7_rightBy 33 = .ok (.goto (-18), 3) := by decide +kernel
theorem dX7_rightBy_36 : decode cX7_rightBy 36 = .ok (.iconst 0, 1) := by decide +kernel
theorem dX7_rightBy_37 : decode cX7_rightBy 37 = .ok (.istore_n 3, 1) := by decide +kernel
theorem dX7_rightBy_38 : decode cX7_rightBy 38 = .ok (.iload_n 3, 1) := by decide +kernel
theorem dX7_rightBy_39 : decode cX7_rightBy 39 = .ok (.aload_n 0, 1) := by decide +kernel
theorem dX7_rightBy_40 : decode cX7_rightBy 40 = .ok (.getfield 13, 3) := by decide +kernel
theorem dX7_rightBy_43 : decode cX7_rightBy 43 = .ok (.iconst 0, 1) := by decide +kernel
theorem dX7_rightBy_44 : decode cX7_rightBy 44 = .ok (.iaload, 1) := by decide +kernel
theorem dX7_rightBy_45 : decode cX7_rightBy 45 = .ok (.if_icmp .ge 44, 3) := by decide +kernel
theorem dX7_rightBy_48 : decode cX7_rightBy 48 = .ok (.iload_n 2, 1) := by decide +kernel
theorem dX7_rightBy_49 : decode cX7_rightBy 49 = .ok (.aload_n 0, 1) := by decide +kernel
theorem dX7_rightBy_50 : decode cX7_rightBy 50 = .ok (.getfield 41, 3) := by decide +kernel
theorem dX7_rightBy_53 : decode cX7_rightBy 53 = .ok (.iconst 3, 1) := by decide +kernel
theorem dX7_rightBy_54 : decode cX7_rightBy 54 = .ok (.iload_n 3, 1) := by decide +kernel
theorem dX7_rightBy_55 : decode cX7_rightBy 55 = .ok (.iadd, 1) := by decide +kernel
theorem dX7_rightBy_56 : decode cX7_rightBy 56 = .ok (.iaload, 1) := by decide +kernel
theorem dX7_rightBy_57 : decode cX7_rightBy 57 = .ok (.iconst 1, 1) := by decide +kernel
theorem dX7_rightBy_58 : decode cX7_rightBy 58 = .ok (.if_icmp .ne 22, 3) := by decide +kernel
theorem dX7_rightBy_61 : decode cX7_rightBy 61 = .ok (.aload_n 0, 1) := by decide +kernel
theorem dX7_rightBy_62 : decode cX7_rightBy 62 = .ok (.aload_n 0, 1) := by decide +kernel
theorem dX7_rightBy_63 : decode cX7_rightBy 63 = .ok (.getfield 44, 3) := by decide +kernel
theorem dX7_rightBy_66 : decode cX7_rightBy 66 = .ok (.iload_n 3, 1) := by decide +kernel
theorem dX7_rightBy_67 : decode cX7_rightBy 67 = .ok (.iload_n 3, 1) := by decide +kernel
theorem dX7_rightBy_68 : decode cX7_rightBy 68 = .ok (.invokevirtual 136, 3) := by decide +kernel
theorem dX7_rightBy_71 : decode cX7_rightBy 71 = .ok (.ifCond .eq 9, 3) := by decide +kernel
theorem dX7_rightBy_74 : decode cX7_rightBy 74 = .ok (.iconst 1, 1) := by decide +kernel
theorem dX7_rightBy_75 : decode cX7_rightBy 75 = .ok (.iload_n 3, 1) := by decide +kernel
theorem dX7_rightBy_76 : decode cX7_rightBy 76 = .ok (.ishl, 1) := by decide +kernel
theorem dX7_rightBy_77 : decode cX7_rightBy 77 = .ok (.goto 4, 3) := by decide +kernel
theorem dX7_rightBy_80 : decode cX7_rightBy 80 = .ok (.iconst 0, 1) := by decide +kernel
theorem dX7_rightBy_81 : decode cX7_rightBy 81 = .ok (.ior, 1) := by decide +kernel
theorem dX7_rightBy_82 : decode cX7_rightBy 82 = .ok (.istore_n 2, 1) := by decide +kernel
theorem dX7_rightBy_83 : decode cX7_rightBy 83 = .ok (.iinc 3 1, 3) := by decide +kernel
theorem dX7_rightBy_86 : decode cX7_rightBy 86 = .ok (.goto (-48), 3) := by decide +kernel
theorem dX7_rightBy_89 : decode cX7_rightBy 89 = .ok (.iload_n 2, 1) := by decide +kernel
theorem dX7_rightBy_90 : decode cX7_rightBy 90 = .ok (.ireturn, 1) := by decide +kernel
theorem dX7_harm_0 : decode cX7_harm 0 = .ok (.iload_n 1, 1) := by decide +kernel
theorem dX7_harm_1 : decode cX7_harm 1 = .ok (.iconst 1, 1) := by decide +kernel
theorem dX7_harm_2 : decode cX7_harm 2 = .ok (.bipush 9, 2) := by decide +kernel
theorem dX7_harm_4 : decode cX7_harm 4 = .ok (.invokestatic 78, 3) := by decide +kernel
theorem dX7_harm_7 : decode cX7_harm 7 = .ok (.ifCond .eq 24, 3) := by decide +kernel
theorem dX7_harm_10 : decode cX7_harm 10 = .ok (.aload_n 0, 1) := by decide +kernel
theorem dX7_harm_11 : decode cX7_harm 11 = .ok (.aload_n 0, 1) := by decide +kernel
theorem dX7_harm_12 : decode cX7_harm 12 = .ok (.getfield 41, 3) := by decide +kernel
theorem dX7_harm_15 : decode cX7_harm 15 = .ok (.iconst 0, 1) := by decide +kernel
theorem dX7_harm_16 : decode cX7_harm 16 = .ok (.iaload, 1) := by decide +kernel
theorem dX7_harm_17 : decode cX7_harm 17 = .ok (.invokevirtual 179, 3) := by decide +kernel
theorem dX7_harm_20 : decode cX7_harm 20 = .ok (.aload_n 0, 1) := by decide +kernel
theorem dX7_harm_21 : decode cX7_harm 21 = .ok (.iload_n 1, 1) := by decide +kernel
theorem dX7_harm_22 : decode cX7_harm 22 = .ok (.invokevirtual 179, 3) := by decide +kernel
theorem dX7_harm_25 : decode cX7_harm 25 = .ok (.iconst (-1), 1) := by decide +kernel
theorem dX7_harm_26 : decode cX7_harm 26 = .ok (.ixor, 1) := by decide +kernel
theorem dX7_harm_27 : decode cX7_harm 27 = .ok (.iand, 1) := by decide +kernel
theorem dX7_harm_28 : decode cX7_harm 28 = .ok (.goto 4, 3) := by decide +kernel
theorem dX7_harm_31 : decode cX7_harm 31 = .ok (.iconst (-1), 1) := by decide +kernel
theorem dX7_harm_32 : decode cX7_harm 32 = .ok (.ireturn, 1) := by decide +kernel
theorem dX7_isFor_0 : decode cX7_isFor 0 = .ok (.aload_n 0, 1) := by decide +kernel
theorem dX7_isFor_1 : decode cX7_isFor 1 = .ok (.aload_n 0, 1) := by decide +kernel
theorem dX7_isFor_2 : decode cX7_isFor 2 = .ok (.getfield 41, 3) := by decide +kernel
theorem dX7_isFor_5 : decode cX7_isFor 5 = .ok (.iload_n 1, 1) := by decide +kernel
theorem dX7_isFor_6 : decode cX7_isFor 6 = .ok (.iload_n 2, 1) := by decide +kernel
theorem dX7_isFor_7 : decode cX7_isFor 7 = .ok (.invokevirtual 160, 3) := by decide +kernel
theorem dX7_isFor_10 : decode cX7_isFor 10 = .ok (.ifCond .eq 20, 3) := by decide +kernel
theorem dX7_isFor_13 : decode cX7_isFor 13 = .ok (.aload_n 0, 1) := by decide +kernel
theorem dX7_isFor_14 : decode cX7_isFor 14 = .ok (.aload_n 0, 1) := by decide +kernel
theorem dX7_isFor_15 : decode cX7_isFor 15 = .ok (.getfield 41, 3) := by decide +kernel
theorem dX7_isFor_18 : decode cX7_isFor 18 = .ok (.iload_n 1, 1) := by decide +kernel
theorem dX7_isFor_19 : decode cX7_isFor 19 = .ok (.iload_n 2, 1) := by decide +kernel
theorem dX7_isFor_20 : decode cX7_isFor 20 = .ok (.invokevirtual 136, 3) := by decide +kernel
theorem dX7_isFor_23 : decode cX7_isFor 23 = .ok (.ifCond .eq 7, 3) := by decide +kernel
theorem dX7_isFor_26 : decode cX7_isFor 26 = .ok (.iconst 1, 1) := by decide +kernel
theorem dX7_isFor_27 : decode cX7_isFor 27 = .ok (.goto 4, 3) := by decide +kernel
theorem dX7_isFor_30 : decode cX7_isFor 30 = .ok (.iconst 0, 1) := by decide +kernel
theorem dX7_isFor_31 : decode cX7_isFor 31 = .ok (.ireturn, 1) := by decide +kernel
theorem dX7_measure_0 : decode cX7_measure 0 = .ok (.iconst 0, 1) := by decide +kernel
theorem dX7_measure_1 : decode cX7_measure 1 = .ok (.istore_n 1, 1) := by decide +kernel
theorem dX7_measure_2 : decode cX7_measure 2 = .ok (.iload_n 1, 1) := by decide +kernel
theorem dX7_measure_3 : decode cX7_measure 3 = .ok (.sipush 512, 3) := by decide +kernel
theorem dX7_measure_6 : decode cX7_measure 6 = .ok (.if_icmp .ge 27, 3) := by decide +kernel
theorem dX7_measure_9 : decode cX7_measure 9 = .ok (.aload_n 0, 1) := by decide +kernel
theorem dX7_measure_10 : decode cX7_measure 10 = .ok (.getfield 53, 3) := by decide +kernel
theorem dX7_measure_13 : decode cX7_measure 13 = .ok (.sipush 512, 3) := by decide +kernel
theorem dX7_measure_16 : decode cX7_measure 16 = .ok (.aload_n 0, 1) := by decide +kernel
theorem dX7_measure_17 : decode cX7_measure 17 = .ok (.getfield 13, 3) := by decide +kernel
theorem dX7_measure_20 : decode cX7_measure 20 = .ok (.iconst 0, 1) := by decide +kernel
theorem dX7_measure_21 : decode cX7_measure 21 = .ok (.iaload, 1) := by decide +kernel
theorem dX7_measure_22 : decode cX7_measure 22 = .ok (.imul, 1) := by decide +kernel
theorem dX7_measure_23 : decode cX7_measure 23 = .ok (.iload_n 1, 1) := by decide +kernel
theorem dX7_measure_24 : decode cX7_measure 24 = .ok (.iadd, 1) := by decide +kernel
theorem dX7_measure_25 : decode cX7_measure 25 = .ok (.iconst 0, 1) := by decide +kernel
theorem dX7_measure_26 : decode cX7_measure 26 = .ok (.iastore, 1) := by decide +kernel
theorem dX7_measure_27 : decode cX7_measure 27 = .ok (.iinc 1 1, 3) := by decide +kernel
theorem dX7_measure_30 : decode cX7_measure 30 = .ok (.goto (-28), 3) := by decide +kernel
theorem dX7_measure_33 : decode cX7_measure 33 = .ok (.aload_n 0, 1) := by decide +kernel
theorem dX7_measure_34 : decode cX7_measure 34 = .ok (.getfield 13, 3) := by decide +kernel
theorem dX7_measure_37 : decode cX7_measure 37 = .ok (.iconst 0, 1) := by decide +kernel
theorem dX7_measure_38 : decode cX7_measure 38 = .ok (.iaload, 1) := by decide +kernel
theorem dX7_measure_39 : decode cX7_measure 39 = .ok (.iconst 1, 1) := by decide +kernel
theorem dX7_measure_40 : decode cX7_measure 40 = .ok (.isub, 1) := by decide +kernel
theorem dX7_measure_41 : decode cX7_measure 41 = .ok (.istore_n 1, 1) := by decide +kernel
theorem dX7_measure_42 : decode cX7_measure 42 = .ok (.iload_n 1, 1) := by decide +kernel
theorem dX7_measure_43 : decode cX7_measure 43 = .ok (.ifCond .lt 131, 3) := by decide +kernel
theorem dX7_measure_46 : decode cX7_measure 46 = .ok (.iconst 0, 1) := by decide +kernel
theorem dX7_measure_47 : decode cX7_measure 47 = .ok (.istore_n 2, 1) := by decide +kernel
theorem dX7_measure_48 : decode cX7_measure 48 = .ok (.iload_n 2, 1) := by decide +kernel
theorem dX7_measure_49 : decode cX7_measure 49 = .ok (.sipush 512, 3) := by decide +kernel
theorem dX7_measure_52 : decode cX7_measure 52 = .ok (.if_icmp .ge 116, 3) := by decide +kernel
theorem dX7_measure_55 : decode cX7_measure 55 = .ok (.aload_n 0, 1) := by decide +kernel
theorem dX7_measure_56 : decode cX7_measure 56 = .ok (.getfield 53, 3) := by decide +kernel
theorem dX7_measure_59 : decode cX7_measure 59 = .ok (.sipush 512, 3) := by decide +kernel
theorem dX7_measure_62 : decode cX7_measure 62 = .ok (.iload_n 1, 1) := by decide +kernel
theorem dX7_measure_63 : decode cX7_measure 63 = .ok (.iconst 1, 1) := by decide +kernel
theorem dX7_measure_64 : decode cX7_measure 64 = .ok (.iadd, 1) := by decide +kernel
theorem dX7_measure_65 : decode cX7_measure 65 = .ok (.imul, 1) := by decide +kernel
theorem dX7_measure_66 : decode cX7_measure 66 = .ok (.iload_n 2, 1) := by decide +kernel
theorem dX7_measure_67 : decode cX7_measure 67 = .ok (.iadd, 1) := by decide +kernel
theorem dX7_measure_68 : decode cX7_measure 68 = .ok (.iaload, 1) := by decide +kernel
theorem dX7_measure_69 : decode cX7_measure 69 = .ok (.istore_n 3, 1) := by decide +kernel
theorem dX7_measure_70 : decode cX7_measure 70 = .ok (.iconst 0, 1) := by decide +kernel
theorem dX7_measure_71 : decode cX7_measure 71 = .ok (.istore 4, 2) := by decide +kernel
theorem dX7_measure_73 : decode cX7_measure 73 = .ok (.iload 4, 2) := by decide +kernel
theorem dX7_measure_75 : decode cX7_measure 75 = .ok (.aload_n 0, 1) := by decide +kernel
theorem dX7_measure_76 : decode cX7_measure 76 = .ok (.getfield 13, 3) := by decide +kernel
theorem dX7_measure_79 : decode cX7_measure 79 = .ok (.iconst 0, 1) := by decide +kernel
theorem dX7_measure_80 : decode cX7_measure 80 = .ok (.iaload, 1) := by decide +kernel
theorem dX7_measure_81 : decode cX7_measure 81 = .ok (.if_icmp .ge 68, 3) := by decide +kernel
theorem dX7_measure_84 : decode cX7_measure 84 = .ok (.iload_n 2, 1) := by decide +kernel
theorem dX7_measure_85 : decode cX7_measure 85 = .ok (.iload 4, 2) := by decide +kernel
theorem dX7_measure_87 : decode cX7_measure 87 = .ok (.ishr, 1) := by decide +kernel
theorem dX7_measure_88 : decode cX7_measure 88 = .ok (.iconst 1, 1) := by decide +kernel
theorem dX7_measure_89 : decode cX7_measure 89 = .ok (.iand, 1) := by decide +kernel
theorem dX7_measure_90 : decode cX7_measure 90 = .ok (.ifCond .ne 37, 3) := by decide +kernel
theorem dX7_measure_93 : decode cX7_measure 93 = .ok (.aload_n 0, 1) := by decide +kernel
theorem dX7_measure_94 : decode cX7_measure 94 = .ok (.iload_n 1, 1) := by decide +kernel
theorem dX7_measure_95 : decode cX7_measure 95 = .ok (.iload 4, 2) := by decide +kernel
theorem dX7_measure_97 : decode cX7_measure 97 = .ok (.invokevirtual 183, 3) := by decide +kernel
theorem dX7_measure_100 : decode cX7_measure 100 = .ok (.ifCond .eq 27, 3) := by decide +kernel
theorem dX7_measure_103 : decode cX7_measure 103 = .ok (.iconst 1, 1) := by decide +kernel
theorem dX7_measure_104 : decode cX7_measure 104 = .ok (.aload_n 0, 1) := by decide +kernel
theorem dX7_measure_105 : decode cX7_measure 105 = .ok (.getfield 53, 3) := by decide +kernel
theorem dX7_measure_108 : decode cX7_measure 108 = .ok (.sipush 512, 3) := by decide +kernel
theorem dX7_measure_111 : decode cX7_measure 111 = .ok (.iload_n 1, 1) := by decide +kernel
theorem dX7_measure_112 : decode cX7_measure 112 = .ok (.iconst 1, 1) := by decide +kernel
theorem dX7_measure_113 : decode cX7_measure 113 = .ok (.iadd, 1) := by decide +kernel
theorem dX7_measure_114 : decode cX7_measure 114 = .ok (.imul, 1) := by decide +kernel
theorem dX7_measure_115 : decode cX7_measure 115 = .ok (.iload_n 2, 1) := by decide +kernel
theorem dX7_measure_116 : decode cX7_measure 116 = .ok (.iconst 1, 1) := by decide +kernel
theorem dX7_measure_117 : decode cX7_measure 117 = .ok (.iload 4, 2) := by decide +kernel
theorem dX7_measure_119 : decode cX7_measure 119 = .ok (.ishl, 1) := by decide +kernel
theorem dX7_measure_120 : decode cX7_measure 120 = .ok (.ior, 1) := by decide +kernel
theorem dX7_measure_121 : decode cX7_measure 121 = .ok (.iadd, 1) := by decide +kernel
theorem dX7_measure_122 : decode cX7_measure 122 = .ok (.iaload, 1) := by decide +kernel
theorem dX7_measure_123 : decode cX7_measure 123 = .ok (.iadd, 1) := by decide +kernel
theorem dX7_measure_124 : decode cX7_measure 124 = .ok (.goto 4, 3) := by decide +kernel
theorem dX7_measure_127 : decode cX7_measure 127 = .ok (.iconst 0, 1) := by decide +kernel
theorem dX7_measure_128 : decode cX7_measure 128 = .ok (.istore 5, 2) := by decide +kernel
theorem dX7_measure_130 : decode cX7_measure 130 = .ok (.iload 5, 2) := by decide +kernel
theorem dX7_measure_132 : decode cX7_measure 132 = .ok (.iload_n 3, 1) := by decide +kernel
theorem dX7_measure_133 : decode cX7_measure 133 = .ok (.if_icmp .le 8, 3) := by decide +kernel
theorem dX7_measure_136 : decode cX7_measure 136 = .ok (.iload 5, 2) := by decide +kernel
theorem dX7_measure_138 : decode cX7_measure 138 = .ok (.goto 4, 3) := by decide +kernel
theorem dX7_measure_141 : decode cX7_measure 141 = .ok (.iload_n 3, 1) := by decide +kernel
theorem dX7_measure_142 : decode cX7_measure 142 = .ok (.istore_n 3, 1) := by decide +kernel
theorem dX7_measure_143 : decode cX7_measure 143 = .ok (.iinc 4 1, 3) := by decide +kernel
theorem dX7_measure_146 : decode cX7_measure 146 = .ok (.goto (-73), 3) := by decide +kernel
theorem dX7_measure_149 : decode cX7_measure 149 = .ok (.aload_n 0, 1) := by decide +kernel
theorem dX7_measure_150 : decode cX7_measure 150 = .ok (.getfield 53, 3) := by decide +kernel
theorem dX7_measure_153 : decode cX7_measure 153 = .ok (.sipush 512, 3) := by decide +kernel
theorem dX7_measure_156 : decode cX7_measure 156 = .ok (.iload_n 1, 1) := by decide +kernel
theorem dX7_measure_157 : decode cX7_measure 157 = .ok (.imul, 1) := by decide +kernel
theorem dX7_measure_158 : decode cX7_measure 158 = .ok (.iload_n 2, 1) := by decide +kernel
theorem dX7_measure_159 : decode cX7_measure 159 = .ok (.iadd, 1) := by decide +kernel
theorem dX7_measure_160 : decode cX7_measure 160 = .ok (.iload_n 3, 1) := by decide +kernel
theorem dX7_measure_161 : decode cX7_measure 161 = .ok (.iastore, 1) := by decide +kernel
theorem dX7_measure_162 : decode cX7_measure 162 = .ok (.iinc 2 1, 3) := by decide +kernel
theorem dX7_measure_165 : decode cX7_measure 165 = .ok (.goto (-117), 3) := by decide +kernel
theorem dX7_measure_168 : decode cX7_measure 168 = .ok (.iinc 1 (-1), 3) := by decide +kernel
theorem dX7_measure_171 : decode cX7_measure 171 = .ok (.goto (-129), 3) := by decide +kernel
theorem dX7_measure_174 : decode cX7_measure 174 = .ok (.return_, 1) := by decide +kernel
theorem dX7_giveAll_0 : decode cX7_giveAll 0 = .ok (.aload_n 0, 1) := by decide +kernel
theorem dX7_giveAll_1 : decode cX7_giveAll 1 = .ok (.invokevirtual 186, 3) := by decide +kernel
theorem dX7_giveAll_4 : decode cX7_giveAll 4 = .ok (.iconst 0, 1) := by decide +kernel
theorem dX7_giveAll_5 : decode cX7_giveAll 5 = .ok (.istore_n 1, 1) := by decide +kernel
theorem dX7_giveAll_6 : decode cX7_giveAll 6 = .ok (.iconst 0, 1) := by decide +kernel
theorem dX7_giveAll_7 : decode cX7_giveAll 7 = .ok (.istore_n 2, 1) := by decide +kernel
theorem dX7_giveAll_8 : decode cX7_giveAll 8 = .ok (.iload_n 2, 1) := by decide +kernel
theorem dX7_giveAll_9 : decode cX7_giveAll 9 = .ok (.aload_n 0, 1) := by decide +kernel
theorem dX7_giveAll_10 : decode cX7_giveAll 10 = .ok (.getfield 13, 3) := by decide +kernel
theorem dX7_giveAll_13 : decode cX7_giveAll 13 = .ok (.iconst 0, 1) := by decide +kernel
theorem dX7_giveAll_14 : decode cX7_giveAll 14 = .ok (.iaload, 1) := by decide +kernel
theorem dX7_giveAll_15 : decode cX7_giveAll 15 = .ok (.if_icmp .ge 148, 3) := by decide +kernel
theorem dX7_giveAll_18 : decode cX7_giveAll 18 = .ok (.aload_n 0, 1) := by decide +kernel
theorem dX7_giveAll_19 : decode cX7_giveAll 19 = .ok (.getfield 56, 3) := by decide +kernel
theorem dX7_giveAll_22 : decode cX7_giveAll 22 = .ok (.iload_n 2, 1) := by decide +kernel
theorem dX7_giveAll_23 : decode cX7_giveAll 23 = .ok (.bipush (-4), 2) := by decide +kernel
theorem dX7_giveAll_25 : decode cX7_giveAll 25 = .ok (.iastore, 1) := by decide +kernel
theorem dX7_giveAll_26 : decode cX7_giveAll 26 = .ok (.iconst 0, 1) := by decide +kernel
theorem dX7_giveAll_27 : decode cX7_giveAll 27 = .ok (.istore_n 3, 1) := by decide +kernel
theorem dX7_giveAll_28 : decode cX7_giveAll 28 = .ok (.iload_n 3, 1) := by decide +kernel
theorem dX7_giveAll_29 : decode cX7_giveAll 29 = .ok (.aload_n 0, 1) := by decide +kernel
theorem dX7_giveAll_30 : decode cX7_giveAll 30 = .ok (.getfield 13, 3) := by decide +kernel
theorem dX7_giveAll_33 : decode cX7_giveAll 33 = .ok (.iconst 0, 1) := by decide +kernel
theorem dX7_giveAll_34 : decode cX7_giveAll 34 = .ok (.iaload, 1) := by decide +kernel
theorem dX7_giveAll_35 : decode cX7_giveAll 35 = .ok (.if_icmp .ge 96, 3) := by decide +kernel
theorem dX7_giveAll_38 : decode cX7_giveAll 38 = .ok (.aload_n 0, 1) := by decide +kernel
theorem dX7_giveAll_39 : decode cX7_giveAll 39 = .ok (.getfield 56, 3) := by decide +kernel
theorem dX7_giveAll_42 : decode cX7_giveAll 42 = .ok (.iload_n 2, 1) := by decide +kernel
theorem dX7_giveAll_43 : decode cX7_giveAll 43 = .ok (.iaload, 1) := by decide +kernel
theorem dX7_giveAll_44 : decode cX7_giveAll 44 = .ok (.bipush (-4), 2) := by decide +kernel
theorem dX7_giveAll_46 : decode cX7_giveAll 46 = .ok (.if_icmp .ne 85, 3) := by decide +kernel
theorem dX7_giveAll_49 : decode cX7_giveAll 49 = .ok (.iload_n 1, 1) := by decide +kernel
theorem dX7_giveAll_50 : decode cX7_giveAll 50 = .ok (.iload_n 3, 1) := by decide +kernel
theorem dX7_giveAll_51 : decode cX7_giveAll 51 = .ok (.ishr, 1) := by decide +kernel
theorem dX7_giveAll_52 : decode cX7_giveAll 52 = .ok (.iconst 1, 1) := by decide +kernel
theorem dX7_giveAll_53 : decode cX7_giveAll 53 = .ok (.iand, 1) := by decide +kernel
theorem dX7_giveAll_54 : decode cX7_giveAll 54 = .ok (.ifCond .ne 16, 3) := by decide +kernel
theorem dX7_giveAll_57 : decode cX7_giveAll 57 = .ok (.aload_n 0, 1) := by decide +kernel
theorem dX7_giveAll_58 : decode cX7_giveAll 58 = .ok (.iload_n 2, 1) := by decide +kernel
theorem dX7_giveAll_59 : decode cX7_giveAll 59 = .ok (.iload_n 3, 1) := by decide +kernel
theorem dX7_giveAll_60 : decode cX7_giveAll 60 = .ok (.invokevirtual 183, 3) := by decide +kernel
theorem dX7_giveAll_63 : decode cX7_giveAll 63 = .ok (.ifCond .eq 7, 3) := by decide +kernel
theorem dX7_giveAll_66 : decode cX7_giveAll 66 = .ok (.iconst 1, 1) := by decide +kernel
theorem dX7_giveAll_67 : decode cX7_giveAll 67 = .ok (.goto 4, 3) := by decide +kernel
theorem dX7_giveAll_70 : decode cX7_giveAll 70 = .ok (.iconst 0, 1) := by decide +kernel
theorem dX7_giveAll_71 : decode cX7_giveAll 71 = .ok (.istore 4, 2) := by decide +kernel
theorem dX7_giveAll_73 : decode cX7_giveAll 73 = .ok (.aload_n 0, 1) := by decide +kernel
theorem dX7_giveAll_74 : decode cX7_giveAll 74 = .ok (.getfield 56, 3) := by decide +kernel
theorem dX7_giveAll_77 : decode cX7_giveAll 77 = .ok (.iload_n 2, 1) := by decide +kernel
theorem dX7_giveAll_78 : decode cX7_giveAll 78 = .ok (.iload 4, 2) := by decide +kernel
theorem dX7_giveAll_80 : decode cX7_giveAll 80 = .ok (.ifCond .eq 42, 3) := by decide +kernel
theorem dX7_giveAll_83 : decode cX7_giveAll 83 = .ok (.iconst 1, 1) := by decide +kernel
theorem dX7_giveAll_84 : decode cX7_giveAll 84 = .ok (.aload_n 0, 1) := by decide +kernel
theorem dX7_giveAll_85 : decode cX7_giveAll 85 = .ok (.getfield 53, 3) := by decide +kernel
theorem dX7_giveAll_88 : decode cX7_giveAll 88 = .ok (.sipush 512, 3) := by decide +kernel
theorem dX7_giveAll_91 : decode cX7_giveAll 91 = .ok (.iload_n 2, 1) := by decide +kernel
theorem dX7_giveAll_92 : decode cX7_giveAll 92 = .ok (.iconst 1, 1) := by decide +kernel
theorem dX7_giveAll_93 : decode cX7_giveAll 93 = .ok (.iadd, 1) := by decide +kernel
theorem dX7_giveAll_94 : decode cX7_giveAll 94 = .ok (.imul, 1) := by decide +kernel
theorem dX7_giveAll_95 : decode cX7_giveAll 95 = .ok (.iload_n 1, 1) := by decide +kernel
theorem dX7_giveAll_96 : decode cX7_giveAll 96 = .ok (.iconst 1, 1) := by decide +kernel
theorem dX7_giveAll_97 : decode cX7_giveAll 97 = .ok (.iload_n 3, 1) := by decide +kernel
theorem dX7_giveAll_98 : decode cX7_giveAll 98 = .ok (.ishl, 1) := by decide +kernel
theorem dX7_giveAll_99 : decode cX7_giveAll 99 = .ok (.ior, 1) := by decide +kernel
theorem dX7_giveAll_100 : decode cX7_giveAll 100 = .ok (.iadd, 1) := by decide +kernel
theorem dX7_giveAll_101 : decode cX7_giveAll 101 = .ok (.iaload, 1) := by decide +kernel
theorem dX7_giveAll_102 : decode cX7_giveAll 102 = .ok (.iadd, 1) := by decide +kernel
theorem dX7_giveAll_103 : decode cX7_giveAll 103 = .ok (.aload_n 0, 1) := by decide +kernel
theorem dX7_giveAll_104 : decode cX7_giveAll 104 = .ok (.getfield 53, 3) := by decide +kernel
theorem dX7_giveAll_107 : decode cX7_giveAll 107 = .ok (.sipush 512, 3) := by decide +kernel
theorem dX7_giveAll_110 : decode cX7_giveAll 110 = .ok (.iload_n 2, 1) := by decide +kernel
theorem dX7_giveAll_111 : decode cX7_giveAll 111 = .ok (.imul, 1) := by decide +kernel
theorem dX7_giveAll_112 : decode cX7_giveAll 112 = .ok (.iload_n 1, 1) := by decide +kernel
theorem dX7_giveAll_113 : decode cX7_giveAll 113 = .ok (.iadd, 1) := by decide +kernel
theorem dX7_giveAll_114 : decode cX7_giveAll 114 = .ok (.iaload, 1) := by decide +kernel
theorem dX7_giveAll_115 : decode cX7_giveAll 115 = .ok (.if_icmp .ne 7, 3) := by decide +kernel
theorem dX7_giveAll_118 : decode cX7_giveAll 118 = .ok (.iload_n 3, 1) := by decide +kernel
theorem dX7_giveAll_119 : decode cX7_giveAll 119 = .ok (.goto 5, 3) := by decide +kernel
theorem dX7_giveAll_122 : decode cX7_giveAll 122 = .ok (.bipush (-4), 2) := by decide +kernel
theorem dX7_giveAll_124 : decode cX7_giveAll 124 = .ok (.iastore, 1) := by decide +kernel
theorem dX7_giveAll_125 : decode cX7_giveAll 125 = .ok (.iinc 3 1, 3) := by decide +kernel
theorem dX7_giveAll_128 : decode cX7_giveAll 128 = .ok (.goto (-100), 3) := by decide +kernel
theorem dX7_giveAll_131 : decode cX7_giveAll 131 = .ok (.iload_n 1, 1) := by decide +kernel
theorem dX7_giveAll_132 : decode cX7_giveAll 132 = .ok (.aload_n 0, 1) := by decide +kernel
theorem dX7_giveAll_133 : decode cX7_giveAll 133 = .ok (.getfield 56, 3) := by decide +kernel
theorem dX7_giveAll_136 : decode cX7_giveAll 136 = .ok (.iload_n 2, 1) := by decide +kernel
theorem dX7_giveAll_137 : decode cX7_giveAll 137 = .ok (.iaload, 1) := by decide +kernel
theorem dX7_giveAll_138 : decode cX7_giveAll 138 = .ok (.bipush (-4), 2) := by decide +kernel
theorem dX7_giveAll_140 : decode cX7_giveAll 140 = .ok (.if_icmp .ne 7, 3) := by decide +kernel
theorem dX7_giveAll_143 : decode cX7_giveAll 143 = .ok (.iconst 0, 1) := by decide +kernel
theorem dX7_giveAll_144 : decode cX7_giveAll 144 = .ok (.goto 11, 3) := by decide +kernel
theorem dX7_giveAll_147 : decode cX7_giveAll 147 = .ok (.iconst 1, 1) := by decide +kernel
theorem dX7_giveAll_148 : decode cX7_giveAll 148 = .ok (.aload_n 0, 1) := by decide +kernel
theorem dX7_giveAll_149 : decode cX7_giveAll 149 = .ok (.getfield 56, 3) := by decide +kernel
theorem dX7_giveAll_152 : decode cX7_giveAll 152 = .ok (.iload_n 2, 1) := by decide +kernel
theorem dX7_giveAll_153 : decode cX7_giveAll 153 = .ok (.iaload, 1) := by decide +kernel
theorem dX7_giveAll_154 : decode cX7_giveAll 154 = .ok (.ishl, 1) := by decide +kernel
theorem dX7_giveAll_155 : decode cX7_giveAll 155 = .ok (.ior, 1) := by decide +kernel
theorem dX7_giveAll_156 : decode cX7_giveAll 156 = .ok (.istore_n 1, 1) := by decide +kernel
theorem dX7_giveAll_157 : decode cX7_giveAll 157 = .ok (.iinc 2 1, 3) := by decide +kernel
theorem dX7_giveAll_160 : decode cX7_giveAll 160 = .ok (.goto (-152), 3) := by decide +kernel
theorem dX7_giveAll_163 : decode cX7_giveAll 163 = .ok (.return_, 1) := by decide +kernel
theorem dX7_share_0 : decode cX7_share 0 = .ok (.iload_n 1, 1) := by decide +kernel
theorem dX7_share_1 : decode cX7_share 1 = .ok (.iconst (-1), 1) := by decide +kernel
theorem dX7_share_2 : decode cX7_share 2 = .ok (.if_icmp .eq 13, 3) := by decide +kernel
theorem dX7_share_5 : decode cX7_share 5 = .ok (.aload_n 0, 1) := by decide +kernel
theorem dX7_share_6 : decode cX7_share 6 = .ok (.iload_n 1, 1) := by decide +kernel
theorem dX7_share_7 : decode cX7_share 7 = .ok (.invokevirtual 132, 3) := by decide +kernel
theorem dX7_share_10 : decode cX7_share 10 = .ok (.ifCond .ne 5, 3) := by decide +kernel
theorem dX7_share_13 : decode cX7_share 13 = .ok (.iconst (-1), 1) := by decide +kernel
theorem dX7_share_14 : decode cX7_share 14 = .ok (.ireturn, 1) := by decide +kernel
theorem dX7_share_15 : decode cX7_share 15 = .ok (.aload_n 0, 1) := by decide +kernel
theorem dX7_share_16 : decode cX7_share 16 = .ok (.invokevirtual 189, 3) := by decide +kernel
theorem dX7_share_19 : decode cX7_share 19 = .ok (.iload_n 1, 1) := by decide +kernel
theorem dX7_share_20 : decode cX7_share 20 = .ok (.iconst (-1), 1) := by decide +kernel
theorem dX7_share_21 : decode cX7_share 21 = .ok (.if_icmp .ne 12, 3) := by decide +kernel
theorem dX7_share_24 : decode cX7_share 24 = .ok (.aload_n 0, 1) := by decide +kernel
theorem dX7_share_25 : decode cX7_share 25 = .ok (.getfield 53, 3) := by decide +kernel
theorem dX7_share_28 : decode cX7_share 28 = .ok (.iconst 0, 1) := by decide +kernel
theorem dX7_share_29 : decode cX7_share 29 = .ok (.iaload, 1) := by decide +kernel
theorem dX7_share_30 : decode cX7_share 30 = .ok (.goto 9, 3) := by decide +kernel
theorem dX7_share_33 : decode cX7_share 33 = .ok (.aload_n 0, 1) := by decide +kernel
theorem dX7_share_34 : decode cX7_share 34 = .ok (.getfield 56, 3) := by decide +kernel
theorem dX7_share_37 : decode cX7_share 37 = .ok (.iload_n 1, 1) := by decide +kernel
theorem dX7_share_38 : decode cX7_share 38 = .ok (.iaload, 1) := by decide +kernel
theorem dX7_share_39 : decode cX7_share 39 = .ok (.ireturn, 1) := by decide +kernel
theorem dX7_round_0 : decode cX7_round 0 = .ok (.aload_n 0, 1) := by decide +kernel
theorem dX7_round_1 : decode cX7_round 1 = .ok (.invokevirtual 189, 3) := by decide +kernel
theorem dX7_round_4 : decode cX7_round 4 = .ok (.iconst 0, 1) := by decide +kernel
theorem dX7_round_5 : decode cX7_round 5 = .ok (.istore_n 1, 1) := by decide +kernel
theorem dX7_round_6 : decode cX7_round 6 = .ok (.iconst 0, 1) := by decide +kernel
theorem dX7_round_7 : decode cX7_round 7 = .ok (.istore_n 2, 1) := by decide +kernel
theorem dX7_round_8 : decode cX7_round 8 = .ok (.iload_n 2, 1) := by decide +kernel
theorem dX7_round_9 : decode cX7_round 9 = .ok (.aload_n 0, 1) := by decide +kernel
theorem dX7_round_10 : decode cX7_round 10 = .ok (.getfield 13, 3) := by decide +kernel
theorem dX7_round_13 : decode cX7_round 13 = .ok (.iconst 0, 1) := by decide +kernel
theorem dX7_round_14 : decode cX7_round 14 = .ok (.iaload, 1) := by decide +kernel
theorem dX7_round_15 : decode cX7_round 15 = .ok (.if_icmp .ge 38, 3) := by decide +kernel
theorem dX7_round_18 : decode cX7_round 18 = .ok (.iload_n 1, 1) := by decide +kernel
theorem dX7_round_19 : decode cX7_round 19 = .ok (.aload_n 0, 1) := by decide +kernel
theorem dX7_round_20 : decode cX7_round 20 = .ok (.getfield 56, 3) := by decide +kernel
theorem dX7_round_23 : decode cX7_round 23 = .ok (.iload_n 2, 1) := by decide +kernel
theorem dX7_round_24 : decode cX7_round 24 = .ok (.iaload, 1) := by decide +kernel
theorem dX7_round_25 : decode cX7_round 25 = .ok (.bipush (-4), 2) := by decide +kernel
theorem dX7_round_27 : decode cX7_round 27 = .ok (.if_icmp .eq 17, 3) := by decide +kernel
theorem dX7_round_30 : decode cX7_round 30 = .ok (.aload_n 0, 1) := by decide +kernel
theorem dX7_round_31 : decode cX7_round 31 = .ok (.getfield 56, 3) := by decide +kernel
theorem dX7_round_34 : decode cX7_round 34 = .ok (.iload_n 2, 1) := by decide +kernel
theorem dX7_round_35 : decode cX7_round 35 = .ok (.iaload, 1) := by decide +kernel
theorem dX7_round_36 : decode cX7_round 36 = .ok (.iload_n 2, 1) := by decide +kernel
theorem dX7_round_37 : decode cX7_round 37 = .ok (.if_icmp .eq 7, 3) := by decide +kernel
theorem dX7_round_40 : decode cX7_round 40 = .ok (.iconst 1, 1) := by decide +kernel
theorem dX7_round_41 : decode cX7_round 41 = .ok (.goto 4, 3) := by decide +kernel
theorem dX7_round_44 : decode cX7_round 44 = .ok (.iconst 0, 1) := by decide +kernel
theorem dX7_round_45 : decode cX7_round 45 = .ok (.iadd, 1) := by decide +kernel
theorem dX7_round_46 : decode cX7_round 46 = .ok (.istore_n 1, 1) := by decide +kernel
theorem dX7_round_47 : decode cX7_round 47 = .ok (.iinc 2 1, 3) := by decide +kernel
theorem dX7_round_50 : decode cX7_round 50 = .ok (.goto (-42), 3) := by decide +kernel
theorem dX7_round_53 : decode cX7_round 53 = .ok (.iload_n 1, 1) := by decide +kernel
theorem dX7_round_54 : decode cX7_round 54 = .ok (.ireturn, 1) := by decide +kernel
theorem dX7_seen_0 : decode cX7_seen 0 = .ok (.iload_n 1, 1) := by decide +kernel
theorem dX7_seen_1 : decode cX7_seen 1 = .ok (.iconst 0, 1) := by decide +kernel
theorem dX7_seen_2 : decode cX7_seen 2 = .ok (.iconst 3, 1) := by decide +kernel
theorem dX7_seen_3 : decode cX7_seen 3 = .ok (.invokestatic 78, 3) := by decide +kernel
theorem dX7_seen_6 : decode cX7_seen 6 = .ok (.ifCond .eq 32, 3) := by decide +kernel
theorem dX7_seen_9 : decode cX7_seen 9 = .ok (.iload_n 2, 1) := by decide +kernel
theorem dX7_seen_10 : decode cX7_seen 10 = .ok (.invokestatic 140, 3) := by decide +kernel
theorem dX7_seen_13 : decode cX7_seen 13 = .ok (.ifCond .eq 25, 3) := by decide +kernel
theorem dX7_seen_16 : decode cX7_seen 16 = .ok (.iload_n 3, 1) := by decide +kernel
theorem dX7_seen_17 : decode cX7_seen 17 = .ok (.iconst 1, 1) := by decide +kernel
theorem dX7_seen_18 : decode cX7_seen 18 = .ok (.bipush 9, 2) := by decide +kernel
theorem dX7_seen_20 : decode cX7_seen 20 = .ok (.invokestatic 78, 3) := by decide +kernel
theorem dX7_seen_23 : decode cX7_seen 23 = .ok (.ifCond .eq 15, 3) := by decide +kernel
theorem dX7_seen_26 : decode cX7_seen 26 = .ok (.iload 4, 2) := by decide +kernel
theorem dX7_seen_28 : decode cX7_seen 28 = .ok (.iconst 0, 1) := by decide +kernel
theorem dX7_seen_29 : decode cX7_seen 29 = .ok (.sipush 999, 3) := by decide +kernel
theorem dX7_seen_32 : decode cX7_seen 32 = .ok (.invokestatic 78, 3) := by decide +kernel
theorem dX7_seen_35 : decode cX7_seen 35 = .ok (.ifCond .ne 5, 3) := by decide +kernel
theorem dX7_seen_38 : decode cX7_seen 38 = .ok (.iconst (-1), 1) := by decide +kernel
theorem dX7_seen_39 : decode cX7_seen 39 = .ok (.ireturn, 1) := by decide +kernel
theorem dX7_seen_40 : decode cX7_seen 40 = .ok (.aload_n 0, 1) := by decide +kernel
theorem dX7_seen_41 : decode cX7_seen 41 = .ok (.getfield 111, 3) := by decide +kernel
theorem dX7_seen_44 : decode cX7_seen 44 = .ok (.bipush 6, 2) := by decide +kernel
theorem dX7_seen_46 : decode cX7_seen 46 = .ok (.if_icmp .ne 6, 3) := by decide +kernel
theorem dX7_seen_49 : decode cX7_seen 49 = .ok (.bipush (-3), 2) := by decide +kernel
theorem dX7_seen_51 : decode cX7_seen 51 = .ok (.ireturn, 1) := by decide +kernel
theorem dX7_seen_52 : decode cX7_seen 52 = .ok (.aload_n 0, 1) := by decide +kernel
theorem dX7_seen_53 : decode cX7_seen 53 = .ok (.getfield 59, 3) := by decide +kernel
theorem dX7_seen_56 : decode cX7_seen 56 = .ok (.aload_n 0, 1) := by decide +kernel
theorem dX7_seen_57 : decode cX7_seen 57 = .ok (.getfield 111, 3) := by decide +kernel
theorem dX7_seen_60 : decode cX7_seen 60 = .ok (.iload_n 1, 1) := by decide +kernel
theorem dX7_seen_61 : decode cX7_seen 61 = .ok (.iastore, 1) := by decide +kernel
theorem dX7_seen_62 : decode cX7_seen 62 = .ok (.aload_n 0, 1) := by decide +kernel
theorem dX7_seen_63 : decode cX7_seen 63 = .ok (.getfield 62, 3) := by decide +kernel
theorem dX7_seen_66 : decode cX7_seen 66 = .ok (.aload_n 0, 1) := by decide +kernel
theorem dX7_seen_67 : decode cX7_seen 67 = .ok (.getfield 111, 3) := by decide +kernel
theorem dX7_seen_70 : decode cX7_seen 70 = .ok (.iload_n 2, 1) := by decide +kernel
theorem dX7_seen_71 : decode cX7_seen 71 = .ok (.iastore, 1) := by decide +kernel
theorem dX7_seen_72 : decode cX7_seen 72 = .ok (.aload_n 0, 1) := by decide +kernel
theorem dX7_seen_73 : decode cX7_seen 73 = .ok (.getfield 65, 3) := by decide +kernel
theorem dX7_seen_76 : decode cX7_seen 76 = .ok (.aload_n 0, 1) := by decide +kernel
theorem dX7_seen_77 : decode cX7_seen 77 = .ok (.getfield 111, 3) := by decide +kernel
theorem dX7_seen_80 : decode cX7_seen 80 = .ok (.iload_n 3, 1) := by decide +kernel
theorem dX7_seen_81 : decode cX7_seen 81 = .ok (.iastore, 1) := by decide +kernel
theorem dX7_seen_82 : decode cX7_seen 82 = .ok (.aload_n 0, 1) := by decide +kernel
theorem dX7_seen_83 : decode cX7_seen 83 = .ok (.getfield 68, 3) := by decide +kernel
theorem dX7_seen_86 : decode cX7_seen 86 = .ok (.aload_n 0, 1) := by decide +kernel
theorem dX7_seen_87 : decode cX7_seen 87 = .ok (.getfield 111, 3) := by decide +kernel
theorem dX7_seen_90 : decode cX7_seen 90 = .ok (.iload 4, 2) := by decide +kernel
theorem dX7_seen_92 : decode cX7_seen 92 = .ok (.iastore, 1) := by decide +kernel
theorem dX7_seen_93 : decode cX7_seen 93 = .ok (.aload_n 0, 1) := by decide +kernel
theorem dX7_seen_94 : decode cX7_seen 94 = .ok (.dup, 1) := by decide +kernel
theorem dX7_seen_95 : decode cX7_seen 95 = .ok (.getfield 111, 3) := by decide +kernel
theorem dX7_seen_98 : decode cX7_seen 98 = .ok (.iconst 1, 1) := by decide +kernel
theorem dX7_seen_99 : decode cX7_seen 99 = .ok (.iadd, 1) := by decide +kernel
theorem dX7_seen_100 : decode cX7_seen 100 = .ok (.putfield 111, 3) := by decide +kernel
theorem dX7_seen_103 : decode cX7_seen 103 = .ok (.aload_n 0, 1) := by decide +kernel
theorem dX7_seen_104 : decode cX7_seen 104 = .ok (.getfield 111, 3) := by decide +kernel
theorem dX7_seen_107 : decode cX7_seen 107 = .ok (.ireturn, 1) := by decide +kernel
theorem dX7_forget_0 : decode cX7_forget 0 = .ok (.aload_n 0, 1) := by decide +kernel
theorem dX7_forget_1 : decode cX7_forget 1 = .ok (.getfield 111, 3) := by decide +kernel
theorem dX7_forget_4 : decode cX7_forget 4 = .ok (.istore_n 1, 1) := by decide +kernel
theorem dX7_forget_5 : decode cX7_forget 5 = .ok (.aload_n 0, 1) := by decide +kernel
theorem dX7_forget_6 : decode cX7_forget 6 = .ok (.iconst 0, 1) := by decide +kernel
theorem dX7_forget_7 : decode cX7_forget 7 = .ok (.putfield 111, 3) := by decide +kernel
theorem dX7_forget_10 : decode cX7_forget 10 = .ok (.iload_n 1, 1) := by decide +kernel
theorem dX7_forget_11 : decode cX7_forget 11 = .ok (.ireturn, 1) := by decide +kernel
theorem dX7_hot_0 : decode cX7_hot 0 = .ok (.iload_n 1, 1) := by decide +kernel
theorem dX7_hot_1 : decode cX7_hot 1 = .ok (.iconst 0, 1) := by decide +kernel
theorem dX7_hot_2 : decode cX7_hot 2 = .ok (.iconst 1, 1) := by decide +kernel
theorem dX7_hot_3 : decode cX7_hot 3 = .ok (.invokestatic 78, 3) := by decide +kernel
theorem dX7_hot_6 : decode cX7_hot 6 = .ok (.ifCond .ne 5, 3) := by decide +kernel
theorem dX7_hot_9 : decode cX7_hot 9 = .ok (.iconst (-1), 1) := by decide +kernel
theorem dX7_hot_10 : decode cX7_hot 10 = .ok (.ireturn, 1) := by decide +kernel
theorem dX7_hot_11 : decode cX7_hot 11 = .ok (.iconst 0, 1) := by decide +kernel
theorem dX7_hot_12 : decode cX7_hot 12 = .ok (.istore_n 2, 1) := by decide +kernel
theorem dX7_hot_13 : decode cX7_hot 13 = .ok (.bipush (-4), 2) := by decide +kernel
theorem dX7_hot_15 : decode cX7_hot 15 = .ok (.istore_n 3, 1) := by decide +kernel
theorem dX7_hot_16 : decode cX7_hot 16 = .ok (.iconst 0, 1) := by decide +kernel
theorem dX7_hot_17 : decode cX7_hot 17 = .ok (.istore 4, 2) := by decide +kernel
theorem dX7_hot_19 : decode cX7_hot 19 = .ok (.iload 4, 2) := by decide +kernel
theorem dX7_hot_21 : decode cX7_hot 21 = .ok (.bipush 30, 2) := by decide +kernel
theorem dX7_hot_23 : decode cX7_hot 23 = .ok (.if_icmp .gt 138, 3) := by decide +kernel
theorem dX7_hot_26 : decode cX7_hot 26 = .ok (.iconst 1, 1) := by decide +kernel
theorem dX7_hot_27 : decode cX7_hot 27 = .ok (.istore 5, 2) := by decide +kernel
theorem dX7_hot_29 : decode cX7_hot 29 = .ok (.iconst 0, 1) := by decide +kernel
theorem dX7_hot_30 : decode cX7_hot 30 = .ok (.istore 6, 2) := by decide +kernel
theorem dX7_hot_32 : decode cX7_hot 32 = .ok (.iload 6, 2) := by decide +kernel
theorem dX7_hot_34 : decode cX7_hot 34 = .ok (.aload_n 0, 1) := by decide +kernel
theorem dX7_hot_35 : decode cX7_hot 35 = .ok (.getfield 111, 3) := by decide +kernel
theorem dX7_hot_38 : decode cX7_hot 38 = .ok (.if_icmp .ge 88, 3) := by decide +kernel
theorem dX7_hot_41 : decode cX7_hot 41 = .ok (.aload_n 0, 1) := by decide +kernel
theorem dX7_hot_42 : decode cX7_hot 42 = .ok (.getfield 17, 3) := by decide +kernel
theorem dX7_hot_45 : decode cX7_hot 45 = .ok (.iconst 0, 1) := by decide +kernel
theorem dX7_hot_46 : decode cX7_hot 46 = .ok (.iaload, 1) := by decide +kernel
theorem dX7_hot_47 : decode cX7_hot 47 = .ok (.aload_n 0, 1) := by decide +kernel
theorem dX7_hot_48 : decode cX7_hot 48 = .ok (.getfield 65, 3) := by decide +kernel
theorem dX7_hot_51 : decode cX7_hot 51 = .ok (.iload 6, 2) := by decide +kernel
theorem dX7_hot_53 : decode cX7_hot 53 = .ok (.iaload, 1) := by decide +kernel
theorem dX7_hot_54 : decode cX7_hot 54 = .ok (.iadd, 1) := by decide +kernel
theorem dX7_hot_55 : decode cX7_hot 55 = .ok (.iconst 1, 1) := by decide +kernel
theorem dX7_hot_56 : decode cX7_hot 56 = .ok (.isub, 1) := by decide +kernel
theorem dX7_hot_57 : decode cX7_hot 57 = .ok (.aload_n 0, 1) := by decide +kernel
theorem dX7_hot_58 : decode cX7_hot 58 = .ok (.getfield 65, 3) := by decide +kernel
theorem dX7_hot_61 : decode cX7_hot 61 = .ok (.iload 6, 2) := by decide +kernel
theorem dX7_hot_63 : decode cX7_hot 63 = .ok (.iaload, 1) := by decide +kernel
theorem dX7_hot_64 : decode cX7_hot 64 = .ok (.idiv, 1) := by decide +kernel
theorem dX7_hot_65 : decode cX7_hot 65 = .ok (.istore 7, 2) := by decide +kernel
theorem dX7_hot_67 : decode cX7_hot 67 = .ok (.iload 5, 2) := by decide +kernel
theorem dX7_hot_69 : decode cX7_hot 69 = .ok (.ifCond .eq 48, 3) := by decide +kernel
theorem dX7_hot_72 : decode cX7_hot 72 = .ok (.iload 7, 2) := by decide +kernel
theorem dX7_hot_74 : decode cX7_hot 74 = .ok (.aload_n 0, 1) := by decide +kernel
theorem dX7_hot_75 : decode cX7_hot 75 = .ok (.getfield 59, 3) := by decide +kernel
theorem dX7_hot_78 : decode cX7_hot 78 = .ok (.iload 6, 2) := by decide +kernel
theorem dX7_hot_80 : decode cX7_hot 80 = .ok (.iaload, 1) := by decide +kernel
theorem dX7_hot_81 : decode cX7_hot 81 = .ok (.iload 4, 2) := by decide +kernel
theorem dX7_hot_83 : decode cX7_hot 83 = .ok (.aload_n 0, 1) := by decide +kernel
theorem dX7_hot_84 : decode cX7_hot 84 = .ok (.getfield 62, 3) := by decide +kernel
theorem dX7_hot_87 : decode cX7_hot 87 = .ok (.iload 6, 2) := by decide +kernel
theorem dX7_hot_89 : decode cX7_hot 89 = .ok (.iaload, 1) := by decide +kernel
theorem dX7_hot_90 : decode cX7_hot 90 = .ok (.ifCond .ne 7, 3) := by decide +kernel
theorem dX7_hot_93 : decode cX7_hot 93 = .ok (.iconst 2, 1) := by decide +kernel
theorem dX7_hot_94 : decode cX7_hot 94 = .ok (.goto 4, 3) := by decide +kernel
theorem dX7_hot_97 : decode cX7_hot 97 = .ok (.iconst 0, 1) := by decide +kernel
theorem dX7_hot_98 : decode cX7_hot 98 = .ok (.iadd, 1) := by decide +kernel
theorem dX7_hot_99 : decode cX7_hot 99 = .ok (.invokestatic 124, 3) := by decide +kernel
theorem dX7_hot_102 : decode cX7_hot 102 = .ok (.imul, 1) := by decide +kernel
theorem dX7_hot_103 : decode cX7_hot 103 = .ok (.aload_n 0, 1) := by decide +kernel
theorem dX7_hot_104 : decode cX7_hot 104 = .ok (.getfield 68, 3) := by decide +kernel
theorem dX7_hot_107 : decode cX7_hot 107 = .ok (.iload 6, 2) := by decide +kernel
theorem dX7_hot_109 : decode cX7_hot 109 = .ok (.iaload, 1) := by decide +kernel
theorem dX7_hot_110 : decode cX7_hot 110 = .ok (.if_icmp .ne 7, 3) := by decide +kernel
theorem dX7_hot_113 : decode cX7_hot 113 = .ok (.iconst 1, 1) := by decide +kernel
theorem dX7_hot_114 : decode cX7_hot 114 = .ok (.goto 4, 3) := by decide +kernel
theorem dX7_hot_117 : decode cX7_hot 117 = .ok (.iconst 0, 1) := by decide +kernel
theorem dX7_hot_118 : decode cX7_hot 118 = .ok (.istore 5, 2) := by decide +kernel
theorem dX7_hot_120 : decode cX7_hot 120 = .ok (.iinc 6 1, 3) := by decide +kernel
theorem dX7_hot_123 : decode cX7_hot 123 = .ok (.goto (-91), 3) := by decide +kernel
theorem dX7_hot_126 : decode cX7_hot 126 = .ok (.iload 5, 2) := by decide +kernel
theorem dX7_hot_128 : decode cX7_hot 128 = .ok (.ifCond .eq 12, 3) := by decide +kernel
theorem dX7_hot_131 : decode cX7_hot 131 = .ok (.iload_n 2, 1) := by decide +kernel
theorem dX7_hot_132 : decode cX7_hot 132 = .ok (.ifCond .ne 8, 3) := by decide +kernel
theorem dX7_hot_135 : decode cX7_hot 135 = .ok (.iload 4, 2) := by decide +kernel
theorem dX7_hot_137 : decode cX7_hot 137 = .ok (.goto 4, 3) := by decide +kernel
theorem dX7_hot_140 : decode cX7_hot 140 = .ok (.iload_n 3, 1) := by decide +kernel
theorem dX7_hot_141 : decode cX7_hot 141 = .ok (.istore_n 3, 1) := by decide +kernel
theorem dX7_hot_142 : decode cX7_hot 142 = .ok (.iload_n 2, 1) := by decide +kernel
theorem dX7_hot_143 : decode cX7_hot 143 = .ok (.iload 5, 2) := by decide +kernel
theorem dX7_hot_145 : decode cX7_hot 145 = .ok (.ifCond .eq 7, 3) := by decide +kernel
theorem dX7_hot_148 : decode cX7_hot 148 = .ok (.iconst 1, 1) := by decide +kernel
theorem dX7_hot_149 : decode cX7_hot 149 = .ok (.goto 4, 3) := by decide +kernel
theorem dX7_hot_152 : decode cX7_hot 152 = .ok (.iconst 0, 1) := by decide +kernel
theorem dX7_hot_153 : decode cX7_hot 153 = .ok (.iadd, 1) := by decide +kernel
theorem dX7_hot_154 : decode cX7_hot 154 = .ok (.istore_n 2, 1) := by decide +kernel
theorem dX7_hot_155 : decode cX7_hot 155 = .ok (.iinc 4 1, 3) := by decide +kernel
theorem dX7_hot_158 : decode cX7_hot 158 = .ok (.goto (-139), 3) := by decide +kernel
theorem dX7_hot_161 : decode cX7_hot 161 = .ok (.iload_n 1, 1) := by decide +kernel
theorem dX7_hot_162 : decode cX7_hot 162 = .ok (.ifCond .ne 7, 3) := by decide +kernel
theorem dX7_hot_165 : decode cX7_hot 165 = .ok (.iload_n 2, 1) := by decide +kernel
theorem dX7_hot_166 : decode cX7_hot 166 = .ok (.goto 4, 3) := by decide +kernel
theorem dX7_hot_169 : decode cX7_hot 169 = .ok (.iload_n 3, 1) := by decide +kernel
theorem dX7_hot_170 : decode cX7_hot 170 = .ok (.ireturn, 1) := by decide +kernel
theorem dX7_part_0 : decode cX7_part 0 = .ok (.iload_n 0, 1) := by decide +kernel
theorem dX7_part_1 : decode cX7_part 1 = .ok (.istore_n 3, 1) := by decide +kernel
theorem dX7_part_2 : decode cX7_part 2 = .ok (.iload_n 1, 1) := by decide +kernel
theorem dX7_part_3 : decode cX7_part 3 = .ok (.istore 4, 2) := by decide +kernel
theorem dX7_part_5 : decode cX7_part 5 = .ok (.iload 4, 2) := by decide +kernel
theorem dX7_part_7 : decode cX7_part 7 = .ok (.ifCond .eq 19, 3) := by decide +kernel
theorem dX7_part_10 : decode cX7_part 10 = .ok (.iload_n 3, 1) := by decide +kernel
theorem dX7_part_11 : decode cX7_part 11 = .ok (.iload 4, 2) := by decide +kernel
theorem dX7_part_13 : decode cX7_part 13 = .ok (.irem, 1) := by decide +kernel
theorem dX7_part_14 : decode cX7_part 14 = .ok (.istore 5, 2) := by decide +kernel
theorem dX7_part_16 : decode cX7_part 16 = .ok (.iload 4, 2) := by decide +kernel
theorem dX7_part_18 : decode cX7_part 18 = .ok (.istore_n 3, 1) := by decide +kernel
theorem dX7_part_19 : decode cX7_part 19 = .ok (.iload 5, 2) := by decide +kernel
theorem dX7_part_21 : decode cX7_part 21 = .ok (.istore 4, 2) := by decide +kernel
theorem dX7_part_23 : decode cX7_part 23 = .ok (.goto (-18), 3) := by decide +kernel
theorem dX7_part_26 : decode cX7_part 26 = .ok (.iload_n 2, 1) := by decide +kernel
theorem dX7_part_27 : decode cX7_part 27 = .ok (.ifCond .ne 9, 3) := by decide +kernel
theorem dX7_part_30 : decode cX7_part 30 = .ok (.iload_n 0, 1) := by decide +kernel
theorem dX7_part_31 : decode cX7_part 31 = .ok (.iload_n 3, 1) := by decide +kernel
theorem dX7_part_32 : decode cX7_part 32 = .ok (.idiv, 1) := by decide +kernel
theorem dX7_part_33 : decode cX7_part 33 = .ok (.goto 6, 3) := by decide +kernel
theorem dX7_part_36 : decode cX7_part 36 = .ok (.iload_n 1, 1) := by decide +kernel
theorem dX7_part_37 : decode cX7_part 37 = .ok (.iload_n 3, 1) := by decide +kernel
theorem dX7_part_38 : decode cX7_part 38 = .ok (.idiv, 1) := by decide +kernel
theorem dX7_part_39 : decode cX7_part 39 = .ok (.ireturn, 1) := by decide +kernel
theorem dX7_left_0 : decode cX7_left 0 = .ok (.aload_n 0, 1) := by decide +kernel
theorem dX7_left_1 : decode cX7_left 1 = .ok (.iload_n 1, 1) := by decide +kernel
theorem dX7_left_2 : decode cX7_left 2 = .ok (.invokevirtual 132, 3) := by decide +kernel
theorem dX7_left_5 : decode cX7_left 5 = .ok (.ifCond .eq 22, 3) := by decide +kernel
theorem dX7_left_8 : decode cX7_left 8 = .ok (.iload_n 2, 1) := by decide +kernel
theorem dX7_left_9 : decode cX7_left 9 = .ok (.iconst 0, 1) := by decide +kernel
theorem dX7_left_10 : decode cX7_left 10 = .ok (.bipush 8, 2) := by decide +kernel
theorem dX7_left_12 : decode cX7_left 12 = .ok (.invokestatic 78, 3) := by decide +kernel
theorem dX7_left_15 : decode cX7_left 15 = .ok (.ifCond .eq 12, 3) := by decide +kernel
theorem dX7_left_18 : decode cX7_left 18 = .ok (.iload_n 3, 1) := by decide +kernel
theorem dX7_left_19 : decode cX7_left 19 = .ok (.iconst 0, 1) := by decide +kernel
theorem dX7_left_20 : decode cX7_left 20 = .ok (.iconst 1, 1) := by decide +kernel
theorem dX7_left_21 : decode cX7_left 21 = .ok (.invokestatic 78, 3) := by decide +kernel
theorem dX7_left_24 : decode cX7_left 24 = .ok (.ifCond .ne 5, 3) := by decide +kernel
theorem dX7_left_27 : decode cX7_left 27 = .ok (.iconst (-1), 1) := by decide +kernel
theorem dX7_left_28 : decode cX7_left 28 = .ok (.ireturn, 1) := by decide +kernel
theorem dX7_left_29 : decode cX7_left 29 = .ok (.aload_n 0, 1) := by decide +kernel
theorem dX7_left_30 : decode cX7_left 30 = .ok (.getfield 41, 3) := by decide +kernel
theorem dX7_left_33 : decode cX7_left 33 = .ok (.iconst 3, 1) := by decide +kernel
theorem dX7_left_34 : decode cX7_left 34 = .ok (.iload_n 1, 1) := by decide +kernel
theorem dX7_left_35 : decode cX7_left 35 = .ok (.iadd, 1) := by decide +kernel
theorem dX7_left_36 : decode cX7_left 36 = .ok (.iaload, 1) := by decide +kernel
theorem dX7_left_37 : decode cX7_left 37 = .ok (.iconst 2, 1) := by decide +kernel
theorem dX7_left_38 : decode cX7_left 38 = .ok (.if_icmp .eq 6, 3) := by decide +kernel
theorem dX7_left_41 : decode cX7_left 41 = .ok (.bipush (-2), 2) := by decide +kernel
theorem dX7_left_43 : decode cX7_left 43 = .ok (.ireturn, 1) := by decide +kernel
theorem dX7_left_44 : decode cX7_left 44 = .ok (.iconst 0, 1) := by decide +kernel
theorem dX7_left_45 : decode cX7_left 45 = .ok (.istore 4, 2) := by decide +kernel
theorem dX7_left_47 : decode cX7_left 47 = .ok (.iconst 0, 1) := by decide +kernel
theorem dX7_left_48 : decode cX7_left 48 = .ok (.istore 5, 2) := by decide +kernel
theorem dX7_left_50 : decode cX7_left 50 = .ok (.iload 5, 2) := by decide +kernel
theorem dX7_left_52 : decode cX7_left 52 = .ok (.aload_n 0, 1) := by decide +kernel
theorem dX7_left_53 : decode cX7_left 53 = .ok (.getfield 13, 3) := by decide +kernel
theorem dX7_left_56 : decode cX7_left 56 = .ok (.iconst 0, 1) := by decide +kernel
theorem dX7_left_57 : decode cX7_left 57 = .ok (.iaload, 1) := by decide +kernel
theorem dX7_left_58 : decode cX7_left 58 = .ok (.if_icmp .ge 48, 3) := by decide +kernel
theorem dX7_left_61 : decode cX7_left 61 = .ok (.iload 4, 2) := by decide +kernel
theorem dX7_left_63 : decode cX7_left 63 = .ok (.aload_n 0, 1) := by decide +kernel
theorem dX7_left_64 : decode cX7_left 64 = .ok (.getfield 41, 3) := by decide +kernel
theorem dX7_left_67 : decode cX7_left 67 = .ok (.iconst 3, 1) := by decide +kernel
theorem dX7_left_68 : decode cX7_left 68 = .ok (.iload 5, 2) := by decide +kernel
theorem dX7_left_70 : decode cX7_left 70 = .ok (.iadd, 1) := by decide +kernel
theorem dX7_left_71 : decode cX7_left 71 = .ok (.iaload, 1) := by decide +kernel
theorem dX7_left_72 : decode cX7_left 72 = .ok (.iconst 2, 1) := by decide +kernel
theorem dX7_left_73 : decode cX7_left 73 = .ok (.if_icmp .ne 23, 3) := by decide +kernel
theorem dX7_left_76 : decode cX7_left 76 = .ok (.aload_n 0, 1) := by decide +kernel
theorem dX7_left_77 : decode cX7_left 77 = .ok (.getfield 29, 3) := by decide +kernel
theorem dX7_left_80 : decode cX7_left 80 = .ok (.iload 5, 2) := by decide +kernel
theorem dX7_left_82 : decode cX7_left 82 = .ok (.iaload, 1) := by decide +kernel
theorem dX7_left_83 : decode cX7_left 83 = .ok (.aload_n 0, 1) := by decide +kernel
theorem dX7_left_84 : decode cX7_left 84 = .ok (.getfield 29, 3) := by decide +kernel
theorem dX7_left_87 : decode cX7_left 87 = .ok (.iload_n 1, 1) := by decide +kernel
theorem dX7_left_88 : decode cX7_left 88 = .ok (.iaload, 1) := by decide +kernel
theorem dX7_left_89 : decode cX7_left 89 = .ok (.if_icmp .ne 7, 3) := by decide +kernel
theorem dX7_left_92 : decode cX7_left 92 = .ok (.iconst 1, 1) := by decide +kernel
theorem dX7_left_93 : decode cX7_left 93 = .ok (.goto 4, 3) := by decide +kernel
theorem dX7_left_96 : decode cX7_left 96 = .ok (.iconst 0, 1) := by decide +kernel
theorem dX7_left_97 : decode cX7_left 97 = .ok (.iadd, 1) := by decide +kernel
theorem dX7_left_98 : decode cX7_left 98 = .ok (.istore 4, 2) := by decide +kernel
theorem dX7_left_100 : decode cX7_left 100 = .ok (.iinc 5 1, 3) := by decide +kernel
theorem dX7_left_103 : decode cX7_left 103 = .ok (.goto (-53), 3) := by decide +kernel
theorem dX7_left_106 : decode cX7_left 106 = .ok (.iload_n 2, 1) := by decide +kernel
theorem dX7_left_107 : decode cX7_left 107 = .ok (.iload 4, 2) := by decide +kernel
theorem dX7_left_109 : decode cX7_left 109 = .ok (.if_icmp .le 7, 3) := by decide +kernel
theorem dX7_left_112 : decode cX7_left 112 = .ok (.iconst 0, 1) := by decide +kernel
theorem dX7_left_113 : decode cX7_left 113 = .ok (.goto 7, 3) := by decide +kernel
theorem dX7_left_116 : decode cX7_left 116 = .ok (.iload 4, 2) := by decide +kernel
theorem dX7_left_118 : decode cX7_left 118 = .ok (.iload_n 2, 1) := by decide +kernel
theorem dX7_left_119 : decode cX7_left 119 = .ok (.isub, 1) := by decide +kernel
theorem dX7_left_120 : decode cX7_left 120 = .ok (.iload 4, 2) := by decide +kernel
theorem dX7_left_122 : decode cX7_left 122 = .ok (.iload_n 3, 1) := by decide +kernel
theorem dX7_left_123 : decode cX7_left 123 = .ok (.invokestatic 192, 3) := by decide +kernel
theorem dX7_left_126 : decode cX7_left 126 = .ok (.ireturn, 1) := by decide +kernel
theorem dX7_takeRight_0 : decode cX7_takeRight 0 = .ok (.iconst 0, 1) := by decide +kernel
theorem dX7_takeRight_1 : decode cX7_takeRight 1 = .ok (.istore_n 2, 1) := by decide +kernel
theorem dX7_takeRight_2 : decode cX7_takeRight 2 = .ok (.iload_n 2, 1) := by decide +kernel
theorem dX7_takeRight_3 : decode cX7_takeRight 3 = .ok (.aload_n 0, 1) := by decide +kernel
theorem dX7_takeRight_4 : decode cX7_takeRight 4 = .ok (.getfield 13, 3) := by decide +kernel
theorem dX7_takeRight_7 : decode cX7_takeRight 7 = .ok (.iconst 0, 1) := by decide +kernel
theorem dX7_takeRight_8 : decode cX7_takeRight 8 = .ok (.iaload, 1) := by decide +kernel
theorem dX7_takeRight_9 : decode cX7_takeRight 9 = .ok (.if_icmp .ge 46, 3) := by decide +kernel
theorem dX7_takeRight_12 : decode cX7_takeRight 12 = .ok (.aload_n 0, 1) := by decide +kernel
theorem dX7_takeRight_13 : decode cX7_takeRight 13 = .ok (.aload_n 0, 1) := by decide +kernel
theorem dX7_takeRight_14 : decode cX7_takeRight 14 = .ok (.getfield 44, 3) := by decide +kernel
theorem dX7_takeRight_17 : decode cX7_takeRight 17 = .ok (.iload_n 1, 1) := by decide +kernel
theorem dX7_takeRight_18 : decode cX7_takeRight 18 = .ok (.iload_n 2, 1) := by decide +kernel
theorem dX7_takeRight_19 : decode cX7_takeRight 19 = .ok (.invokevirtual 160, 3) := by decide +kernel
theorem dX7_takeRight_22 : decode cX7_takeRight 22 = .ok (.ifCond .eq 27, 3) := by decide +kernel
theorem dX7_takeRight_25 : decode cX7_takeRight 25 = .ok (.aload_n 0, 1) := by decide +kernel
theorem dX7_takeRight_26 : decode cX7_takeRight 26 = .ok (.aload_n 0, 1) := by decide +kernel
theorem dX7_takeRight_27 : decode cX7_takeRight 27 = .ok (.getfield 44, 3) := by decide +kernel
theorem dX7_takeRight_30 : decode cX7_takeRight 30 = .ok (.iload_n 1, 1) := by decide +kernel
theorem dX7_takeRight_31 : decode cX7_takeRight 31 = .ok (.iload_n 2, 1) := by decide +kernel
theorem dX7_takeRight_32 : decode cX7_takeRight 32 = .ok (.invokevirtual 136, 3) := by decide +kernel
theorem dX7_takeRight_35 : decode cX7_takeRight 35 = .ok (.ifCond .eq 14, 3) := by decide +kernel
theorem dX7_takeRight_38 : decode cX7_takeRight 38 = .ok (.aload_n 0, 1) := by decide +kernel
theorem dX7_takeRight_39 : decode cX7_takeRight 39 = .ok (.aload_n 0, 1) := by decide +kernel
theorem dX7_takeRight_40 : decode cX7_takeRight 40 = .ok (.getfield 44, 3) := by decide +kernel
theorem dX7_takeRight_43 : decode cX7_takeRight 43 = .ok (.iload_n 1, 1) := by decide +kernel
theorem dX7_takeRight_44 : decode cX7_takeRight 44 = .ok (.iload_n 2, 1) := by decide +kernel
theorem dX7_takeRight_45 : decode cX7_takeRight 45 = .ok (.invokevirtual 163, 3) := by decide +kernel
theorem dX7_takeRight_48 : decode cX7_takeRight 48 = .ok (.return_, 1) := by decide +kernel
theorem dX7_takeRight_49 : decode cX7_takeRight 49 = .ok (.iinc 2 1, 3) := by decide +kernel
theorem dX7_takeRight_52 : decode cX7_takeRight 52 = .ok (.goto (-50), 3) := by decide +kernel
theorem dX7_takeRight_55 : decode cX7_takeRight 55 = .ok (.return_, 1) := by decide +kernel
theorem dX7_morning_0 : decode cX7_morning 0 = .ok (.iload_n 1, 1) := by decide +kernel
theorem dX7_morning_1 : decode cX7_morning 1 = .ok (.iconst 0, 1) := by decide +kernel
theorem dX7_morning_2 : decode cX7_morning 2 = .ok (.sipush 9999, 3) := by decide +kernel
theorem dX7_morning_5 : decode cX7_morning 5 = .ok (.invokestatic 78, 3) := by decide +kernel
theorem dX7_morning_8 : decode cX7_morning 8 = .ok (.ifCond .eq 22, 3) := by decide +kernel
theorem dX7_morning_11 : decode cX7_morning 11 = .ok (.iload_n 2, 1) := by decide +kernel
theorem dX7_morning_12 : decode cX7_morning 12 = .ok (.iconst 1, 1) := by decide +kernel
theorem dX7_morning_13 : decode cX7_morning 13 = .ok (.bipush 40, 2) := by decide +kernel
theorem dX7_morning_15 : decode cX7_morning 15 = .ok (.invokestatic 78, 3) := by decide +kernel
theorem dX7_morning_18 : decode cX7_morning 18 = .ok (.ifCond .eq 12, 3) := by decide +kernel
theorem dX7_morning_21 : decode cX7_morning 21 = .ok (.iload_n 3, 1) := by decide +kernel
theorem dX7_morning_22 : decode cX7_morning 22 = .ok (.iconst 0, 1) := by decide +kernel
theorem dX7_morning_23 : decode cX7_morning 23 = .ok (.iconst 1, 1) := by decide +kernel
theorem dX7_morning_24 : decode cX7_morning 24 = .ok (.invokestatic 78, 3) := by decide +kernel
theorem dX7_morning_27 : decode cX7_morning 27 = .ok (.ifCond .ne 5, 3) := by decide +kernel
theorem dX7_morning_30 : decode cX7_morning 30 = .ok (.iconst (-1), 1) := by decide +kernel
theorem dX7_morning_31 : decode cX7_morning 31 = .ok (.ireturn, 1) := by decide +kernel
theorem dX7_morning_32 : decode cX7_morning 32 = .ok (.aload_n 0, 1) := by decide +kernel
theorem dX7_morning_33 : decode cX7_morning 33 = .ok (.invokevirtual 166, 3) := by decide +kernel
theorem dX7_morning_36 : decode cX7_morning 36 = .ok (.iconst 0, 1) := by decide +kernel
theorem dX7_morning_37 : decode cX7_morning 37 = .ok (.istore 4, 2) := by decide +kernel
theorem dX7_morning_39 : decode cX7_morning 39 = .ok (.iload 4, 2) := by decide +kernel
theorem dX7_morning_41 : decode cX7_morning 41 = .ok (.iload_n 2, 1) := by decide +kernel
theorem dX7_morning_42 : decode cX7_morning 42 = .ok (.if_icmp .ge 113, 3) := by decide +kernel
theorem dX7_morning_45 : decode cX7_morning 45 = .ok (.ldc2_w 196, 3) := by decide +kernel
theorem dX7_morning_48 : decode cX7_morning 48 = .ok (.iload_n 1, 1) := by decide +kernel
theorem dX7_morning_49 : decode cX7_morning 49 = .ok (.i2l, 1) := by decide +kernel
theorem dX7_morning_50 : decode cX7_morning 50 = .ok (.lmul, 1) := by decide +kernel
theorem dX7_morning_51 : decode cX7_morning 51 = .ok (.ldc2_w 198, 3) := by decide +kernel
theorem dX7_morning_54 : decode cX7_morning 54 = .ok (.iload 4, 2) := by decide +kernel
theorem dX7_morning_56 : decode cX7_morning 56 = .ok (.i2l, 1) := by decide +kernel
theorem dX7_morning_57 : decode cX7_morning 57 = .ok (.lmul, 1) := by decide +kernel
theorem dX7_morning_58 : decode cX7_morning 58 = .ok (.ladd, 1) := by decide +kernel
theorem dX7_morning_59 : decode cX7_morning 59 = .ok (.lconst 1, 1) := by decide +kernel
theorem dX7_morning_60 : decode cX7_morning 60 = .ok (.ladd, 1) := by decide +kernel
theorem dX7_morning_61 : decode cX7_morning 61 = .ok (.lstore 5, 2) := by decide +kernel
theorem dX7_morning_63 : decode cX7_morning 63 = .ok (.lload 5, 2) := by decide +kernel
theorem dX7_morning_65 : decode cX7_morning 65 = .ok (.lload 5, 2) := by decide +kernel
theorem dX7_morning_67 : decode cX7_morning 67 = .ok (.lmul, 1) := by decide +kernel
theorem dX7_morning_68 : decode cX7_morning 68 = .ok (.ldc2_w 200, 3) := by decide +kernel
theorem dX7_morning_71 : decode cX7_morning 71 = .ok (.lrem, 1) := by decide +kernel
theorem dX7_morning_72 : decode cX7_morning 72 = .ok (.l2i, 1) := by decide +kernel
theorem dX7_morning_73 : decode cX7_morning 73 = .ok (.iconst 4, 1) := by decide +kernel
theorem dX7_morning_74 : decode cX7_morning 74 = .ok (.idiv, 1) := by decide +kernel
theorem dX7_morning_75 : decode cX7_morning 75 = .ok (.istore 7, 2) := by decide +kernel
theorem dX7_morning_77 : decode cX7_morning 77 = .ok (.iload 7, 2) := by decide +kernel
theorem dX7_morning_79 : decode cX7_morning 79 = .ok (.aload_n 0, 1) := by decide +kernel
theorem dX7_morning_80 : decode cX7_morning 80 = .ok (.getfield 13, 3) := by decide +kernel
theorem dX7_morning_83 : decode cX7_morning 83 = .ok (.iconst 0, 1) := by decide +kernel
theorem dX7_morning_84 : decode cX7_morning 84 = .ok (.iaload, 1) := by decide +kernel
theorem dX7_morning_85 : decode cX7_morning 85 = .ok (.irem, 1) := by decide +kernel
theorem dX7_morning_86 : decode cX7_morning 86 = .ok (.istore 8, 2) := by decide +kernel
theorem dX7_morning_88 : decode cX7_morning 88 = .ok (.iload 7, 2) := by decide +kernel
theorem dX7_morning_90 : decode cX7_morning 90 = .ok (.bipush 16, 2) := by decide +kernel
theorem dX7_morning_92 : decode cX7_morning 92 = .ok (.idiv, 1) := by decide +kernel
theorem dX7_morning_93 : decode cX7_morning 93 = .ok (.iconst 2, 1) := by decide +kernel
theorem dX7_morning_94 : decode cX7_morning 94 = .ok (.irem, 1) := by decide +kernel
theorem dX7_morning_95 : decode cX7_morning 95 = .ok (.istore 9, 2) := by decide +kernel
theorem dX7_morning_97 : decode cX7_morning 97 = .ok (.aload_n 0, 1) := by decide +kernel
theorem dX7_morning_98 : decode cX7_morning 98 = .ok (.getfield 44, 3) := by decide +kernel
theorem dX7_morning_101 : decode cX7_morning 101 = .ok (.iconst 3, 1) := by decide +kernel
theorem dX7_morning_102 : decode cX7_morning 102 = .ok (.iload 8, 2) := by decide +kernel
theorem dX7_morning_104 : decode cX7_morning 104 = .ok (.iadd, 1) := by decide +kernel
theorem dX7_morning_105 : decode cX7_morning 105 = .ok (.iaload, 1) := by decide +kernel
theorem dX7_morning_106 : decode cX7_morning 106 = .ok (.ifCond .ne 28, 3) := by decide +kernel
theorem dX7_morning_109 : decode cX7_morning 109 = .ok (.aload_n 0, 1) := by decide +kernel
theorem dX7_morning_110 : decode cX7_morning 110 = .ok (.aload_n 0, 1) := by decide +kernel
theorem dX7_morning_111 : decode cX7_morning 111 = .ok (.getfield 44, 3) := by decide +kernel
theorem dX7_morning_114 : decode cX7_morning 114 = .ok (.iload 9, 2) := by decide +kernel
theorem dX7_morning_116 : decode cX7_morning 116 = .ok (.invokevirtual 146, 3) := by decide +kernel
theorem dX7_morning_119 : decode cX7_morning 119 = .ok (.ifCond .eq 15, 3) := by decide +kernel
theorem dX7_morning_122 : decode cX7_morning 122 = .ok (.aload_n 0, 1) := by decide +kernel
theorem dX7_morning_123 : decode cX7_morning 123 = .ok (.aload_n 0, 1) := by decide +kernel
theorem dX7_morning_124 : decode cX7_morning 124 = .ok (.getfield 44, 3) := by decide +kernel
theorem dX7_morning_127 : decode cX7_morning 127 = .ok (.iload 8, 2) := by decide +kernel
theorem dX7_morning_129 : decode cX7_morning 129 = .ok (.iload 9, 2) := by decide +kernel
theorem dX7_morning_131 : decode cX7_morning 131 = .ok (.invokevirtual 152, 3) := by decide +kernel
theorem dX7_morning_134 : decode cX7_morning 134 = .ok (.aload_n 0, 1) := by decide +kernel
theorem dX7_morning_135 : decode cX7_morning 135 = .ok (.iload 8, 2) := by decide +kernel
theorem dX7_morning_137 : decode cX7_morning 137 = .ok (.invokevirtual 202, 3) := by decide +kernel
theorem dX7_morning_140 : decode cX7_morning 140 = .ok (.aload_n 0, 1) := by decide +kernel
theorem dX7_morning_141 : decode cX7_morning 141 = .ok (.aload_n 0, 1) := by decide +kernel
theorem dX7_morning_142 : decode cX7_morning 142 = .ok (.getfield 44, 3) := by decide +kernel
theorem dX7_morning_145 : decode cX7_morning 145 = .ok (.invokevirtual 156, 3) := by decide +kernel
theorem dX7_morning_148 : decode cX7_morning 148 = .ok (.pop, 1) := by decide +kernel
theorem dX7_morning_149 : decode cX7_morning 149 = .ok (.iinc 4 1, 3) := by decide +kernel
theorem dX7_morning_152 : decode cX7_morning 152 = .ok (.goto (-113), 3) := by decide +kernel
theorem dX7_morning_155 : decode cX7_morning 155 = .ok (.iload_n 3, 1) := by decide +kernel
theorem dX7_morning_156 : decode cX7_morning 156 = .ok (.ifCond .ne 14, 3) := by decide +kernel
theorem dX7_morning_159 : decode cX7_morning 159 = .ok (.aload_n 0, 1) := by decide +kernel
theorem dX7_morning_160 : decode cX7_morning 160 = .ok (.aload_n 0, 1) := by decide +kernel
theorem dX7_morning_161 : decode cX7_morning 161 = .ok (.getfield 44, 3) := by decide +kernel
theorem dX7_morning_164 : decode cX7_morning 164 = .ok (.invokevirtual 172, 3) := by decide +kernel
theorem dX7_morning_167 : decode cX7_morning 167 = .ok (.goto 9, 3) := by decide +kernel
theorem dX7_morning_170 : decode cX7_morning 170 = .ok (.aload_n 0, 1) := by decide +kernel
theorem dX7_morning_171 : decode cX7_morning 171 = .ok (.getfield 44, 3) := by decide +kernel
theorem dX7_morning_174 : decode cX7_morning 174 = .ok (.iconst 1, 1) := by decide +kernel
theorem dX7_morning_175 : decode cX7_morning 175 = .ok (.iaload, 1) := by decide +kernel
theorem dX7_morning_176 : decode cX7_morning 176 = .ok (.ireturn, 1) := by decide +kernel
theorem dX7_keep_0 : decode cX7_keep 0 = .ok (.aload_n 0, 1) := by decide +kernel
theorem dX7_keep_1 : decode cX7_keep 1 = .ok (.getfield 114, 3) := by decide +kernel
theorem dX7_keep_4 : decode cX7_keep 4 = .ok (.iconst 2, 1) := by decide +kernel
theorem dX7_keep_5 : decode cX7_keep 5 = .ok (.if_icmp .ne 6, 3) := by decide +kernel
theorem dX7_keep_8 : decode cX7_keep 8 = .ok (.bipush (-3), 2) := by decide +kernel
theorem dX7_keep_10 : decode cX7_keep 10 = .ok (.ireturn, 1) := by decide +kernel
theorem dX7_keep_11 : decode cX7_keep 11 = .ok (.iconst 0, 1) := by decide +kernel
theorem dX7_keep_12 : decode cX7_keep 12 = .ok (.istore_n 1, 1) := by decide +kernel
theorem dX7_keep_13 : decode cX7_keep 13 = .ok (.iload_n 1, 1) := by decide +kernel
theorem dX7_keep_14 : decode cX7_keep 14 = .ok (.bipush 48, 2) := by decide +kernel
theorem dX7_keep_16 : decode cX7_keep 16 = .ok (.if_icmp .ge 29, 3) := by decide +kernel
theorem dX7_keep_19 : decode cX7_keep 19 = .ok (.aload_n 0, 1) := by decide +kernel
theorem dX7_keep_20 : decode cX7_keep 20 = .ok (.getfield 50, 3) := by decide +kernel
theorem dX7_keep_23 : decode cX7_keep 23 = .ok (.bipush 48, 2) := by decide +kernel
theorem dX7_keep_25 : decode cX7_keep 25 = .ok (.aload_n 0, 1) := by decide +kernel
theorem dX7_keep_26 : decode cX7_keep 26 = .ok (.getfield 114, 3) := by decide +kernel
theorem dX7_keep_29 : decode cX7_keep 29 = .ok (.imul, 1) := by decide +kernel
theorem dX7_keep_30 : decode cX7_keep 30 = .ok (.iload_n 1, 1) := by decide +kernel
theorem dX7_keep_31 : decode cX7_keep 31 = .ok (.iadd, 1) := by decide +kernel
theorem dX7_keep_32 : decode cX7_keep 32 = .ok (.aload_n 0, 1) := by decide +kernel
theorem dX7_keep_33 : decode cX7_keep 33 = .ok (.getfield 41, 3) := by decide +kernel
theorem dX7_keep_36 : decode cX7_keep 36 = .ok (.iload_n 1, 1) := by decide +kernel
theorem dX7_keep_37 : decode cX7_keep 37 = .ok (.iaload, 1) := by decide +kernel
theorem dX7_keep_38 : decode cX7_keep 38 = .ok (.iastore, 1) := by decide +kernel
theorem dX7_keep_39 : decode cX7_keep 39 = .ok (.iinc 1 1, 3) := by decide +kernel
theorem dX7_keep_42 : decode cX7_keep 42 = .ok (.goto (-29), 3) := by decide +kernel
theorem dX7_keep_45 : decode cX7_keep 45 = .ok (.aload_n 0, 1) := by decide +kernel
theorem dX7_keep_46 : decode cX7_keep 46 = .ok (.dup, 1) := by decide +kernel
theorem dX7_keep_47 : decode cX7_keep 47 = .ok (.getfield 114, 3) := by decide +kernel
theorem dX7_keep_50 : decode cX7_keep 50 = .ok (.iconst 1, 1) := by decide +kernel
theorem dX7_keep_51 : decode cX7_keep 51 = .ok (.iadd, 1) := by decide +kernel
theorem dX7_keep_52 : decode cX7_keep 52 = .ok (.putfield 114, 3) := by decide +kernel
theorem dX7_keep_55 : decode cX7_keep 55 = .ok (.aload_n 0, 1) := by decide +kernel
theorem dX7_keep_56 : decode cX7_keep 56 = .ok (.getfield 114, 3) := by decide +kernel
theorem dX7_keep_59 : decode cX7_keep 59 = .ok (.ireturn, 1) := by decide +kernel
theorem dX7_back_0 : decode cX7_back 0 = .ok (.aload_n 0, 1) := by decide +kernel
theorem dX7_back_1 : decode cX7_back 1 = .ok (.getfield 114, 3) := by decide +kernel
theorem dX7_back_4 : decode cX7_back 4 = .ok (.ifCond .ne 6, 3) := by decide +kernel
theorem dX7_back_7 : decode cX7_back 7 = .ok (.bipush (-2), 2) := by decide +kernel
theorem dX7_back_9 : decode cX7_back 9 = .ok (.ireturn, 1) := by decide +kernel
theorem dX7_back_10 : decode cX7_back 10 = .ok (.aload_n 0, 1) := by decide +kernel
theorem dX7_back_11 : decode cX7_back 11 = .ok (.dup, 1) := by decide +kernel
theorem dX7_back_12 : decode cX7_back 12 = .ok (.getfield 114, 3) := by decide +kernel
theorem dX7_back_15 : decode cX7_back 15 = .ok (.iconst 1, 1) := by decide +kernel
theorem dX7_back_16 : decode cX7_back 16 = .ok (.isub, 1) := by decide +kernel
theorem dX7_back_17 : decode cX7_back 17 = .ok (.putfield 114, 3) := by decide +kernel
theorem dX7_back_20 : decode cX7_back 20 = .ok (.iconst 0, 1) := by decide +kernel
theorem dX7_back_21 : decode cX7_back 21 = .ok (.istore_n 1, 1) := by decide +kernel
theorem dX7_back_22 : decode cX7_back 22 = .ok (.iload_n 1, 1) := by decide +kernel
theorem dX7_back_23 : decode cX7_back 23 = .ok (.bipush 48, 2) := by decide +kernel
theorem dX7_back_25 : decode cX7_back 25 = .ok (.if_icmp .ge 29, 3) := by decide +kernel
theorem dX7_back_28 : decode cX7_back 28 = .ok (.aload_n 0, 1) := by decide +kernel
theorem dX7_back_29 : decode cX7_back 29 = .ok (.getfield 41, 3) := by decide +kernel
theorem dX7_back_32 : decode cX7_back 32 = .ok (.iload_n 1, 1) := by decide +kernel
theorem dX7_back_33 : decode cX7_back 33 = .ok (.aload_n 0, 1) := by decide +kernel
theorem dX7_back_34 : decode cX7_back 34 = .ok (.getfield 50, 3) := by decide +kernel
theorem dX7_back_37 : decode cX7_back 37 = .ok (.bipush 48, 2) := by decide +kernel
theorem dX7_back_39 : decode cX7_back 39 = .ok (.aload_n 0, 1) := by decide +kernel
theorem dX7_back_40 : decode cX7_back 40 = .ok (.getfield 114, 3) := by decide +kernel
theorem dX7_back_43 : decode cX7_back 43 = .ok (.imul, 1) := by decide +kernel
theorem dX7_back_44 : decode cX7_back 44 = .ok (.iload_n 1, 1) := by decide +kernel
theorem dX7_back_45 : decode cX7_back 45 = .ok (.iadd, 1) := by decide +kernel
theorem dX7_back_46 : decode cX7_back 46 = .ok (.iaload, 1) := by decide +kernel
theorem dX7_back_47 : decode cX7_back 47 = .ok (.iastore, 1) := by decide +kernel
theorem dX7_back_48 : decode cX7_back 48 = .ok (.iinc 1 1, 3) := by decide +kernel
theorem dX7_back_51 : decode cX7_back 51 = .ok (.goto (-29), 3) := by decide +kernel
theorem dX7_back_54 : decode cX7_back 54 = .ok (.aload_n 0, 1) := by decide +kernel
theorem dX7_back_55 : decode cX7_back 55 = .ok (.iconst 0, 1) := by decide +kernel
theorem dX7_back_56 : decode cX7_back 56 = .ok (.putfield 108, 3) := by decide +kernel
theorem dX7_back_59 : decode cX7_back 59 = .ok (.aload_n 0, 1) := by decide +kernel
theorem dX7_back_60 : decode cX7_back 60 = .ok (.getfield 114, 3) := by decide +kernel
theorem dX7_back_63 : decode cX7_back 63 = .ok (.ireturn, 1) := by decide +kernel
theorem dX7_count_0 : decode cX7_count 0 = .ok (.iload_n 1, 1) := by decide +kernel
theorem dX7_count_1 : decode cX7_count 1 = .ok (.tableswitch 130 0 11 #[63, 70, 77, 84, 91, 98, 98, 98, 110, 115, 120, 125], 63) := by decide +kernel
theorem dX7_count_64 : decode cX7_count 64 = .ok (.aload_n 0, 1) := by decide +kernel
theorem dX7_count_65 : decode cX7_count 65 = .ok (.getfield 13, 3) := by decide +kernel
theorem dX7_count_68 : decode cX7_count 68 = .ok (.iconst 0, 1) := by decide +kernel
theorem dX7_count_69 : decode cX7_count 69 = .ok (.iaload, 1) := by decide +kernel
theorem dX7_count_70 : decode cX7_count 70 = .ok (.ireturn, 1) := by decide +kernel
theorem dX7_count_71 : decode cX7_count 71 = .ok (.aload_n 0, 1) := by decide +kernel
theorem dX7_count_72 : decode cX7_count 72 = .ok (.getfield 17, 3) := by decide +kernel
theorem dX7_count_75 : decode cX7_count 75 = .ok (.iconst 0, 1) := by decide +kernel
theorem dX7_count_76 : decode cX7_count 76 = .ok (.iaload, 1) := by decide +kernel
theorem dX7_count_77 : decode cX7_count 77 = .ok (.ireturn, 1) := by decide +kernel
theorem dX7_count_78 : decode cX7_count 78 = .ok (.aload_n 0, 1) := by decide +kernel
theorem dX7_count_79 : decode cX7_count 79 = .ok (.getfield 41, 3) := by decide +kernel
theorem dX7_count_82 : decode cX7_count 82 = .ok (.iconst 0, 1) := by decide +kernel
theorem dX7_count_83 : decode cX7_count 83 = .ok (.iaload, 1) := by decide +kernel
theorem dX7_count_84 : decode cX7_count 84 = .ok (.ireturn, 1) := by decide +kernel
theorem dX7_count_85 : decode cX7_count 85 = .ok (.aload_n 0, 1) := by decide +kernel
theorem dX7_count_86 : decode cX7_count 86 = .ok (.getfield 41, 3) := by decide +kernel
theorem dX7_count_89 : decode cX7_count 89 = .ok (.iconst 1, 1) := by decide +kernel
theorem dX7_count_90 : decode cX7_count 90 = .ok (.iaload, 1) := by decide +kernel
theorem dX7_count_91 : decode cX7_count 91 = .ok (.ireturn, 1) := by decide +kernel
theorem dX7_count_92 : decode cX7_count 92 = .ok (.aload_n 0, 1) := by decide +kernel
theorem dX7_count_93 : decode cX7_count 93 = .ok (.getfield 41, 3) := by decide +kernel
theorem dX7_count_96 : decode cX7_count 96 = .ok (.iconst 2, 1) := by decide +kernel
theorem dX7_count_97 : decode cX7_count 97 = .ok (.iaload, 1) := by decide +kernel
theorem dX7_count_98 : decode cX7_count 98 = .ok (.ireturn, 1) := by decide +kernel
theorem dX7_count_99 : decode cX7_count 99 = .ok (.aload_n 0, 1) := by decide +kernel
theorem dX7_count_100 : decode cX7_count 100 = .ok (.aload_n 0, 1) := by decide +kernel
theorem dX7_count_101 : decode cX7_count 101 = .ok (.getfield 41, 3) := by decide +kernel
theorem dX7_count_104 : decode cX7_count 104 = .ok (.iload_n 1, 1) := by decide +kernel
theorem dX7_count_105 : decode cX7_count 105 = .ok (.iconst 4, 1) := by decide +kernel
theorem dX7_count_106 : decode cX7_count 106 = .ok (.isub, 1) := by decide +kernel
theorem dX7_count_107 : decode cX7_count 107 = .ok (.invokevirtual 120, 3) := by decide +kernel
theorem dX7_count_110 : decode cX7_count 110 = .ok (.ireturn, 1) := by decide +kernel
theorem dX7_count_111 : decode cX7_count 111 = .ok (.aload_n 0, 1) := by decide +kernel
theorem dX7_count_112 : decode cX7_count 112 = .ok (.getfield 111, 3) := by decide +kernel
theorem dX7_count_115 : decode cX7_count 115 = .ok (.ireturn, 1) := by decide +kernel
theorem dX7_count_116 : decode cX7_count 116 = .ok (.aload_n 0, 1) := by decide +kernel
theorem dX7_count_117 : decode cX7_count 117 = .ok (.getfield 108, 3) := by decide +kernel
theorem dX7_count_120 : decode cX7_count 120 = .ok (.ireturn, 1) := by decide +kernel
theorem dX7_count_121 : decode cX7_count 121 = .ok (.aload_n 0, 1) := by decide +kernel
theorem dX7_count_122 : decode cX7_count 122 = .ok (.getfield 114, 3) := by decide +kernel
theorem dX7_count_125 : decode cX7_count 125 = .ok (.ireturn, 1) := by decide +kernel
theorem dX7_count_126 : decode cX7_count 126 = .ok (.aload_n 0, 1) := by decide +kernel
theorem dX7_count_127 : decode cX7_count 127 = .ok (.getfield 82, 3) := by decide +kernel
theorem dX7_count_130 : decode cX7_count 130 = .ok (.ireturn, 1) := by decide +kernel
theorem dX7_count_131 : decode cX7_count 131 = .ok (.iconst (-1), 1) := by decide +kernel
theorem dX7_count_132 : decode cX7_count 132 = .ok (.ireturn, 1) := by decide +kernel
end
section
theorem dL_law_0 : decode cL_law 0 = .ok (.new 7, 3) := by decide +kernel
theorem dL_law_3 : decode cL_law 3 = .ok (.dup, 1) := by decide +kernel
theorem dL_law_4 : decode cL_law 4 = .ok (.invokespecial 9, 3) := by decide +kernel
theorem dL_law_7 : decode cL_law 7 = .ok (.astore_n 1, 1) := by decide +kernel
theorem dL_law_8 : decode cL_law 8 = .ok (.new 10, 3) := by decide +kernel
theorem dL_law_11 : decode cL_law 11 = .ok (.dup, 1) := by decide +kernel
theorem dL_law_12 : decode cL_law 12 = .ok (.invokespecial 12, 3) := by decide +kernel
theorem dL_law_15 : decode cL_law 15 = .ok (.astore_n 2, 1) := by decide +kernel
theorem dL_law_16 : decode cL_law 16 = .ok (.iconst 0, 1) := by decide +kernel
theorem dL_law_17 : decode cL_law 17 = .ok (.istore_n 3, 1) := by decide +kernel
theorem dL_law_18 : decode cL_law 18 = .ok (.iload_n 3, 1) := by decide +kernel
theorem dL_law_19 : decode cL_law 19 = .ok (.aload_n 0, 1) := by decide +kernel
theorem dL_law_20 : decode cL_law 20 = .ok (.arraylength, 1) := by decide +kernel
theorem dL_law_21 : decode cL_law 21 = .ok (.iconst 5, 1) := by decide +kernel
theorem dL_law_22 : decode cL_law 22 = .ok (.isub, 1) := by decide +kernel
theorem dL_law_23 : decode cL_law 23 = .ok (.if_icmp .gt 837, 3) := by decide +kernel
theorem dL_law_26 : decode cL_law 26 = .ok (.aload_n 0, 1) := by decide +kernel
theorem dL_law_27 : decode cL_law 27 = .ok (.iload_n 3, 1) := by decide +kernel
theorem dL_law_28 : decode cL_law 28 = .ok (.iaload, 1) := by decide +kernel
theorem dL_law_29 : decode cL_law 29 = .ok (.bipush 31, 2) := by decide +kernel
theorem dL_law_31 : decode cL_law 31 = .ok (.iand, 1) := by decide +kernel
theorem dL_law_32 : decode cL_law 32 = .ok (.tableswitch 822 0 27 #[128, 151, 164, 177, 190, 223, 256, 289, 312, 335, 368, 381, 404, 427, 440, 473, 506, 539, 562, 585, 598, 651, 664, 687, 730, 773, 786, 799], 128) := by decide +kernel
theorem dL_law_160 : decode cL_law 160 = .ok (.aload_n 1, 1) := by decide +kernel
theorem dL_law_161 : decode cL_law 161 = .ok (.aload_n 0, 1) := by decide +kernel
theorem dL_law_162 : decode cL_law 162 = .ok (.iload_n 3, 1) := by decide +kernel
theorem dL_law_163 : decode cL_law 163 = .ok (.iconst 1, 1) := by decide +kernel
theorem dL_law_164 : decode cL_law 164 = .ok (.iadd, 1) := by decide +kernel
theorem dL_law_165 : decode cL_law 165 = .ok (.iaload, 1) := by decide +kernel
theorem dL_law_166 : decode cL_law 166 = .ok (.invokevirtual 13, 3) := by decide +kernel
theorem dL_law_169 : decode cL_law 169 = .ok (.aload_n 2, 1) := by decide +kernel
theorem dL_law_170 : decode cL_law 170 = .ok (.aload_n 0, 1) := by decide +kernel
theorem dL_law_171 : decode cL_law 171 = .ok (.iload_n 3, 1) := by decide +kernel
theorem dL_law_172 : decode cL_law 172 = .ok (.iconst 1, 1) := by decide +kernel
theorem dL_law_173 : decode cL_law 173 = .ok (.iadd, 1) := by decide +kernel
theorem dL_law_174 : decode cL_law 174 = .ok (.iaload, 1) := by decide +kernel
theorem dL_law_175 : decode cL_law 175 = .ok (.invokevirtual 17, 3) := by decide +kernel
theorem dL_law_178 : decode cL_law 178 = .ok (.if_icmp .eq 676, 3) := by decide +kernel
theorem dL_law_181 : decode cL_law 181 = .ok (.iconst 0, 1) := by decide +kernel
theorem dL_law_182 : decode cL_law 182 = .ok (.ireturn, 1) := by decide +kernel
theorem dL_law_183 : decode cL_law 183 = .ok (.aload_n 1, 1) := by decide +kernel
theorem dL_law_184 : decode cL_law 184 = .ok (.invokevirtual 18, 3) := by decide +kernel
theorem dL_law_187 : decode cL_law 187 = .ok (.aload_n 2, 1) := by decide +kernel
theorem dL_law_188 : decode cL_law 188 = .ok (.invokevirtual 22, 3) := by decide +kernel
theorem dL_law_191 : decode cL_law 191 = .ok (.if_icmp .eq 663, 3) := by decide +kernel
theorem dL_law_194 : decode cL_law 194 = .ok (.iconst 0, 1) := by decide +kernel
theorem dL_law_195 : decode cL_law 195 = .ok (.ireturn, 1) := by decide +kernel
theorem dL_law_196 : decode cL_law 196 = .ok (.aload_n 1, 1) := by decide +kernel
theorem dL_law_197 : decode cL_law 197 = .ok (.invokevirtual 23, 3) := by decide +kernel
theorem dL_law_200 : decode cL_law 200 = .ok (.aload_n 2, 1) := by decide +kernel
theorem dL_law_201 : decode cL_law 201 = .ok (.invokevirtual 26, 3) := by decide +kernel
theorem dL_law_204 : decode cL_law 204 = .ok (.if_icmp .eq 650, 3) := by decide +kernel
theorem dL_law_207 : decode cL_law 207 = .ok (.iconst 0, 1) := by decide +kernel
theorem dL_law_208 : decode cL_law 208 = .ok (.ireturn, 1) := by decide +kernel
theorem dL_law_209 : decode cL_law 209 = .ok (.aload_n 1, 1) := by decide +kernel
theorem dL_law_210 : decode cL_law 210 = .ok (.invokevirtual 27, 3) := by decide +kernel
theorem dL_law_213 : decode cL_law 213 = .ok (.aload_n 2, 1) := by decide +kernel
theorem dL_law_214 : decode cL_law 214 = .ok (.invokevirtual 30, 3) := by decide +kernel
theorem dL_law_217 : decode cL_law 217 = .ok (.if_icmp .eq 637, 3) := by decide +kernel
theorem dL_law_220 : decode cL_law 220 = .ok (.iconst 0, 1) := by decide +kernel
theorem dL_law_221 : decode cL_law 221 = .ok (.ireturn, 1) := by decide +kernel
theorem dL_law_222 : decode cL_law 222 = .ok (.aload_n 1, 1) := by decide +kernel
theorem dL_law_223 : decode cL_law 223 = .ok (.aload_n 0, 1) := by decide +kernel
theorem dL_law_224 : decode cL_law 224 = .ok (.iload_n 3, 1) := by decide +kernel
theorem dL_law_225 : decode cL_law 225 = .ok (.iconst 1, 1) := by decide +kernel
theorem dL_law_226 : decode cL_law 226 = .ok (.iadd, 1) := by decide +kernel
theorem dL_law_227 : decode cL_law 227 = .ok (.iaload, 1) := by decide +kernel
theorem dL_law_228 : decode cL_law 228 = .ok (.aload_n 0, 1) := by decide +kernel
theorem dL_law_229 : decode cL_law 229 = .ok (.iload_n 3, 1) := by decide +kernel
theorem dL_law_230 : decode cL_law 230 = .ok (.iconst 2, 1) := by decide +kernel
theorem dL_law_231 : decode cL_law 231 = .ok (.iadd, 1) := by decide +kernel
theorem dL_law_232 : decode cL_law 232 = .ok (.iaload, 1) := by decide +kernel
theorem dL_law_233 : decode cL_law 233 = .ok (.invokevirtual 31, 3) := by decide +kernel
theorem dL_law_236 : decode cL_law 236 = .ok (.aload_n 2, 1) := by decide +kernel
theorem dL_law_237 : decode cL_law 237 = .ok (.aload_n 0, 1) := by decide +kernel
theorem dL_law_238 : decode cL_law 238 = .ok (.iload_n 3, 1) := by decide +kernel
theorem dL_law_239 : decode cL_law 239 = .ok (.iconst 1, 1) := by decide +kernel
theorem dL_law_240 : decode cL_law 240 = .ok (.iadd, 1) := by decide +kernel
theorem dL_law_241 : decode cL_law 241 = .ok (.iaload, 1) := by decide +kernel
theorem dL_law_242 : decode cL_law 242 = .ok (.aload_n 0, 1) := by decide +kernel
theorem dL_law_243 : decode cL_law 243 = .ok (.iload_n 3, 1) := by decide +kernel
theorem dL_law_244 : decode cL_law 244 = .ok (.iconst 2, 1) := by decide +kernel
theorem dL_law_245 : decode cL_law 245 = .ok (.iadd, 1) := by decide +kernel
theorem dL_law_246 : decode cL_law 246 = .ok (.iaload, 1) := by decide +kernel
theorem dL_law_247 : decode cL_law 247 = .ok (.invokevirtual 35, 3) := by decide +kernel
theorem dL_law_250 : decode cL_law 250 = .ok (.if_icmp .eq 604, 3) := by decide +kernel
theorem dL_law_253 : decode cL_law 253 = .ok (.iconst 0, 1) := by decide +kernel
theorem dL_law_254 : decode cL_law 254 = .ok (.ireturn, 1) := by decide +kernel
theorem dL_law_255 : decode cL_law 255 = .ok (.aload_n 1, 1) := by decide +kernel
theorem dL_law_256 : decode cL_law 256 = .ok (.aload_n 0, 1) := by decide +kernel
theorem dL_law_257 : decode cL_law 257 = .ok (.iload_n 3, 1) := by decide +kernel
theorem dL_law_258 : decode cL_law 258 = .ok (.iconst 1, 1) := by decide +kernel
theorem dL_law_259 : decode cL_law 259 = .ok (.iadd, 1) := by decide +kernel
theorem dL_law_260 : decode cL_law 260 = .ok (.iaload, 1) := by decide +kernel
theorem dL_law_261 : decode cL_law 261 = .ok (.aload_n 0, 1) := by decide +kernel
theorem dL_law_262 : decode cL_law 262 = .ok (.iload_n 3, 1) := by decide +kernel
theorem dL_law_263 : decode cL_law 263 = .ok (.iconst 2, 1) := by decide +kernel
theorem dL_law_264 : decode cL_law 264 = .ok (.iadd, 1) := by decide +kernel
theorem dL_law_265 : decode cL_law 265 = .ok (.iaload, 1) := by decide +kernel
theorem dL_law_266 : decode cL_law 266 = .ok (.invokevirtual 36, 3) := by decide +kernel
theorem dL_law_269 : decode cL_law 269 = .ok (.aload_n 2, 1) := by decide +kernel
theorem dL_law_270 : decode cL_law 270 = .ok (.aload_n 0, 1) := by decide +kernel
theorem dL_law_271 : decode cL_law 271 = .ok (.iload_n 3, 1) := by decide +kernel
theorem dL_law_272 : decode cL_law 272 = .ok (.iconst 1, 1) := by decide +kernel
theorem dL_law_273 : decode cL_law 273 = .ok (.iadd, 1) := by decide +kernel
theorem dL_law_274 : decode cL_law 274 = .ok (.iaload, 1) := by decide +kernel
theorem dL_law_275 : decode cL_law 275 = .ok (.aload_n 0, 1) := by decide +kernel
theorem dL_law_276 : decode cL_law 276 = .ok (.iload_n 3, 1) := by decide +kernel
theorem dL_law_277 : decode cL_law 277 = .ok (.iconst 2, 1) := by decide +kernel
theorem dL_law_278 : decode cL_law 278 = .ok (.iadd, 1) := by decide +kernel
theorem dL_law_279 : decode cL_law 279 = .ok (.iaload, 1) := by decide +kernel
theorem dL_law_280 : decode cL_law 280 = .ok (.invokevirtual 39, 3) := by decide +kernel
theorem dL_law_283 : decode cL_law 283 = .ok (.if_icmp .eq 571, 3) := by decide +kernel
theorem dL_law_286 : decode cL_law 286 = .ok (.iconst 0, 1) := by decide +kernel
theorem dL_law_287 : decode cL_law 287 = .ok (.ireturn, 1) := by decide +kernel
theorem dL_law_288 : decode cL_law 288 = .ok (.aload_n 1, 1) := by decide +kernel
theorem dL_law_289 : decode cL_law 289 = .ok (.aload_n 0, 1) := by decide +kernel
theorem dL_law_290 : decode cL_law 290 = .ok (.iload_n 3, 1) := by decide +kernel
theorem dL_law_291 : decode cL_law 291 = .ok (.iconst 1, 1) := by decide +kernel
theorem dL_law_292 : decode cL_law 292 = .ok (.iadd, 1) := by decide +kernel
theorem dL_law_293 : decode cL_law 293 = .ok (.iaload, 1) := by decide +kernel
theorem dL_law_294 : decode cL_law 294 = .ok (.aload_n 0, 1) := by decide +kernel
theorem dL_law_295 : decode cL_law 295 = .ok (.iload_n 3, 1) := by decide +kernel
theorem dL_law_296 : decode cL_law 296 = .ok (.iconst 2, 1) := by decide +kernel
theorem dL_law_297 : decode cL_law 297 = .ok (.iadd, 1) := by decide +kernel
theorem dL_law_298 : decode cL_law 298 = .ok (.iaload, 1) := by decide +kernel
theorem dL_law_299 : decode cL_law 299 = .ok (.invokevirtual 40, 3) := by decide +kernel
theorem dL_law_302 : decode cL_law 302 = .ok (.aload_n 2, 1) := by decide +kernel
theorem dL_law_303 : decode cL_law 303 = .ok (.aload_n 0, 1) := by decide +kernel
theorem dL_law_304 : decode cL_law 304 = .ok (.iload_n 3, 1) := by decide +kernel
theorem dL_law_305 : decode cL_law 305 = .ok (.iconst 1, 1) := by decide +kernel
theorem dL_law_306 : decode cL_law 306 = .ok (.iadd, 1) := by decide +kernel
theorem dL_law_307 : decode cL_law 307 = .ok (.iaload, 1) := by decide +kernel
theorem dL_law_308 : decode cL_law 308 = .ok (.aload_n 0, 1) := by decide +kernel
theorem dL_law_309 : decode cL_law 309 = .ok (.iload_n 3, 1) := by decide +kernel
theorem dL_law_310 : decode cL_law 310 = .ok (.iconst 2, 1) := by decide +kernel
theorem dL_law_311 : decode cL_law 311 = .ok (.iadd, 1) := by decide +kernel
theorem dL_law_312 : decode cL_law 312 = .ok (.iaload, 1) := by decide +kernel
theorem dL_law_313 : decode cL_law 313 = .ok (.invokevirtual 43, 3) := by decide +kernel
theorem dL_law_316 : decode cL_law 316 = .ok (.if_icmp .eq 538, 3) := by decide +kernel
theorem dL_law_319 : decode cL_law 319 = .ok (.iconst 0, 1) := by decide +kernel
theorem dL_law_320 : decode cL_law 320 = .ok (.ireturn, 1) := by decide +kernel
theorem dL_law_321 : decode cL_law 321 = .ok (.aload_n 1, 1) := by decide +kernel
theorem dL_law_322 : decode cL_law 322 = .ok (.aload_n 0, 1) := by decide +kernel
theorem dL_law_323 : decode cL_law 323 = .ok (.iload_n 3, 1) := by decide +kernel
theorem dL_law_324 : decode cL_law 324 = .ok (.iconst 1, 1) := by decide +kernel
theorem dL_law_325 : decode cL_law 325 = .ok (.iadd, 1) := by decide +kernel
theorem dL_law_326 : decode cL_law 326 = .ok (.iaload, 1) := by decide +kernel
theorem dL_law_327 : decode cL_law 327 = .ok (.invokevirtual 44, 3) := by decide +kernel
theorem dL_law_330 : decode cL_law 330 = .ok (.aload_n 2, 1) := by decide +kernel
theorem dL_law_331 : decode cL_law 331 = .ok (.aload_n 0, 1) := by decide +kernel
theorem dL_law_332 : decode cL_law 332 = .ok (.iload_n 3, 1) := by decide +kernel
theorem dL_law_333 : decode cL_law 333 = .ok (.iconst 1, 1) := by decide +kernel
theorem dL_law_334 : decode cL_law 334 = .ok (.iadd, 1) := by decide +kernel
theorem dL_law_335 : decode cL_law 335 = .ok (.iaload, 1) := by decide +kernel
theorem dL_law_336 : decode cL_law 336 = .ok (.invokevirtual 47, 3) := by decide +kernel
theorem dL_law_339 : decode cL_law 339 = .ok (.if_icmp .eq 515, 3) := by decide +kernel
theorem dL_law_342 : decode cL_law 342 = .ok (.iconst 0, 1) := by decide +kernel
theorem dL_law_343 : decode cL_law 343 = .ok (.ireturn, 1) := by decide +kernel
theorem dL_law_344 : decode cL_law 344 = .ok (.aload_n 1, 1) := by decide +kernel
theorem dL_law_345 : decode cL_law 345 = .ok (.aload_n 0, 1) := by decide +kernel
theorem dL_law_346 : decode cL_law 346 = .ok (.iload_n 3, 1) := by decide +kernel
theorem dL_law_347 : decode cL_law 347 = .ok (.iconst 1, 1) := by decide +kernel
theorem dL_law_348 : decode cL_law 348 = .ok (.iadd, 1) := by decide +kernel
theorem dL_law_349 : decode cL_law 349 = .ok (.iaload, 1) := by decide +kernel
theorem dL_law_350 : decode cL_law 350 = .ok (.invokevirtual 48, 3) := by decide +kernel
theorem dL_law_353 : decode cL_law 353 = .ok (.aload_n 2, 1) := by decide +kernel
theorem dL_law_354 : decode cL_law 354 = .ok (.aload_n 0, 1) := by decide +kernel
theorem dL_law_355 : decode cL_law 355 = .ok (.iload_n 3, 1) := by decide +kernel
theorem dL_law_356 : decode cL_law 356 = .ok (.iconst 1, 1) := by decide +kernel
theorem dL_law_357 : decode cL_law 357 = .ok (.iadd, 1) := by decide +kernel
theorem dL_law_358 : decode cL_law 358 = .ok (.iaload, 1) := by decide +kernel
theorem dL_law_359 : decode cL_law 359 = .ok (.invokevirtual 51, 3) := by decide +kernel
theorem dL_law_362 : decode cL_law 362 = .ok (.if_icmp .eq 492, 3) := by decide +kernel
theorem dL_law_365 : decode cL_law 365 = .ok (.iconst 0, 1) := by decide +kernel
theorem dL_law_366 : decode cL_law 366 = .ok (.ireturn, 1) := by decide +kernel
theorem dL_law_367 : decode cL_law 367 = .ok (.aload_n 1, 1) := by decide +kernel
theorem dL_law_368 : decode cL_law 368 = .ok (.aload_n 0, 1) := by decide +kernel
theorem dL_law_369 : decode cL_law 369 = .ok (.iload_n 3, 1) := by decide +kernel
theorem dL_law_370 : decode cL_law 370 = .ok (.iconst 1, 1) := by decide +kernel
theorem dL_law_371 : decode cL_law 371 = .ok (.iadd, 1) := by decide +kernel
theorem dL_law_372 : decode cL_law 372 = .ok (.iaload, 1) := by decide +kernel
theorem dL_law_373 : decode cL_law 373 = .ok (.aload_n 0, 1) := by decide +kernel
theorem dL_law_374 : decode cL_law 374 = .ok (.iload_n 3, 1) := by decide +kernel
theorem dL_law_375 : decode cL_law 375 = .ok (.iconst 2, 1) := by decide +kernel
theorem dL_law_376 : decode cL_law 376 = .ok (.iadd, 1) := by decide +kernel
theorem dL_law_377 : decode cL_law 377 = .ok (.iaload, 1) := by decide +kernel
theorem dL_law_378 : decode cL_law 378 = .ok (.invokevirtual 52, 3) := by decide +kernel
theorem dL_law_381 : decode cL_law 381 = .ok (.aload_n 2, 1) := by decide +kernel
theorem dL_law_382 : decode cL_law 382 = .ok (.aload_n 0, 1) := by decide +kernel
theorem dL_law_383 : decode cL_law 383 = .ok (.iload_n 3, 1) := by decide +kernel
theorem dL_law_384 : decode cL_law 384 = .ok (.iconst 1, 1) := by decide +kernel
theorem dL_law_385 : decode cL_law 385 = .ok (.iadd, 1) := by decide +kernel
theorem dL_law_386 : decode cL_law 386 = .ok (.iaload, 1) := by decide +kernel
theorem dL_law_387 : decode cL_law 387 = .ok (.aload_n 0, 1) := by decide +kernel
theorem dL_law_388 : decode cL_law 388 = .ok (.iload_n 3, 1) := by decide +kernel
theorem dL_law_389 : decode cL_law 389 = .ok (.iconst 2, 1) := by decide +kernel
theorem dL_law_390 : decode cL_law 390 = .ok (.iadd, 1) := by decide +kernel
theorem dL_law_391 : decode cL_law 391 = .ok (.iaload, 1) := by decide +kernel
theorem dL_law_392 : decode cL_law 392 = .ok (.invokevirtual 55, 3) := by decide +kernel
theorem dL_law_395 : decode cL_law 395 = .ok (.if_icmp .eq 459, 3) := by decide +kernel
theorem dL_law_398 : decode cL_law 398 = .ok (.iconst 0, 1) := by decide +kernel
theorem dL_law_399 : decode cL_law 399 = .ok (.ireturn, 1) := by decide +kernel
theorem dL_law_400 : decode cL_law 400 = .ok (.aload_n 1, 1) := by decide +kernel
theorem dL_law_401 : decode cL_law 401 = .ok (.invokevirtual 56, 3) := by decide +kernel
theorem dL_law_404 : decode cL_law 404 = .ok (.aload_n 2, 1) := by decide +kernel
theorem dL_law_405 : decode cL_law 405 = .ok (.invokevirtual 59, 3) := by decide +kernel
theorem dL_law_408 : decode cL_law 408 = .ok (.if_icmp .eq 446, 3) := by decide +kernel
theorem dL_law_411 : decode cL_law 411 = .ok (.iconst 0, 1) := by decide +kernel
theorem dL_law_412 : decode cL_law 412 = .ok (.ireturn, 1) := by decide +kernel
theorem dL_law_413 : decode cL_law 413 = .ok (.aload_n 1, 1) := by decide +kernel
theorem dL_law_414 : decode cL_law 414 = .ok (.aload_n 0, 1) := by decide +kernel
theorem dL_law_415 : decode cL_law 415 = .ok (.iload_n 3, 1) := by decide +kernel
theorem dL_law_416 : decode cL_law 416 = .ok (.iconst 1, 1) := by decide +kernel
theorem dL_law_417 : decode cL_law 417 = .ok (.iadd, 1) := by decide +kernel
theorem dL_law_418 : decode cL_law 418 = .ok (.iaload, 1) := by decide +kernel
theorem dL_law_419 : decode cL_law 419 = .ok (.invokevirtual 60, 3) := by decide +kernel
theorem dL_law_422 : decode cL_law 422 = .ok (.aload_n 2, 1) := by decide +kernel
theorem dL_law_423 : decode cL_law 423 = .ok (.aload_n 0, 1) := by decide +kernel
theorem dL_law_424 : decode cL_law 424 = .ok (.iload_n 3, 1) := by decide +kernel
theorem dL_law_425 : decode cL_law 425 = .ok (.iconst 1, 1) := by decide +kernel
theorem dL_law_426 : decode cL_law 426 = .ok (.iadd, 1) := by decide +kernel
theorem dL_law_427 : decode cL_law 427 = .ok (.iaload, 1) := by decide +kernel
theorem dL_law_428 : decode cL_law 428 = .ok (.invokevirtual 63, 3) := by decide +kernel
theorem dL_law_431 : decode cL_law 431 = .ok (.if_icmp .eq 423, 3) := by decide +kernel
theorem dL_law_434 : decode cL_law 434 = .ok (.iconst 0, 1) := by decide +kernel
theorem dL_law_435 : decode cL_law 435 = .ok (.ireturn, 1) := by decide +kernel
theorem dL_law_436 : decode cL_law 436 = .ok (.aload_n 1, 1) := by decide +kernel
theorem dL_law_437 : decode cL_law 437 = .ok (.aload_n 0, 1) := by decide +kernel
theorem dL_law_438 : decode cL_law 438 = .ok (.iload_n 3, 1) := by decide +kernel
theorem dL_law_439 : decode cL_law 439 = .ok (.iconst 1, 1) := by decide +kernel
theorem dL_law_440 : decode cL_law 440 = .ok (.iadd, 1) := by decide +kernel
theorem dL_law_441 : decode cL_law 441 = .ok (.iaload, 1) := by decide +kernel
theorem dL_law_442 : decode cL_law 442 = .ok (.invokevirtual 64, 3) := by decide +kernel
theorem dL_law_445 : decode cL_law 445 = .ok (.aload_n 2, 1) := by decide +kernel
theorem dL_law_446 : decode cL_law 446 = .ok (.aload_n 0, 1) := by decide +kernel
theorem dL_law_447 : decode cL_law 447 = .ok (.iload_n 3, 1) := by decide +kernel
theorem dL_law_448 : decode cL_law 448 = .ok (.iconst 1, 1) := by decide +kernel
theorem dL_law_449 : decode cL_law 449 = .ok (.iadd, 1) := by decide +kernel
theorem dL_law_450 : decode cL_law 450 = .ok (.iaload, 1) := by decide +kernel
theorem dL_law_451 : decode cL_law 451 = .ok (.invokevirtual 67, 3) := by decide +kernel
theorem dL_law_454 : decode cL_law 454 = .ok (.if_icmp .eq 400, 3) := by decide +kernel
theorem dL_law_457 : decode cL_law 457 = .ok (.iconst 0, 1) := by decide +kernel
theorem dL_law_458 : decode cL_law 458 = .ok (.ireturn, 1) := by decide +kernel
theorem dL_law_459 : decode cL_law 459 = .ok (.aload_n 1, 1) := by decide +kernel
theorem dL_law_460 : decode cL_law 460 = .ok (.invokevirtual 68, 3) := by decide +kernel
theorem dL_law_463 : decode cL_law 463 = .ok (.aload_n 2, 1) := by decide +kernel
theorem dL_law_464 : decode cL_law 464 = .ok (.invokevirtual 71, 3) := by decide +kernel
theorem dL_law_467 : decode cL_law 467 = .ok (.if_icmp .eq 387, 3) := by decide +kernel
theorem dL_law_470 : decode cL_law 470 = .ok (.iconst 0, 1) := by decide +kernel
theorem dL_law_471 : decode cL_law 471 = .ok (.ireturn, 1) := by decide +kernel
theorem dL_law_472 : decode cL_law 472 = .ok (.aload_n 1, 1) := by decide +kernel
theorem dL_law_473 : decode cL_law 473 = .ok (.aload_n 0, 1) := by decide +kernel
theorem dL_law_474 : decode cL_law 474 = .ok (.iload_n 3, 1) := by decide +kernel
theorem dL_law_475 : decode cL_law 475 = .ok (.iconst 1, 1) := by decide +kernel
theorem dL_law_476 : decode cL_law 476 = .ok (.iadd, 1) := by decide +kernel
theorem dL_law_477 : decode cL_law 477 = .ok (.iaload, 1) := by decide +kernel
theorem dL_law_478 : decode cL_law 478 = .ok (.aload_n 0, 1) := by decide +kernel
theorem dL_law_479 : decode cL_law 479 = .ok (.iload_n 3, 1) := by decide +kernel
theorem dL_law_480 : decode cL_law 480 = .ok (.iconst 2, 1) := by decide +kernel
theorem dL_law_481 : decode cL_law 481 = .ok (.iadd, 1) := by decide +kernel
theorem dL_law_482 : decode cL_law 482 = .ok (.iaload, 1) := by decide +kernel
theorem dL_law_483 : decode cL_law 483 = .ok (.invokevirtual 72, 3) := by decide +kernel
theorem dL_law_486 : decode cL_law 486 = .ok (.aload_n 2, 1) := by decide +kernel
theorem dL_law_487 : decode cL_law 487 = .ok (.aload_n 0, 1) := by decide +kernel
theorem dL_law_488 : decode cL_law 488 = .ok (.iload_n 3, 1) := by decide +kernel
theorem dL_law_489 : decode cL_law 489 = .ok (.iconst 1, 1) := by decide +kernel
theorem dL_law_490 : decode cL_law 490 = .ok (.iadd, 1) := by decide +kernel
theorem dL_law_491 : decode cL_law 491 = .ok (.iaload, 1) := by decide +kernel
theorem dL_law_492 : decode cL_law 492 = .ok (.aload_n 0, 1) := by decide +kernel
theorem dL_law_493 : decode cL_law 493 = .ok (.iload_n 3, 1) := by decide +kernel
theorem dL_law_494 : decode cL_law 494 = .ok (.iconst 2, 1) := by decide +kernel
theorem dL_law_495 : decode cL_law 495 = .ok (.iadd, 1) := by decide +kernel
theorem dL_law_496 : decode cL_law 496 = .ok (.iaload, 1) := by decide +kernel
theorem dL_law_497 : decode cL_law 497 = .ok (.invokevirtual 75, 3) := by decide +kernel
theorem dL_law_500 : decode cL_law 500 = .ok (.if_icmp .eq 354, 3) := by decide +kernel
theorem dL_law_503 : decode cL_law 503 = .ok (.iconst 0, 1) := by decide +kernel
theorem dL_law_504 : decode cL_law 504 = .ok (.ireturn, 1) := by decide +kernel
theorem dL_law_505 : decode cL_law 505 = .ok (.aload_n 1, 1) := by decide +kernel
theorem dL_law_506 : decode cL_law 506 = .ok (.aload_n 0, 1) := by decide +kernel
theorem dL_law_507 : decode cL_law 507 = .ok (.iload_n 3, 1) := by decide +kernel
theorem dL_law_508 : decode cL_law 508 = .ok (.iconst 1, 1) := by decide +kernel
theorem dL_law_509 : decode cL_law 509 = .ok (.iadd, 1) := by decide +kernel
theorem dL_law_510 : decode cL_law 510 = .ok (.iaload, 1) := by decide +kernel
theorem dL_law_511 : decode cL_law 511 = .ok (.aload_n 0, 1) := by decide +kernel
theorem dL_law_512 : decode cL_law 512 = .ok (.iload_n 3, 1) := by decide +kernel
theorem dL_law_513 : decode cL_law 513 = .ok (.iconst 2, 1) := by decide +kernel
theorem dL_law_514 : decode cL_law 514 = .ok (.iadd, 1) := by decide +kernel
theorem dL_law_515 : decode cL_law 515 = .ok (.iaload, 1) := by decide +kernel
theorem dL_law_516 : decode cL_law 516 = .ok (.invokevirtual 76, 3) := by decide +kernel
theorem dL_law_519 : decode cL_law 519 = .ok (.aload_n 2, 1) := by decide +kernel
theorem dL_law_520 : decode cL_law 520 = .ok (.aload_n 0, 1) := by decide +kernel
theorem dL_law_521 : decode cL_law 521 = .ok (.iload_n 3, 1) := by decide +kernel
theorem dL_law_522 : decode cL_law 522 = .ok (.iconst 1, 1) := by decide +kernel
theorem dL_law_523 : decode cL_law 523 = .ok (.iadd, 1) := by decide +kernel
theorem dL_law_524 : decode cL_law 524 = .ok (.iaload, 1) := by decide +kernel
theorem dL_law_525 : decode cL_law 525 = .ok (.aload_n 0, 1) := by decide +kernel
theorem dL_law_526 : decode cL_law 526 = .ok (.iload_n 3, 1) := by decide +kernel
theorem dL_law_527 : decode cL_law 527 = .ok (.iconst 2, 1) := by decide +kernel
theorem dL_law_528 : decode cL_law 528 = .ok (.iadd, 1) := by decide +kernel
theorem dL_law_529 : decode cL_law 529 = .ok (.iaload, 1) := by decide +kernel
theorem dL_law_530 : decode cL_law 530 = .ok (.invokevirtual 79, 3) := by decide +kernel
theorem dL_law_533 : decode cL_law 533 = .ok (.if_icmp .eq 321, 3) := by decide +kernel
theorem dL_law_536 : decode cL_law 536 = .ok (.iconst 0, 1) := by decide +kernel
theorem dL_law_537 : decode cL_law 537 = .ok (.ireturn, 1) := by decide +kernel
theorem dL_law_538 : decode cL_law 538 = .ok (.aload_n 1, 1) := by decide +kernel
theorem dL_law_539 : decode cL_law 539 = .ok (.aload_n 0, 1) := by decide +kernel
theorem dL_law_540 : decode cL_law 540 = .ok (.iload_n 3, 1) := by decide +kernel
theorem dL_law_541 : decode cL_law 541 = .ok (.iconst 1, 1) := by decide +kernel
theorem dL_law_542 : decode cL_law 542 = .ok (.iadd, 1) := by decide +kernel
theorem dL_law_543 : decode cL_law 543 = .ok (.iaload, 1) := by decide +kernel
theorem dL_law_544 : decode cL_law 544 = .ok (.aload_n 0, 1) := by decide +kernel
theorem dL_law_545 : decode cL_law 545 = .ok (.iload_n 3, 1) := by decide +kernel
theorem dL_law_546 : decode cL_law 546 = .ok (.iconst 2, 1) := by decide +kernel
theorem dL_law_547 : decode cL_law 547 = .ok (.iadd, 1) := by decide +kernel
theorem dL_law_548 : decode cL_law 548 = .ok (.iaload, 1) := by decide +kernel
theorem dL_law_549 : decode cL_law 549 = .ok (.invokevirtual 80, 3) := by decide +kernel
theorem dL_law_552 : decode cL_law 552 = .ok (.aload_n 2, 1) := by decide +kernel
theorem dL_law_553 : decode cL_law 553 = .ok (.aload_n 0, 1) := by decide +kernel
theorem dL_law_554 : decode cL_law 554 = .ok (.iload_n 3, 1) := by decide +kernel
theorem dL_law_555 : decode cL_law 555 = .ok (.iconst 1, 1) := by decide +kernel
theorem dL_law_556 : decode cL_law 556 = .ok (.iadd, 1) := by decide +kernel
theorem dL_law_557 : decode cL_law 557 = .ok (.iaload, 1) := by decide +kernel
theorem dL_law_558 : decode cL_law 558 = .ok (.aload_n 0, 1) := by decide +kernel
theorem dL_law_559 : decode cL_law 559 = .ok (.iload_n 3, 1) := by decide +kernel
theorem dL_law_560 : decode cL_law 560 = .ok (.iconst 2, 1) := by decide +kernel
theorem dL_law_561 : decode cL_law 561 = .ok (.iadd, 1) := by decide +kernel
theorem dL_law_562 : decode cL_law 562 = .ok (.iaload, 1) := by decide +kernel
theorem dL_law_563 : decode cL_law 563 = .ok (.invokevirtual 83, 3) := by decide +kernel
theorem dL_law_566 : decode cL_law 566 = .ok (.if_icmp .eq 288, 3) := by decide +kernel
theorem dL_law_569 : decode cL_law 569 = .ok (.iconst 0, 1) := by decide +kernel
theorem dL_law_570 : decode cL_law 570 = .ok (.ireturn, 1) := by decide +kernel
theorem dL_law_571 : decode cL_law 571 = .ok (.aload_n 1, 1) := by decide +kernel
theorem dL_law_572 : decode cL_law 572 = .ok (.aload_n 0, 1) := by decide +kernel
theorem dL_law_573 : decode cL_law 573 = .ok (.iload_n 3, 1) := by decide +kernel
theorem dL_law_574 : decode cL_law 574 = .ok (.iconst 1, 1) := by decide +kernel
theorem dL_law_575 : decode cL_law 575 = .ok (.iadd, 1) := by decide +kernel
theorem dL_law_576 : decode cL_law 576 = .ok (.iaload, 1) := by decide +kernel
theorem dL_law_577 : decode cL_law 577 = .ok (.invokevirtual 84, 3) := by decide +kernel
theorem dL_law_580 : decode cL_law 580 = .ok (.aload_n 2, 1) := by decide +kernel
theorem dL_law_581 : decode cL_law 581 = .ok (.aload_n 0, 1) := by decide +kernel
theorem dL_law_582 : decode cL_law 582 = .ok (.iload_n 3, 1) := by decide +kernel
theorem dL_law_583 : decode cL_law 583 = .ok (.iconst 1, 1) := by decide +kernel
theorem dL_law_584 : decode cL_law 584 = .ok (.iadd, 1) := by decide +kernel
theorem dL_law_585 : decode cL_law 585 = .ok (.iaload, 1) := by decide +kernel
theorem dL_law_586 : decode cL_law 586 = .ok (.invokevirtual 87, 3) := by decide +kernel
theorem dL_law_589 : decode cL_law 589 = .ok (.if_icmp .eq 265, 3) := by decide +kernel
theorem dL_law_592 : decode cL_law 592 = .ok (.iconst 0, 1) := by decide +kernel
theorem dL_law_593 : decode cL_law 593 = .ok (.ireturn, 1) := by decide +kernel
theorem dL_law_594 : decode cL_law 594 = .ok (.aload_n 1, 1) := by decide +kernel
theorem dL_law_595 : decode cL_law 595 = .ok (.aload_n 0, 1) := by decide +kernel
theorem dL_law_596 : decode cL_law 596 = .ok (.iload_n 3, 1) := by decide +kernel
theorem dL_law_597 : decode cL_law 597 = .ok (.iconst 1, 1) := by decide +kernel
theorem dL_law_598 : decode cL_law 598 = .ok (.iadd, 1) := by decide +kernel
theorem dL_law_599 : decode cL_law 599 = .ok (.iaload, 1) := by decide +kernel
theorem dL_law_600 : decode cL_law 600 = .ok (.invokevirtual 88, 3) := by decide +kernel
theorem dL_law_603 : decode cL_law 603 = .ok (.aload_n 2, 1) := by decide +kernel
theorem dL_law_604 : decode cL_law 604 = .ok (.aload_n 0, 1) := by decide +kernel
theorem dL_law_605 : decode cL_law 605 = .ok (.iload_n 3, 1) := by decide +kernel
theorem dL_law_606 : decode cL_law 606 = .ok (.iconst 1, 1) := by decide +kernel
theorem dL_law_607 : decode cL_law 607 = .ok (.iadd, 1) := by decide +kernel
theorem dL_law_608 : decode cL_law 608 = .ok (.iaload, 1) := by decide +kernel
theorem dL_law_609 : decode cL_law 609 = .ok (.invokevirtual 91, 3) := by decide +kernel
theorem dL_law_612 : decode cL_law 612 = .ok (.if_icmp .eq 242, 3) := by decide +kernel
theorem dL_law_615 : decode cL_law 615 = .ok (.iconst 0, 1) := by decide +kernel
theorem dL_law_616 : decode cL_law 616 = .ok (.ireturn, 1) := by decide +kernel
theorem dL_law_617 : decode cL_law 617 = .ok (.aload_n 1, 1) := by decide +kernel
theorem dL_law_618 : decode cL_law 618 = .ok (.invokevirtual 92, 3) := by decide +kernel
theorem dL_law_621 : decode cL_law 621 = .ok (.aload_n 2, 1) := by decide +kernel
theorem dL_law_622 : decode cL_law 622 = .ok (.invokevirtual 95, 3) := by decide +kernel
theorem dL_law_625 : decode cL_law 625 = .ok (.if_icmp .eq 229, 3) := by decide +kernel
theorem dL_law_628 : decode cL_law 628 = .ok (.iconst 0, 1) := by decide +kernel
theorem dL_law_629 : decode cL_law 629 = .ok (.ireturn, 1) := by decide +kernel
theorem dL_law_630 : decode cL_law 630 = .ok (.aload_n 1, 1) := by decide +kernel
theorem dL_law_631 : decode cL_law 631 = .ok (.aload_n 0, 1) := by decide +kernel
theorem dL_law_632 : decode cL_law 632 = .ok (.iload_n 3, 1) := by decide +kernel
theorem dL_law_633 : decode cL_law 633 = .ok (.iconst 1, 1) := by decide +kernel
theorem dL_law_634 : decode cL_law 634 = .ok (.iadd, 1) := by decide +kernel
theorem dL_law_635 : decode cL_law 635 = .ok (.iaload, 1) := by decide +kernel
theorem dL_law_636 : decode cL_law 636 = .ok (.aload_n 0, 1) := by decide +kernel
theorem dL_law_637 : decode cL_law 637 = .ok (.iload_n 3, 1) := by decide +kernel
theorem dL_law_638 : decode cL_law 638 = .ok (.iconst 2, 1) := by decide +kernel
theorem dL_law_639 : decode cL_law 639 = .ok (.iadd, 1) := by decide +kernel
theorem dL_law_640 : decode cL_law 640 = .ok (.iaload, 1) := by decide +kernel
theorem dL_law_641 : decode cL_law 641 = .ok (.aload_n 0, 1) := by decide +kernel
theorem dL_law_642 : decode cL_law 642 = .ok (.iload_n 3, 1) := by decide +kernel
theorem dL_law_643 : decode cL_law 643 = .ok (.iconst 3, 1) := by decide +kernel
theorem dL_law_644 : decode cL_law 644 = .ok (.iadd, 1) := by decide +kernel
theorem dL_law_645 : decode cL_law 645 = .ok (.iaload, 1) := by decide +kernel
theorem dL_law_646 : decode cL_law 646 = .ok (.aload_n 0, 1) := by decide +kernel
theorem dL_law_647 : decode cL_law 647 = .ok (.iload_n 3, 1) := by decide +kernel
theorem dL_law_648 : decode cL_law 648 = .ok (.iconst 4, 1) := by decide +kernel
theorem dL_law_649 : decode cL_law 649 = .ok (.iadd, 1) := by decide +kernel
theorem dL_law_650 : decode cL_law 650 = .ok (.iaload, 1) := by decide +kernel
theorem dL_law_651 : decode cL_law 651 = .ok (.invokevirtual 96, 3) := by decide +kernel
theorem dL_law_654 : decode cL_law 654 = .ok (.aload_n 2, 1) := by decide +kernel
theorem dL_law_655 : decode cL_law 655 = .ok (.aload_n 0, 1) := by decide +kernel
theorem dL_law_656 : decode cL_law 656 = .ok (.iload_n 3, 1) := by decide +kernel
theorem dL_law_657 : decode cL_law 657 = .ok (.iconst 1, 1) := by decide +kernel
theorem dL_law_658 : decode cL_law 658 = .ok (.iadd, 1) := by decide +kernel
theorem dL_law_659 : decode cL_law 659 = .ok (.iaload, 1) := by decide +kernel
theorem dL_law_660 : decode cL_law 660 = .ok (.aload_n 0, 1) := by decide +kernel
theorem dL_law_661 : decode cL_law 661 = .ok (.iload_n 3, 1) := by decide +kernel
theorem dL_law_662 : decode cL_law 662 = .ok (.iconst 2, 1) := by decide +kernel
theorem dL_law_663 : decode cL_law 663 = .ok (.iadd, 1) := by decide +kernel
theorem dL_law_664 : decode cL_law 664 = .ok (.iaload, 1) := by decide +kernel
theorem dL_law_665 : decode cL_law 665 = .ok (.aload_n 0, 1) := by decide +kernel
theorem dL_law_666 : decode cL_law 666 = .ok (.iload_n 3, 1) := by decide +kernel
theorem dL_law_667 : decode cL_law 667 = .ok (.iconst 3, 1) := by decide +kernel
theorem dL_law_668 : decode cL_law 668 = .ok (.iadd, 1) := by decide +kernel
theorem dL_law_669 : decode cL_law 669 = .ok (.iaload, 1) := by decide +kernel
theorem dL_law_670 : decode cL_law 670 = .ok (.aload_n 0, 1) := by decide +kernel
theorem dL_law_671 : decode cL_law 671 = .ok (.iload_n 3, 1) := by decide +kernel
theorem dL_law_672 : decode cL_law 672 = .ok (.iconst 4, 1) := by decide +kernel
theorem dL_law_673 : decode cL_law 673 = .ok (.iadd, 1) := by decide +kernel
theorem dL_law_674 : decode cL_law 674 = .ok (.iaload, 1) := by decide +kernel
theorem dL_law_675 : decode cL_law 675 = .ok (.invokevirtual 100, 3) := by decide +kernel
theorem dL_law_678 : decode cL_law 678 = .ok (.if_icmp .eq 176, 3) := by decide +kernel
theorem dL_law_681 : decode cL_law 681 = .ok (.iconst 0, 1) := by decide +kernel
theorem dL_law_682 : decode cL_law 682 = .ok (.ireturn, 1) := by decide +kernel
theorem dL_law_683 : decode cL_law 683 = .ok (.aload_n 1, 1) := by decide +kernel
theorem dL_law_684 : decode cL_law 684 = .ok (.invokevirtual 101, 3) := by decide +kernel
theorem dL_law_687 : decode cL_law 687 = .ok (.aload_n 2, 1) := by decide +kernel
theorem dL_law_688 : decode cL_law 688 = .ok (.invokevirtual 104, 3) := by decide +kernel
theorem dL_law_691 : decode cL_law 691 = .ok (.if_icmp .eq 163, 3) := by decide +kernel
theorem dL_law_694 : decode cL_law 694 = .ok (.iconst 0, 1) := by decide +kernel
theorem dL_law_695 : decode cL_law 695 = .ok (.ireturn, 1) := by decide +kernel
theorem dL_law_696 : decode cL_law 696 = .ok (.aload_n 1, 1) := by decide +kernel
theorem dL_law_697 : decode cL_law 697 = .ok (.aload_n 0, 1) := by decide +kernel
theorem dL_law_698 : decode cL_law 698 = .ok (.iload_n 3, 1) := by decide +kernel
theorem dL_law_699 : decode cL_law 699 = .ok (.iconst 1, 1) := by decide +kernel
theorem dL_law_700 : decode cL_law 700 = .ok (.iadd, 1) := by decide +kernel
theorem dL_law_701 : decode cL_law 701 = .ok (.iaload, 1) := by decide +kernel
theorem dL_law_702 : decode cL_law 702 = .ok (.invokevirtual 105, 3) := by decide +kernel
theorem dL_law_705 : decode cL_law 705 = .ok (.aload_n 2, 1) := by decide +kernel
theorem dL_law_706 : decode cL_law 706 = .ok (.aload_n 0, 1) := by decide +kernel
theorem dL_law_707 : decode cL_law 707 = .ok (.iload_n 3, 1) := by decide +kernel
theorem dL_law_708 : decode cL_law 708 = .ok (.iconst 1, 1) := by decide +kernel
theorem dL_law_709 : decode cL_law 709 = .ok (.iadd, 1) := by decide +kernel
theorem dL_law_710 : decode cL_law 710 = .ok (.iaload, 1) := by decide +kernel
theorem dL_law_711 : decode cL_law 711 = .ok (.invokevirtual 108, 3) := by decide +kernel
theorem dL_law_714 : decode cL_law 714 = .ok (.if_icmp .eq 140, 3) := by decide +kernel
theorem dL_law_717 : decode cL_law 717 = .ok (.iconst 0, 1) := by decide +kernel
theorem dL_law_718 : decode cL_law 718 = .ok (.ireturn, 1) := by decide +kernel
theorem dL_law_719 : decode cL_law 719 = .ok (.aload_n 1, 1) := by decide +kernel
theorem dL_law_720 : decode cL_law 720 = .ok (.aload_n 0, 1) := by decide +kernel
theorem dL_law_721 : decode cL_law 721 = .ok (.iload_n 3, 1) := by decide +kernel
theorem dL_law_722 : decode cL_law 722 = .ok (.iconst 1, 1) := by decide +kernel
theorem dL_law_723 : decode cL_law 723 = .ok (.iadd, 1) := by decide +kernel
theorem dL_law_724 : decode cL_law 724 = .ok (.iaload, 1) := by decide +kernel
theorem dL_law_725 : decode cL_law 725 = .ok (.aload_n 0, 1) := by decide +kernel
theorem dL_law_726 : decode cL_law 726 = .ok (.iload_n 3, 1) := by decide +kernel
theorem dL_law_727 : decode cL_law 727 = .ok (.iconst 2, 1) := by decide +kernel
theorem dL_law_728 : decode cL_law 728 = .ok (.iadd, 1) := by decide +kernel
theorem dL_law_729 : decode cL_law 729 = .ok (.iaload, 1) := by decide +kernel
theorem dL_law_730 : decode cL_law 730 = .ok (.aload_n 0, 1) := by decide +kernel
theorem dL_law_731 : decode cL_law 731 = .ok (.iload_n 3, 1) := by decide +kernel
theorem dL_law_732 : decode cL_law 732 = .ok (.iconst 3, 1) := by decide +kernel
theorem dL_law_733 : decode cL_law 733 = .ok (.iadd, 1) := by decide +kernel
theorem dL_law_734 : decode cL_law 734 = .ok (.iaload, 1) := by decide +kernel
theorem dL_law_735 : decode cL_law 735 = .ok (.invokevirtual 109, 3) := by decide +kernel
theorem dL_law_738 : decode cL_law 738 = .ok (.aload_n 2, 1) := by decide +kernel
theorem dL_law_739 : decode cL_law 739 = .ok (.aload_n 0, 1) := by decide +kernel
theorem dL_law_740 : decode cL_law 740 = .ok (.iload_n 3, 1) := by decide +kernel
theorem dL_law_741 : decode cL_law 741 = .ok (.iconst 1, 1) := by decide +kernel
theorem dL_law_742 : decode cL_law 742 = .ok (.iadd, 1) := by decide +kernel
theorem dL_law_743 : decode cL_law 743 = .ok (.iaload, 1) := by decide +kernel
theorem dL_law_744 : decode cL_law 744 = .ok (.aload_n 0, 1) := by decide +kernel
theorem dL_law_745 : decode cL_law 745 = .ok (.iload_n 3, 1) := by decide +kernel
theorem dL_law_746 : decode cL_law 746 = .ok (.iconst 2, 1) := by decide +kernel
theorem dL_law_747 : decode cL_law 747 = .ok (.iadd, 1) := by decide +kernel
theorem dL_law_748 : decode cL_law 748 = .ok (.iaload, 1) := by decide +kernel
theorem dL_law_749 : decode cL_law 749 = .ok (.aload_n 0, 1) := by decide +kernel
theorem dL_law_750 : decode cL_law 750 = .ok (.iload_n 3, 1) := by decide +kernel
theorem dL_law_751 : decode cL_law 751 = .ok (.iconst 3, 1) := by decide +kernel
theorem dL_law_752 : decode cL_law 752 = .ok (.iadd, 1) := by decide +kernel
theorem dL_law_753 : decode cL_law 753 = .ok (.iaload, 1) := by decide +kernel
theorem dL_law_754 : decode cL_law 754 = .ok (.invokevirtual 113, 3) := by decide +kernel
theorem dL_law_757 : decode cL_law 757 = .ok (.if_icmp .eq 97, 3) := by decide +kernel
theorem dL_law_760 : decode cL_law 760 = .ok (.iconst 0, 1) := by decide +kernel
theorem dL_law_761 : decode cL_law 761 = .ok (.ireturn, 1) := by decide +kernel
theorem dL_law_762 : decode cL_law 762 = .ok (.aload_n 1, 1) := by decide +kernel
theorem dL_law_763 : decode cL_law 763 = .ok (.aload_n 0, 1) := by decide +kernel
theorem dL_law_764 : decode cL_law 764 = .ok (.iload_n 3, 1) := by decide +kernel
theorem dL_law_765 : decode cL_law 765 = .ok (.iconst 1, 1) := by decide +kernel
theorem dL_law_766 : decode cL_law 766 = .ok (.iadd, 1) := by decide +kernel
theorem dL_law_767 : decode cL_law 767 = .ok (.iaload, 1) := by decide +kernel
theorem dL_law_768 : decode cL_law 768 = .ok (.aload_n 0, 1) := by decide +kernel
theorem dL_law_769 : decode cL_law 769 = .ok (.iload_n 3, 1) := by decide +kernel
theorem dL_law_770 : decode cL_law 770 = .ok (.iconst 2, 1) := by decide +kernel
theorem dL_law_771 : decode cL_law 771 = .ok (.iadd, 1) := by decide +kernel
theorem dL_law_772 : decode cL_law 772 = .ok (.iaload, 1) := by decide +kernel
theorem dL_law_773 : decode cL_law 773 = .ok (.aload_n 0, 1) := by decide +kernel
theorem dL_law_774 : decode cL_law 774 = .ok (.iload_n 3, 1) := by decide +kernel
theorem dL_law_775 : decode cL_law 775 = .ok (.iconst 3, 1) := by decide +kernel
theorem dL_law_776 : decode cL_law 776 = .ok (.iadd, 1) := by decide +kernel
theorem dL_law_777 : decode cL_law 777 = .ok (.iaload, 1) := by decide +kernel
theorem dL_law_778 : decode cL_law 778 = .ok (.invokevirtual 114, 3) := by decide +kernel
theorem dL_law_781 : decode cL_law 781 = .ok (.aload_n 2, 1) := by decide +kernel
theorem dL_law_782 : decode cL_law 782 = .ok (.aload_n 0, 1) := by decide +kernel
theorem dL_law_783 : decode cL_law 783 = .ok (.iload_n 3, 1) := by decide +kernel
theorem dL_law_784 : decode cL_law 784 = .ok (.iconst 1, 1) := by decide +kernel
theorem dL_law_785 : decode cL_law 785 = .ok (.iadd, 1) := by decide +kernel
theorem dL_law_786 : decode cL_law 786 = .ok (.iaload, 1) := by decide +kernel
theorem dL_law_787 : decode cL_law 787 = .ok (.aload_n 0, 1) := by decide +kernel
theorem dL_law_788 : decode cL_law 788 = .ok (.iload_n 3, 1) := by decide +kernel
theorem dL_law_789 : decode cL_law 789 = .ok (.iconst 2, 1) := by decide +kernel
theorem dL_law_790 : decode cL_law 790 = .ok (.iadd, 1) := by decide +kernel
theorem dL_law_791 : decode cL_law 791 = .ok (.iaload, 1) := by decide +kernel
theorem dL_law_792 : decode cL_law 792 = .ok (.aload_n 0, 1) := by decide +kernel
theorem dL_law_793 : decode cL_law 793 = .ok (.iload_n 3, 1) := by decide +kernel
theorem dL_law_794 : decode cL_law 794 = .ok (.iconst 3, 1) := by decide +kernel
theorem dL_law_795 : decode cL_law 795 = .ok (.iadd, 1) := by decide +kernel
theorem dL_law_796 : decode cL_law 796 = .ok (.iaload, 1) := by decide +kernel
theorem dL_law_797 : decode cL_law 797 = .ok (.invokevirtual 117, 3) := by decide +kernel
theorem dL_law_800 : decode cL_law 800 = .ok (.if_icmp .eq 54, 3) := by decide +kernel
theorem dL_law_803 : decode cL_law 803 = .ok (.iconst 0, 1) := by decide +kernel
theorem dL_law_804 : decode cL_law 804 = .ok (.ireturn, 1) := by decide +kernel
theorem dL_law_805 : decode cL_law 805 = .ok (.aload_n 1, 1) := by decide +kernel
theorem dL_law_806 : decode cL_law 806 = .ok (.invokevirtual 118, 3) := by decide +kernel
theorem dL_law_809 : decode cL_law 809 = .ok (.aload_n 2, 1) := by decide +kernel
theorem dL_law_810 : decode cL_law 810 = .ok (.invokevirtual 121, 3) := by decide +kernel
theorem dL_law_813 : decode cL_law 813 = .ok (.if_icmp .eq 41, 3) := by decide +kernel
theorem dL_law_816 : decode cL_law 816 = .ok (.iconst 0, 1) := by decide +kernel
theorem dL_law_817 : decode cL_law 817 = .ok (.ireturn, 1) := by decide +kernel
theorem dL_law_818 : decode cL_law 818 = .ok (.aload_n 1, 1) := by decide +kernel
theorem dL_law_819 : decode cL_law 819 = .ok (.invokevirtual 122, 3) := by decide +kernel
theorem dL_law_822 : decode cL_law 822 = .ok (.aload_n 2, 1) := by decide +kernel
theorem dL_law_823 : decode cL_law 823 = .ok (.invokevirtual 125, 3) := by decide +kernel
theorem dL_law_826 : decode cL_law 826 = .ok (.if_icmp .eq 28, 3) := by decide +kernel
theorem dL_law_829 : decode cL_law 829 = .ok (.iconst 0, 1) := by decide +kernel
theorem dL_law_830 : decode cL_law 830 = .ok (.ireturn, 1) := by decide +kernel
theorem dL_law_831 : decode cL_law 831 = .ok (.aload_n 1, 1) := by decide +kernel
theorem dL_law_832 : decode cL_law 832 = .ok (.aload_n 0, 1) := by decide +kernel
theorem dL_law_833 : decode cL_law 833 = .ok (.iload_n 3, 1) := by decide +kernel
theorem dL_law_834 : decode cL_law 834 = .ok (.iconst 1, 1) := by decide +kernel
theorem dL_law_835 : decode cL_law 835 = .ok (.iadd, 1) := by decide +kernel
theorem dL_law_836 : decode cL_law 836 = .ok (.iaload, 1) := by decide +kernel
theorem dL_law_837 : decode cL_law 837 = .ok (.invokevirtual 126, 3) := by decide +kernel
theorem dL_law_840 : decode cL_law 840 = .ok (.aload_n 2, 1) := by decide +kernel
theorem dL_law_841 : decode cL_law 841 = .ok (.aload_n 0, 1) := by decide +kernel
theorem dL_law_842 : decode cL_law 842 = .ok (.iload_n 3, 1) := by decide +kernel
theorem dL_law_843 : decode cL_law 843 = .ok (.iconst 1, 1) := by decide +kernel
theorem dL_law_844 : decode cL_law 844 = .ok (.iadd, 1) := by decide +kernel
theorem dL_law_845 : decode cL_law 845 = .ok (.iaload, 1) := by decide +kernel
theorem dL_law_846 : decode cL_law 846 = .ok (.invokevirtual 129, 3) := by decide +kernel
theorem dL_law_849 : decode cL_law 849 = .ok (.if_icmp .eq 5, 3) := by decide +kernel
theorem dL_law_852 : decode cL_law 852 = .ok (.iconst 0, 1) := by decide +kernel
theorem dL_law_853 : decode cL_law 853 = .ok (.ireturn, 1) := by decide +kernel
theorem dL_law_854 : decode cL_law 854 = .ok (.iinc 3 5, 3) := by decide +kernel
theorem dL_law_857 : decode cL_law 857 = .ok (.goto (-839), 3) := by decide +kernel
theorem dL_law_860 : decode cL_law 860 = .ok (.iconst 1, 1) := by decide +kernel
theorem dL_law_861 : decode cL_law 861 = .ok (.ireturn, 1) := by decide +kernel
end
section
/-! THE STATIC LAYER: behind the constructors no reference is ever written again, so a heap is a list of shapes and a table of ints.
    WS: the walk's judgement over that table, in any machine that stands in the method. -/
abbrev sG : Type := va_G × (Nat → Nat) × (Nat → ClassId)
abbrev sShp : Type := (Nat × Nat) ⊕ (Nat × List (Option Nat)) ⊕ List Nat
abbrev sSt : Type := Nat → Nat → Int32
abbrev sB : Type := sG × List sShp × (Nat → Prop)
def s_ty : Nat → FieldType
  | 0 => .int
  | 1 => .char
  | 2 => .byte
  | _ => .object RX0
def s_fv (ad : Nat → Nat) (f : Nat → Int32) : Nat → List (Option Nat) → List Value
  | _, [] => []
  | j, none :: l => .int (f j) :: s_fv ad f (j + 1) l
  | j, some r :: l => .ref (ad r) :: s_fv ad f (j + 1) l
def s_cell (G : sG) (x : sShp) (f : Nat → Int32) : va_E := match x with
  | .inl (t, n) => .inl (G.2.2 t, n, .inl f)
  | .inr (.inl (ci, fl)) => .inr (ci, s_fv G.2.1 f 0 fl)
  | .inr (.inr l) => .inl (G.2.2 3, l.length, .inr (.inr (.inr (.inr (fun j => (l[j]?).map G.2.1)))))
def s_w (B : sB) (S : sSt) : va_W := B.2.1.mapIdx (fun k x => (B.1.2.1 k, s_cell B.1 x (S k)))
abbrev s_tys (G : sG) : List (ClassId × FieldType) := [(G.2.2 0, .int), (G.2.2 1, .char), (G.2.2 2, .byte), (G.2.2 3, .object RX0)]
abbrev s_ad (B : sB) (k : Nat) : Nat := B.1.2.1 k
def s_put (S : sSt) (k i : Nat) (v : Int32) : sSt := fun a b => if a = k then (if b = i then v else S k b) else S a b
def sT : List Cond := lw_tbl.filter goodWord
def sNw : List Cond := lw_tbl.filter (fun w => match w with | .methodLinkNest _ _ _ _ => true | .fieldLinkNest _ _ _ _ _ _ => true | _ => false)
def sAp (B : sB) : Prop := (∀ i j : Nat, i < B.2.1.length → j < B.2.1.length → B.1.2.1 i = B.1.2.1 j → i = j) ∧ ∀ k : Nat, k < B.2.1.length → B.2.2 (B.1.2.1 k)
def sKn (B : sB) (U : State) : Prop := va_K B.1.1 vwCl (s_tys B.1) U ∧ ∀ w ∈ sNw, va_Nw w U
def sCtx (B : sB) (E : State → Prop) (y : MethodName) (cc : ByteArray) (mL : Nat) (rt : Option FieldType) (d : Nat) (p : Program) (R : Room) (s : State) (m : MethodId) (args : Array Value) (meth : Method) (c : Code) : Prop :=
  p.tables.exec = Jvm.exec ∧ c.code = cc ∧ c.maxLocals = mL ∧ meth.sig.returnType = rt ∧ meth.locks = false ∧ s.vm.findClass y.cls = some m.cls ∧ (∀ w ∈ sT, w.before args s = true) ∧ d ≤ R.frames ∧ 100 * d ≤ R.locals ∧ sKn B s ∧ sAp B ∧ E s
def sEnd (cc : ByteArray) (rt : Option FieldType) (pc : Nat) (v : Option Value) : Prop := (v = none ∧ rt = none ∧ decode cc pc = .ok (.return_, 1)) ∨ ∃ (x : Int32) (ty : FieldType), v = some (.int x) ∧ rt = some ty ∧ narrow ty (.int x) = .int x ∧ decode cc pc = .ok (.ireturn, 1)
def WS (B : sB) (E : State → Prop) (y : MethodName) (cc : ByteArray) (mL : Nat) (rt : Option FieldType) (d pc : Nat) (lv : List (Nat × Value)) (st : List Value) (S : sSt) (Q : Option Value → sSt → Prop) : Prop :=
  ∀ (p : Program) (l : Launch) (e : Env) (R : Room) (s : State) (m : MethodId) (args : Array Value) (below : List Frame) (meth : Method) (c : Code), sCtx B E y cc mL rt d p R s m args meth c →
  ∀ (H : Heap) (locs : List Loc) (cells slots : Nat) (ls : Array Slot) (QQ : State → Prop), va_P B.1.1 vwCl (s_w B S) H → va_S B.2.2 s.heap H locs → lv_has ls mL lv → cells ≤ R.cells ∧ slots ≤ R.slots →
  (∀ (v : Option Value) (S' : sSt) (H' : Heap) (locs' : List Loc) (pc' : Nat) (ls' : Array Slot), Q v S' → va_P B.1.1 vwCl (s_w B S') H' → va_S B.2.2 s.heap H' locs' → sEnd cc rt pc' v → W p l e R s m args below meth c H' locs' cells slots QQ (F0 m pc' ls' v.toList)) →
  W p l e R s m args below meth c H locs cells slots QQ (F0 m pc ls st)
def CS (B : sB) (y : MethodName) (cc : ByteArray) (mL : Nat) (rt : Option FieldType) (d : Nat) (av : List Value) (S : sSt) (Q : Option Value → sSt → Prop) : Prop :=
  WS B (fun _ => True) y cc mL rt d 0 (lv_args 0 av) [] S Q
theorem s_fv_get {ad : Nat → Nat} {f : Nat → Int32} {fl : List (Option Nat)} : ∀ {j i : Nat}, (s_fv ad f j fl)[i]? = (fl[i]?).map (fun x => match x with | none => Value.int (f (j + i)) | some r => Value.ref (ad r)) := by
  induction fl with
  | nil => intro j i; simp [s_fv]
  | cons a t ih =>
    intro j i
    cases a with
    | none =>
      cases i with
      | zero => simp [s_fv]
      | succ i => simp only [s_fv, List.getElem?_cons_succ, ih]; rw [show j + 1 + i = j + (i + 1) by omega]
    | some r =>
      cases i with
      | zero => simp [s_fv]
      | succ i => simp only [s_fv, List.getElem?_cons_succ, ih]; rw [show j + 1 + i = j + (i + 1) by omega]
theorem s_fv_len {ad : Nat → Nat} {f : Nat → Int32} {fl : List (Option Nat)} : ∀ {j : Nat}, (s_fv ad f j fl).length = fl.length := by
  induction fl with
  | nil => intro j; rfl
  | cons a t ih => intro j; cases a <;> simp [s_fv, ih]
theorem s_w_get {B : sB} {S : sSt} {k : Nat} {x : sShp} (h : B.2.1[k]? = some x) : (s_w B S)[k]? = some (B.1.2.1 k, s_cell B.1 x (S k)) := by
  simp [s_w, List.getElem?_mapIdx, h]
theorem s_w_len {B : sB} {S : sSt} : (s_w B S).length = B.2.1.length := by simp [s_w]
theorem s_w_D {B : sB} (h : sAp B) (S : sSt) : va_D B.2.2 (s_w B S) := by
  have g : ∀ (k : Nat) (q : Nat × va_E), (s_w B S)[k]? = some q → k < B.2.1.length ∧ q.1 = B.1.2.1 k := by
    intro k q hq
    simp only [s_w, List.getElem?_mapIdx, Option.map_eq_some_iff] at hq
    obtain ⟨x, h1, h2⟩ := hq
    exact ⟨(List.getElem?_eq_some_iff.mp h1).1, by rw [← h2]⟩
  refine ⟨fun i j p q hp hq e => ?_, fun k q hq => ?_⟩
  · obtain ⟨a1, a2⟩ := g i p hp
    obtain ⟨b1, b2⟩ := g j q hq
    exact h.1 i j a1 b1 (by rw [← a2, ← b2, e])
  · obtain ⟨a1, a2⟩ := g k q hq
    rw [a2]; exact h.2 k a1
theorem s_w_set {B : sB} {S S' : sSt} {k : Nat} {x : sShp} (h : B.2.1[k]? = some x) (ho : ∀ j, j ≠ k → S' j = S j) : (s_w B S).set k (B.1.2.1 k, s_cell B.1 x (S' k)) = s_w B S' := by
  apply List.ext_getElem?
  intro j
  have hk := (List.getElem?_eq_some_iff.mp h).1
  by_cases hj : j = k
  · subst hj
    rw [List.getElem?_set_self (by rw [s_w_len]; exact hk), s_w_get h]
  · rw [List.getElem?_set_ne (fun q => hj q.symm)]
    simp only [s_w, List.getElem?_mapIdx]
    cases hx : B.2.1[j]? with
    | none => rfl
    | some z => simp only [Option.map_some]; rw [ho j hj]
theorem s_put_k (S : sSt) (k i : Nat) (v : Int32) : s_put S k i v k = upd (S k) i v := by
  funext b; simp [s_put, upd]
theorem s_put_o (S : sSt) (k i : Nat) (v : Int32) : ∀ j, j ≠ k → s_put S k i v j = S j := by
  intro j hj; funext b; simp [s_put, hj]
def s_cp (S : sSt) (k : Nat) (g : Nat → Int32) : sSt := fun a => if a = k then g else S a
theorem s_cp_k (S : sSt) (k : Nat) (g : Nat → Int32) : s_cp S k g k = g := by simp [s_cp]
theorem s_cp_o (S : sSt) (k : Nat) (g : Nat → Int32) : ∀ j, j ≠ k → s_cp S k g j = S j := by intro j hj; simp [s_cp, hj]
theorem s_fv_set {ad : Nat → Nat} {f : Nat → Int32} {fl : List (Option Nat)} {i : Nat} {v : Int32} (h : fl[i]? = some none) : (s_fv ad f 0 fl).set i (.int v) = s_fv ad (upd f i v) 0 fl := by
  apply List.ext_getElem?
  intro j
  by_cases hj : j = i
  · subst hj
    rw [List.getElem?_set_self (by rw [s_fv_len]; exact (List.getElem?_eq_some_iff.mp h).1), s_fv_get, h]
    simp [upd]
  · rw [List.getElem?_set_ne (fun q => hj q.symm), s_fv_get, s_fv_get]
    cases hx : fl[j]? with
    | none => rfl
    | some z =>
      cases z with
      | none => simp [upd, hj]
      | some r => rfl
end
section
section XR
variable {B : sB} {E : State → Prop} {y : MethodName} {cc : ByteArray} {mL : Nat} {rt : Option FieldType} {d pc : Nat} {lv : List (Nat × Value)} {st : List Value} {S : sSt} {Q : Option Value → sSt → Prop}
theorem x_iconst {n : Int} {v : Int32} (hd : decode cc pc = .ok (.iconst n, 1)) (hv : Int32.ofInt n = v) (k : WS B E y cc mL rt d (pc + 1) lv (.int v :: st) S Q) : WS B E y cc mL rt d pc lv (st) S Q := by
  intro p l e R s m args below meth c C H locs cells slots ls QQ hP hS hl hc fin
  exact lv_iconst C.1 C.2.1 hd hv (k p l e R s m args below meth c C H locs cells slots ls QQ hP hS hl hc fin)
theorem x_bipush {n : Int} {v : Int32} (hd : decode cc pc = .ok (.bipush n, 2)) (hv : (Int8.ofInt n).toInt32 = v) (k : WS B E y cc mL rt d (pc + 2) lv (.int v :: st) S Q) : WS B E y cc mL rt d pc lv (st) S Q := by
  intro p l e R s m args below meth c C H locs cells slots ls QQ hP hS hl hc fin
  exact lv_bipush C.1 C.2.1 hd hv (k p l e R s m args below meth c C H locs cells slots ls QQ hP hS hl hc fin)
theorem x_sipush {n : Int} {v : Int32} (hd : decode cc pc = .ok (.sipush n, 3)) (hv : (Int16.ofInt n).toInt32 = v) (k : WS B E y cc mL rt d (pc + 3) lv (.int v :: st) S Q) : WS B E y cc mL rt d pc lv (st) S Q := by
  intro p l e R s m args below meth c C H locs cells slots ls QQ hP hS hl hc fin
  exact lv_sipush C.1 C.2.1 hd hv (k p l e R s m args below meth c C H locs cells slots ls QQ hP hS hl hc fin)
theorem x_lconst {n : Fin 2} {v : Int64} (hd : decode cc pc = .ok (.lconst n, 1)) (hv : Int64.ofNat (n : Nat) = v) (k : WS B E y cc mL rt d (pc + 1) lv (.long v :: st) S Q) : WS B E y cc mL rt d pc lv (st) S Q := by
  intro p l e R s m args below meth c C H locs cells slots ls QQ hP hS hl hc fin
  exact lv_lconst C.1 C.2.1 hd hv (k p l e R s m args below meth c C H locs cells slots ls QQ hP hS hl hc fin)
theorem x_iadd {x0 y0 : Int32} (hd : decode cc pc = .ok (.iadd, 1))  (k : WS B E y cc mL rt d (pc + 1) lv (.int (x0 + y0) :: st) S Q) : WS B E y cc mL rt d pc lv (.int y0 :: .int x0 :: st) S Q := by
  intro p l e R s m args below meth c C H locs cells slots ls QQ hP hS hl hc fin
  exact lv_iadd C.1 C.2.1 hd (k p l e R s m args below meth c C H locs cells slots ls QQ hP hS hl hc fin)
theorem x_isub {x0 y0 : Int32} (hd : decode cc pc = .ok (.isub, 1))  (k : WS B E y cc mL rt d (pc + 1) lv (.int (x0 - y0) :: st) S Q) : WS B E y cc mL rt d pc lv (.int y0 :: .int x0 :: st) S Q := by
  intro p l e R s m args below meth c C H locs cells slots ls QQ hP hS hl hc fin
  exact lv_isub C.1 C.2.1 hd (k p l e R s m args below meth c C H locs cells slots ls QQ hP hS hl hc fin)
theorem x_imul {x0 y0 : Int32} (hd : decode cc pc = .ok (.imul, 1))  (k : WS B E y cc mL rt d (pc + 1) lv (.int (x0 * y0) :: st) S Q) : WS B E y cc mL rt d pc lv (.int y0 :: .int x0 :: st) S Q := by
  intro p l e R s m args below meth c C H locs cells slots ls QQ hP hS hl hc fin
  exact lv_imul C.1 C.2.1 hd (k p l e R s m args below meth c C H locs cells slots ls QQ hP hS hl hc fin)
theorem x_iand {x0 y0 : Int32} (hd : decode cc pc = .ok (.iand, 1))  (k : WS B E y cc mL rt d (pc + 1) lv (.int (x0 &&& y0) :: st) S Q) : WS B E y cc mL rt d pc lv (.int y0 :: .int x0 :: st) S Q := by
  intro p l e R s m args below meth c C H locs cells slots ls QQ hP hS hl hc fin
  exact lv_iand C.1 C.2.1 hd (k p l e R s m args below meth c C H locs cells slots ls QQ hP hS hl hc fin)
theorem x_ior {x0 y0 : Int32} (hd : decode cc pc = .ok (.ior, 1))  (k : WS B E y cc mL rt d (pc + 1) lv (.int (x0 ||| y0) :: st) S Q) : WS B E y cc mL rt d pc lv (.int y0 :: .int x0 :: st) S Q := by
  intro p l e R s m args below meth c C H locs cells slots ls QQ hP hS hl hc fin
  exact lv_ior C.1 C.2.1 hd (k p l e R s m args below meth c C H locs cells slots ls QQ hP hS hl hc fin)
theorem x_ixor {x0 y0 : Int32} (hd : decode cc pc = .ok (.ixor, 1))  (k : WS B E y cc mL rt d (pc + 1) lv (.int (x0 ^^^ y0) :: st) S Q) : WS B E y cc mL rt d pc lv (.int y0 :: .int x0 :: st) S Q := by
  intro p l e R s m args below meth c C H locs cells slots ls QQ hP hS hl hc fin
  exact lv_ixor C.1 C.2.1 hd (k p l e R s m args below meth c C H locs cells slots ls QQ hP hS hl hc fin)
theorem x_ishl {x0 y0 : Int32} (hd : decode cc pc = .ok (.ishl, 1))  (k : WS B E y cc mL rt d (pc + 1) lv (.int (x0 <<< (y0 &&& 31)) :: st) S Q) : WS B E y cc mL rt d pc lv (.int y0 :: .int x0 :: st) S Q := by
  intro p l e R s m args below meth c C H locs cells slots ls QQ hP hS hl hc fin
  exact lv_ishl C.1 C.2.1 hd (k p l e R s m args below meth c C H locs cells slots ls QQ hP hS hl hc fin)
theorem x_ishr {x0 y0 : Int32} (hd : decode cc pc = .ok (.ishr, 1))  (k : WS B E y cc mL rt d (pc + 1) lv (.int (x0 >>> (y0 &&& 31)) :: st) S Q) : WS B E y cc mL rt d pc lv (.int y0 :: .int x0 :: st) S Q := by
  intro p l e R s m args below meth c C H locs cells slots ls QQ hP hS hl hc fin
  exact lv_ishr C.1 C.2.1 hd (k p l e R s m args below meth c C H locs cells slots ls QQ hP hS hl hc fin)
theorem x_idiv {x0 y0 : Int32} (hd : decode cc pc = .ok (.idiv, 1)) (hne : ¬ y0 = 0) (k : WS B E y cc mL rt d (pc + 1) lv (.int (x0 / y0) :: st) S Q) : WS B E y cc mL rt d pc lv (.int y0 :: .int x0 :: st) S Q := by
  intro p l e R s m args below meth c C H locs cells slots ls QQ hP hS hl hc fin
  exact lv_idiv C.1 C.2.1 hd hne (k p l e R s m args below meth c C H locs cells slots ls QQ hP hS hl hc fin)
theorem x_irem {x0 y0 : Int32} (hd : decode cc pc = .ok (.irem, 1)) (hne : ¬ y0 = 0) (k : WS B E y cc mL rt d (pc + 1) lv (.int (x0 - x0 / y0 * y0) :: st) S Q) : WS B E y cc mL rt d pc lv (.int y0 :: .int x0 :: st) S Q := by
  intro p l e R s m args below meth c C H locs cells slots ls QQ hP hS hl hc fin
  exact lv_irem C.1 C.2.1 hd hne (k p l e R s m args below meth c C H locs cells slots ls QQ hP hS hl hc fin)
theorem x_ladd {x0 y0 : Int64} (hd : decode cc pc = .ok (.ladd, 1))  (k : WS B E y cc mL rt d (pc + 1) lv (.long (x0 + y0) :: st) S Q) : WS B E y cc mL rt d pc lv (.long y0 :: .long x0 :: st) S Q := by
  intro p l e R s m args below meth c C H locs cells slots ls QQ hP hS hl hc fin
  exact lv_ladd C.1 C.2.1 hd (k p l e R s m args below meth c C H locs cells slots ls QQ hP hS hl hc fin)
theorem x_lmul {x0 y0 : Int64} (hd : decode cc pc = .ok (.lmul, 1))  (k : WS B E y cc mL rt d (pc + 1) lv (.long (x0 * y0) :: st) S Q) : WS B E y cc mL rt d pc lv (.long y0 :: .long x0 :: st) S Q := by
  intro p l e R s m args below meth c C H locs cells slots ls QQ hP hS hl hc fin
  exact lv_lmul C.1 C.2.1 hd (k p l e R s m args below meth c C H locs cells slots ls QQ hP hS hl hc fin)
theorem x_ldiv {x0 y0 : Int64} (hd : decode cc pc = .ok (.ldiv, 1)) (hne : ¬ y0 = 0) (k : WS B E y cc mL rt d (pc + 1) lv (.long (x0 / y0) :: st) S Q) : WS B E y cc mL rt d pc lv (.long y0 :: .long x0 :: st) S Q := by
  intro p l e R s m args below meth c C H locs cells slots ls QQ hP hS hl hc fin
  exact lv_ldiv C.1 C.2.1 hd hne (k p l e R s m args below meth c C H locs cells slots ls QQ hP hS hl hc fin)
theorem x_lrem {x0 y0 : Int64} (hd : decode cc pc = .ok (.lrem, 1)) (hne : ¬ y0 = 0) (k : WS B E y cc mL rt d (pc + 1) lv (.long (x0 - x0 / y0 * y0) :: st) S Q) : WS B E y cc mL rt d pc lv (.long y0 :: .long x0 :: st) S Q := by
  intro p l e R s m args below meth c C H locs cells slots ls QQ hP hS hl hc fin
  exact lv_lrem C.1 C.2.1 hd hne (k p l e R s m args below meth c C H locs cells slots ls QQ hP hS hl hc fin)
theorem x_i2l {x0 : Int32} (hd : decode cc pc = .ok (.i2l, 1))  (k : WS B E y cc mL rt d (pc + 1) lv (.long x0.toInt64 :: st) S Q) : WS B E y cc mL rt d pc lv (.int x0 :: st) S Q := by
  intro p l e R s m args below meth c C H locs cells slots ls QQ hP hS hl hc fin
  exact lv_i2l C.1 C.2.1 hd rfl (k p l e R s m args below meth c C H locs cells slots ls QQ hP hS hl hc fin)
theorem x_l2i {x0 : Int64} (hd : decode cc pc = .ok (.l2i, 1))  (k : WS B E y cc mL rt d (pc + 1) lv (.int x0.toInt32 :: st) S Q) : WS B E y cc mL rt d pc lv (.long x0 :: st) S Q := by
  intro p l e R s m args below meth c C H locs cells slots ls QQ hP hS hl hc fin
  exact lv_l2i C.1 C.2.1 hd rfl (k p l e R s m args below meth c C H locs cells slots ls QQ hP hS hl hc fin)
theorem x_i2b {x0 : Int32} (hd : decode cc pc = .ok (.i2b, 1))  (k : WS B E y cc mL rt d (pc + 1) lv (.int x0.toInt8.toInt32 :: st) S Q) : WS B E y cc mL rt d pc lv (.int x0 :: st) S Q := by
  intro p l e R s m args below meth c C H locs cells slots ls QQ hP hS hl hc fin
  exact lv_i2b C.1 C.2.1 hd rfl (k p l e R s m args below meth c C H locs cells slots ls QQ hP hS hl hc fin)
theorem x_i2c {x0 : Int32} (hd : decode cc pc = .ok (.i2c, 1))  (k : WS B E y cc mL rt d (pc + 1) lv (.int (x0.toUInt32 % 65536).toInt32 :: st) S Q) : WS B E y cc mL rt d pc lv (.int x0 :: st) S Q := by
  intro p l e R s m args below meth c C H locs cells slots ls QQ hP hS hl hc fin
  exact lv_i2c C.1 C.2.1 hd rfl (k p l e R s m args below meth c C H locs cells slots ls QQ hP hS hl hc fin)
theorem x_dup {va : Value} (hd : decode cc pc = .ok (.dup, 1)) (hv : va.category = 1) (k : WS B E y cc mL rt d (pc + 1) lv (va :: va :: st) S Q) : WS B E y cc mL rt d pc lv (va :: st) S Q := by
  intro p l e R s m args below meth c C H locs cells slots ls QQ hP hS hl hc fin
  exact lv_dup C.1 C.2.1 hd hv (k p l e R s m args below meth c C H locs cells slots ls QQ hP hS hl hc fin)
theorem x_pop {va : Value} (hd : decode cc pc = .ok (.pop, 1)) (hv : va.category = 1) (k : WS B E y cc mL rt d (pc + 1) lv (st) S Q) : WS B E y cc mL rt d pc lv (va :: st) S Q := by
  intro p l e R s m args below meth c C H locs cells slots ls QQ hP hS hl hc fin
  exact lv_pop C.1 C.2.1 hd hv (k p l e R s m args below meth c C H locs cells slots ls QQ hP hS hl hc fin)
theorem x_dup2 {va vb : Value} (hd : decode cc pc = .ok (.dup2, 1)) (hva : va.category = 1) (hvb : vb.category = 1) (k : WS B E y cc mL rt d (pc + 1) lv (va :: vb :: va :: vb :: st) S Q) : WS B E y cc mL rt d pc lv (va :: vb :: st) S Q := by
  intro p l e R s m args below meth c C H locs cells slots ls QQ hP hS hl hc fin
  exact lv_dup2_11 C.1 C.2.1 hd hva hvb (k p l e R s m args below meth c C H locs cells slots ls QQ hP hS hl hc fin)
def s_lk : List (Nat × Value) → Nat → Option Value
  | [], _ => none
  | q :: l, i => if q.1 = i then some q.2 else s_lk l i
theorem s_lk_mem {i : Nat} {v : Value} : ∀ {lv : List (Nat × Value)}, s_lk lv i = some v → (i, v) ∈ lv := by
  intro lv
  induction lv with
  | nil => intro h; cases h
  | cons q l ih =>
    intro h
    unfold s_lk at h
    by_cases hq : q.1 = i
    · rw [if_pos hq] at h
      cases h
      rw [← hq]
      exact List.mem_cons_self
    · rw [if_neg hq] at h
      exact List.mem_cons_of_mem _ (ih h)
theorem s_lk_at {ls : Array Slot} {nL : Nat} {i : Nat} {v : Value} {lv : List (Nat × Value)} (hl : lv_has ls nL lv) (h : s_lk lv i = some v) : ls[i]? = some (.val v) := hl.2.2 (i, v) (s_lk_mem h)
theorem x_iload_n {n : Fin 4} {i : Nat} {x0 : Int32} (hd : decode cc pc = .ok (.iload_n n, 1)) (hi : (n : Nat) = i) (hv : s_lk lv i = some (.int x0)) (k : WS B E y cc mL rt d (pc + 1) lv (.int x0 :: st) S Q) : WS B E y cc mL rt d pc lv (st) S Q := by
  intro p l e R s m args below meth c C H locs cells slots ls QQ hP hS hl hc fin
  exact lv_iload_n C.1 C.2.1 hd hi (s_lk_at hl hv) (k p l e R s m args below meth c C H locs cells slots ls QQ hP hS hl hc fin)
theorem x_iload {i : Nat} {x0 : Int32} (hd : decode cc pc = .ok (.iload i, 2)) (hv : s_lk lv i = some (.int x0)) (k : WS B E y cc mL rt d (pc + 2) lv (.int x0 :: st) S Q) : WS B E y cc mL rt d pc lv (st) S Q := by
  intro p l e R s m args below meth c C H locs cells slots ls QQ hP hS hl hc fin
  exact lv_iload C.1 C.2.1 hd (s_lk_at hl hv) (k p l e R s m args below meth c C H locs cells slots ls QQ hP hS hl hc fin)
theorem x_lload_n {n : Fin 4} {i : Nat} {x0 : Int64} (hd : decode cc pc = .ok (.lload_n n, 1)) (hi : (n : Nat) = i) (hv : s_lk lv i = some (.long x0)) (k : WS B E y cc mL rt d (pc + 1) lv (.long x0 :: st) S Q) : WS B E y cc mL rt d pc lv (st) S Q := by
  intro p l e R s m args below meth c C H locs cells slots ls QQ hP hS hl hc fin
  exact lv_lload_n C.1 C.2.1 hd hi (s_lk_at hl hv) (k p l e R s m args below meth c C H locs cells slots ls QQ hP hS hl hc fin)
theorem x_lload {i : Nat} {x0 : Int64} (hd : decode cc pc = .ok (.lload i, 2)) (hv : s_lk lv i = some (.long x0)) (k : WS B E y cc mL rt d (pc + 2) lv (.long x0 :: st) S Q) : WS B E y cc mL rt d pc lv (st) S Q := by
  intro p l e R s m args below meth c C H locs cells slots ls QQ hP hS hl hc fin
  exact lv_lload C.1 C.2.1 hd (s_lk_at hl hv) (k p l e R s m args below meth c C H locs cells slots ls QQ hP hS hl hc fin)
theorem x_aload_n {n : Fin 4} {i : Nat} {x0 : Nat} (hd : decode cc pc = .ok (.aload_n n, 1)) (hi : (n : Nat) = i) (hv : s_lk lv i = some (.ref x0)) (k : WS B E y cc mL rt d (pc + 1) lv (.ref x0 :: st) S Q) : WS B E y cc mL rt d pc lv (st) S Q := by
  intro p l e R s m args below meth c C H locs cells slots ls QQ hP hS hl hc fin
  exact lv_aload_n C.1 C.2.1 hd hi (s_lk_at hl hv) (k p l e R s m args below meth c C H locs cells slots ls QQ hP hS hl hc fin)
theorem x_aload {i : Nat} {x0 : Nat} (hd : decode cc pc = .ok (.aload i, 2)) (hv : s_lk lv i = some (.ref x0)) (k : WS B E y cc mL rt d (pc + 2) lv (.ref x0 :: st) S Q) : WS B E y cc mL rt d pc lv (st) S Q := by
  intro p l e R s m args below meth c C H locs cells slots ls QQ hP hS hl hc fin
  exact lv_aload C.1 C.2.1 hd (s_lk_at hl hv) (k p l e R s m args below meth c C H locs cells slots ls QQ hP hS hl hc fin)
theorem x_istore_n {n : Fin 4} {i : Nat} {x0 : Int32} {lv' : List (Nat × Value)} (hd : decode cc pc = .ok (.istore_n n, 1)) (hi : (n : Nat) = i) (hn : i < mL) (hlv : (i, Value.int x0) :: lv.filter (fun q => !(q.1 == i) && !(q.1 + 1 == i && q.2.category == 2)) = lv') (k : WS B E y cc mL rt d (pc + 1) lv' st S Q) : WS B E y cc mL rt d pc lv (.int x0 :: st) S Q := by
  intro p l e R s m args below meth c C H locs cells slots ls QQ hP hS hl hc fin
  exact lv_istore_n C.1 C.2.1 hd hi hl hn hlv (fun ls hl => k p l e R s m args below meth c C H locs cells slots ls QQ hP hS hl hc fin)
theorem x_istore {i : Nat} {x0 : Int32} {lv' : List (Nat × Value)} (hd : decode cc pc = .ok (.istore i, 2)) (hn : i < mL) (hlv : (i, Value.int x0) :: lv.filter (fun q => !(q.1 == i) && !(q.1 + 1 == i && q.2.category == 2)) = lv') (k : WS B E y cc mL rt d (pc + 2) lv' st S Q) : WS B E y cc mL rt d pc lv (.int x0 :: st) S Q := by
  intro p l e R s m args below meth c C H locs cells slots ls QQ hP hS hl hc fin
  exact lv_istore C.1 C.2.1 hd hl hn hlv (fun ls hl => k p l e R s m args below meth c C H locs cells slots ls QQ hP hS hl hc fin)
theorem x_astore_n {n : Fin 4} {i : Nat} {x0 : Nat} {lv' : List (Nat × Value)} (hd : decode cc pc = .ok (.astore_n n, 1)) (hi : (n : Nat) = i) (hn : i < mL) (hlv : (i, Value.ref x0) :: lv.filter (fun q => !(q.1 == i) && !(q.1 + 1 == i && q.2.category == 2)) = lv') (k : WS B E y cc mL rt d (pc + 1) lv' st S Q) : WS B E y cc mL rt d pc lv (.ref x0 :: st) S Q := by
  intro p l e R s m args below meth c C H locs cells slots ls QQ hP hS hl hc fin
  exact lv_astore_n C.1 C.2.1 hd hi hl hn hlv (fun ls hl => k p l e R s m args below meth c C H locs cells slots ls QQ hP hS hl hc fin)
theorem x_astore {i : Nat} {x0 : Nat} {lv' : List (Nat × Value)} (hd : decode cc pc = .ok (.astore i, 2)) (hn : i < mL) (hlv : (i, Value.ref x0) :: lv.filter (fun q => !(q.1 == i) && !(q.1 + 1 == i && q.2.category == 2)) = lv') (k : WS B E y cc mL rt d (pc + 2) lv' st S Q) : WS B E y cc mL rt d pc lv (.ref x0 :: st) S Q := by
  intro p l e R s m args below meth c C H locs cells slots ls QQ hP hS hl hc fin
  exact lv_astore C.1 C.2.1 hd hl hn hlv (fun ls hl => k p l e R s m args below meth c C H locs cells slots ls QQ hP hS hl hc fin)
theorem x_lstore_n {n : Fin 4} {i : Nat} {x0 : Int64} {lv' : List (Nat × Value)} (hd : decode cc pc = .ok (.lstore_n n, 1)) (hi : (n : Nat) = i) (hn : i + 1 < mL) (hlv : (i, Value.long x0) :: lv.filter (fun q => !(q.1 == i) && (!(q.1 == i + 1) && !(q.1 + 1 == i && q.2.category == 2))) = lv') (k : WS B E y cc mL rt d (pc + 1) lv' st S Q) : WS B E y cc mL rt d pc lv (.long x0 :: st) S Q := by
  intro p l e R s m args below meth c C H locs cells slots ls QQ hP hS hl hc fin
  exact lv_lstore_n C.1 C.2.1 hd hi hl hn hlv (fun ls hl => k p l e R s m args below meth c C H locs cells slots ls QQ hP hS hl hc fin)
theorem x_lstore {i : Nat} {x0 : Int64} {lv' : List (Nat × Value)} (hd : decode cc pc = .ok (.lstore i, 2)) (hn : i + 1 < mL) (hlv : (i, Value.long x0) :: lv.filter (fun q => !(q.1 == i) && (!(q.1 == i + 1) && !(q.1 + 1 == i && q.2.category == 2))) = lv') (k : WS B E y cc mL rt d (pc + 2) lv' st S Q) : WS B E y cc mL rt d pc lv (.long x0 :: st) S Q := by
  intro p l e R s m args below meth c C H locs cells slots ls QQ hP hS hl hc fin
  exact lv_lstore C.1 C.2.1 hd hl hn hlv (fun ls hl => k p l e R s m args below meth c C H locs cells slots ls QQ hP hS hl hc fin)
theorem x_iinc {i : Nat} {n : Int} {x0 v : Int32} {lv' : List (Nat × Value)} (hd : decode cc pc = .ok (.iinc i n, 3)) (hv0 : s_lk lv i = some (.int x0)) (hv : x0 + Int32.ofInt n = v) (hn : i < mL) (hlv : (i, Value.int v) :: lv.filter (fun q => !(q.1 == i) && !(q.1 + 1 == i && q.2.category == 2)) = lv') (k : WS B E y cc mL rt d (pc + 3) lv' st S Q) : WS B E y cc mL rt d pc lv st S Q := by
  intro p l e R s m args below meth c C H locs cells slots ls QQ hP hS hl hc fin
  obtain ⟨j, hj⟩ := List.getElem?_of_mem (s_lk_mem hv0)
  exact lv_iinc C.1 C.2.1 hd hl hj hv hn hlv (fun ls hl => k p l e R s m args below meth c C H locs cells slots ls QQ hP hS hl hc fin)
theorem x_if_eq {x0 : Int32} {off : Int} {tgt : Nat} (hd : decode cc pc = .ok (.ifCond .eq off, 3)) (ht : (pc : Int) + off = (tgt : Int)) (kt : x0 = 0 → WS B E y cc mL rt d tgt lv st S Q) (kf : ¬ x0 = 0 → WS B E y cc mL rt d (pc + 3) lv st S Q) : WS B E y cc mL rt d pc lv (.int x0 :: st) S Q := by
  intro p l e R s m args below meth c C H locs cells slots ls QQ hP hS hl hc fin
  exact lv_if_eq C.1 C.2.1 hd ht (fun h => kt h p l e R s m args below meth c C H locs cells slots ls QQ hP hS hl hc fin) (fun h => kf h p l e R s m args below meth c C H locs cells slots ls QQ hP hS hl hc fin)
theorem x_icmp_eq {x0 y0 : Int32} {off : Int} {tgt : Nat} (hd : decode cc pc = .ok (.if_icmp .eq off, 3)) (ht : (pc : Int) + off = (tgt : Int)) (kt : x0 = y0 → WS B E y cc mL rt d tgt lv st S Q) (kf : ¬ x0 = y0 → WS B E y cc mL rt d (pc + 3) lv st S Q) : WS B E y cc mL rt d pc lv (.int y0 :: .int x0 :: st) S Q := by
  intro p l e R s m args below meth c C H locs cells slots ls QQ hP hS hl hc fin
  exact lv_icmp_eq C.1 C.2.1 hd ht (fun h => kt h p l e R s m args below meth c C H locs cells slots ls QQ hP hS hl hc fin) (fun h => kf h p l e R s m args below meth c C H locs cells slots ls QQ hP hS hl hc fin)
theorem x_if_ne {x0 : Int32} {off : Int} {tgt : Nat} (hd : decode cc pc = .ok (.ifCond .ne off, 3)) (ht : (pc : Int) + off = (tgt : Int)) (kt : ¬ x0 = 0 → WS B E y cc mL rt d tgt lv st S Q) (kf : x0 = 0 → WS B E y cc mL rt d (pc + 3) lv st S Q) : WS B E y cc mL rt d pc lv (.int x0 :: st) S Q := by
  intro p l e R s m args below meth c C H locs cells slots ls QQ hP hS hl hc fin
  exact lv_if_ne C.1 C.2.1 hd ht (fun h => kt h p l e R s m args below meth c C H locs cells slots ls QQ hP hS hl hc fin) (fun h => kf h p l e R s m args below meth c C H locs cells slots ls QQ hP hS hl hc fin)
theorem x_icmp_ne {x0 y0 : Int32} {off : Int} {tgt : Nat} (hd : decode cc pc = .ok (.if_icmp .ne off, 3)) (ht : (pc : Int) + off = (tgt : Int)) (kt : ¬ x0 = y0 → WS B E y cc mL rt d tgt lv st S Q) (kf : x0 = y0 → WS B E y cc mL rt d (pc + 3) lv st S Q) : WS B E y cc mL rt d pc lv (.int y0 :: .int x0 :: st) S Q := by
  intro p l e R s m args below meth c C H locs cells slots ls QQ hP hS hl hc fin
  exact lv_icmp_ne C.1 C.2.1 hd ht (fun h => kt h p l e R s m args below meth c C H locs cells slots ls QQ hP hS hl hc fin) (fun h => kf h p l e R s m args below meth c C H locs cells slots ls QQ hP hS hl hc fin)
theorem x_if_lt {x0 : Int32} {off : Int} {tgt : Nat} (hd : decode cc pc = .ok (.ifCond .lt off, 3)) (ht : (pc : Int) + off = (tgt : Int)) (kt : x0 < 0 → WS B E y cc mL rt d tgt lv st S Q) (kf : ¬ x0 < 0 → WS B E y cc mL rt d (pc + 3) lv st S Q) : WS B E y cc mL rt d pc lv (.int x0 :: st) S Q := by
  intro p l e R s m args below meth c C H locs cells slots ls QQ hP hS hl hc fin
  exact lv_if_lt C.1 C.2.1 hd ht (fun h => kt h p l e R s m args below meth c C H locs cells slots ls QQ hP hS hl hc fin) (fun h => kf h p l e R s m args below meth c C H locs cells slots ls QQ hP hS hl hc fin)
theorem x_icmp_lt {x0 y0 : Int32} {off : Int} {tgt : Nat} (hd : decode cc pc = .ok (.if_icmp .lt off, 3)) (ht : (pc : Int) + off = (tgt : Int)) (kt : x0 < y0 → WS B E y cc mL rt d tgt lv st S Q) (kf : ¬ x0 < y0 → WS B E y cc mL rt d (pc + 3) lv st S Q) : WS B E y cc mL rt d pc lv (.int y0 :: .int x0 :: st) S Q := by
  intro p l e R s m args below meth c C H locs cells slots ls QQ hP hS hl hc fin
  exact lv_icmp_lt C.1 C.2.1 hd ht (fun h => kt h p l e R s m args below meth c C H locs cells slots ls QQ hP hS hl hc fin) (fun h => kf h p l e R s m args below meth c C H locs cells slots ls QQ hP hS hl hc fin)
theorem x_if_ge {x0 : Int32} {off : Int} {tgt : Nat} (hd : decode cc pc = .ok (.ifCond .ge off, 3)) (ht : (pc : Int) + off = (tgt : Int)) (kt : 0 ≤ x0 → WS B E y cc mL rt d tgt lv st S Q) (kf : ¬ 0 ≤ x0 → WS B E y cc mL rt d (pc + 3) lv st S Q) : WS B E y cc mL rt d pc lv (.int x0 :: st) S Q := by
  intro p l e R s m args below meth c C H locs cells slots ls QQ hP hS hl hc fin
  exact lv_if_ge C.1 C.2.1 hd ht (fun h => kt h p l e R s m args below meth c C H locs cells slots ls QQ hP hS hl hc fin) (fun h => kf h p l e R s m args below meth c C H locs cells slots ls QQ hP hS hl hc fin)
theorem x_icmp_ge {x0 y0 : Int32} {off : Int} {tgt : Nat} (hd : decode cc pc = .ok (.if_icmp .ge off, 3)) (ht : (pc : Int) + off = (tgt : Int)) (kt : y0 ≤ x0 → WS B E y cc mL rt d tgt lv st S Q) (kf : ¬ y0 ≤ x0 → WS B E y cc mL rt d (pc + 3) lv st S Q) : WS B E y cc mL rt d pc lv (.int y0 :: .int x0 :: st) S Q := by
  intro p l e R s m args below meth c C H locs cells slots ls QQ hP hS hl hc fin
  exact lv_icmp_ge C.1 C.2.1 hd ht (fun h => kt h p l e R s m args below meth c C H locs cells slots ls QQ hP hS hl hc fin) (fun h => kf h p l e R s m args below meth c C H locs cells slots ls QQ hP hS hl hc fin)
theorem x_if_gt {x0 : Int32} {off : Int} {tgt : Nat} (hd : decode cc pc = .ok (.ifCond .gt off, 3)) (ht : (pc : Int) + off = (tgt : Int)) (kt : 0 < x0 → WS B E y cc mL rt d tgt lv st S Q) (kf : ¬ 0 < x0 → WS B E y cc mL rt d (pc + 3) lv st S Q) : WS B E y cc mL rt d pc lv (.int x0 :: st) S Q := by
  intro p l e R s m args below meth c C H locs cells slots ls QQ hP hS hl hc fin
  exact lv_if_gt C.1 C.2.1 hd ht (fun h => kt h p l e R s m args below meth c C H locs cells slots ls QQ hP hS hl hc fin) (fun h => kf h p l e R s m args below meth c C H locs cells slots ls QQ hP hS hl hc fin)
theorem x_icmp_gt {x0 y0 : Int32} {off : Int} {tgt : Nat} (hd : decode cc pc = .ok (.if_icmp .gt off, 3)) (ht : (pc : Int) + off = (tgt : Int)) (kt : y0 < x0 → WS B E y cc mL rt d tgt lv st S Q) (kf : ¬ y0 < x0 → WS B E y cc mL rt d (pc + 3) lv st S Q) : WS B E y cc mL rt d pc lv (.int y0 :: .int x0 :: st) S Q := by
  intro p l e R s m args below meth c C H locs cells slots ls QQ hP hS hl hc fin
  exact lv_icmp_gt C.1 C.2.1 hd ht (fun h => kt h p l e R s m args below meth c C H locs cells slots ls QQ hP hS hl hc fin) (fun h => kf h p l e R s m args below meth c C H locs cells slots ls QQ hP hS hl hc fin)
theorem x_if_le {x0 : Int32} {off : Int} {tgt : Nat} (hd : decode cc pc = .ok (.ifCond .le off, 3)) (ht : (pc : Int) + off = (tgt : Int)) (kt : x0 ≤ 0 → WS B E y cc mL rt d tgt lv st S Q) (kf : ¬ x0 ≤ 0 → WS B E y cc mL rt d (pc + 3) lv st S Q) : WS B E y cc mL rt d pc lv (.int x0 :: st) S Q := by
  intro p l e R s m args below meth c C H locs cells slots ls QQ hP hS hl hc fin
  exact lv_if_le C.1 C.2.1 hd ht (fun h => kt h p l e R s m args below meth c C H locs cells slots ls QQ hP hS hl hc fin) (fun h => kf h p l e R s m args below meth c C H locs cells slots ls QQ hP hS hl hc fin)
theorem x_icmp_le {x0 y0 : Int32} {off : Int} {tgt : Nat} (hd : decode cc pc = .ok (.if_icmp .le off, 3)) (ht : (pc : Int) + off = (tgt : Int)) (kt : x0 ≤ y0 → WS B E y cc mL rt d tgt lv st S Q) (kf : ¬ x0 ≤ y0 → WS B E y cc mL rt d (pc + 3) lv st S Q) : WS B E y cc mL rt d pc lv (.int y0 :: .int x0 :: st) S Q := by
  intro p l e R s m args below meth c C H locs cells slots ls QQ hP hS hl hc fin
  exact lv_icmp_le C.1 C.2.1 hd ht (fun h => kt h p l e R s m args below meth c C H locs cells slots ls QQ hP hS hl hc fin) (fun h => kf h p l e R s m args below meth c C H locs cells slots ls QQ hP hS hl hc fin)
theorem x_goto {off : Int} {tgt : Nat} (hd : decode cc pc = .ok (.goto off, 3)) (ht : (pc : Int) + off = (tgt : Int)) (k : WS B E y cc mL rt d tgt lv st S Q) : WS B E y cc mL rt d pc lv st S Q := by
  intro p l e R s m args below meth c C H locs cells slots ls QQ hP hS hl hc fin
  exact lv_goto C.1 C.2.1 hd ht (k p l e R s m args below meth c C H locs cells slots ls QQ hP hS hl hc fin)
theorem x_tableOut {dflt lo hi : Int} {offs : Array Int} {len : Nat} {x0 : Int32} {tgt : Nat} (hd : decode cc pc = .ok (.tableswitch dflt lo hi offs, len)) (h : x0.toInt < lo ∨ hi < x0.toInt) (ht : (pc : Int) + dflt = (tgt : Int)) (k : WS B E y cc mL rt d tgt lv st S Q) : WS B E y cc mL rt d pc lv (.int x0 :: st) S Q := by
  intro p l e R s m args below meth c C H locs cells slots ls QQ hP hS hl hc fin
  exact lv_tableOut C.1 C.2.1 hd h ht (k p l e R s m args below meth c C H locs cells slots ls QQ hP hS hl hc fin)
theorem x_tableIn {dflt lo hi : Int} {offs : Array Int} {len : Nat} {x0 : Int32} {off : Int} {tgt : Nat} (hd : decode cc pc = .ok (.tableswitch dflt lo hi offs, len)) (h1 : ¬ x0.toInt < lo) (h2 : ¬ hi < x0.toInt) (ho : offs[(x0.toInt - lo).toNat]? = some off) (ht : (pc : Int) + off = (tgt : Int)) (k : WS B E y cc mL rt d tgt lv st S Q) : WS B E y cc mL rt d pc lv (.int x0 :: st) S Q := by
  intro p l e R s m args below meth c C H locs cells slots ls QQ hP hS hl hc fin
  exact lv_tableIn C.1 C.2.1 hd h1 h2 ho ht (k p l e R s m args below meth c C H locs cells slots ls QQ hP hS hl hc fin)
theorem x_lookup {dflt : Int} {ps : Array (Int × Int)} {len : Nat} {x0 : Int32} {off : Int} {tgt : Nat} (hd : decode cc pc = .ok (.lookupswitch dflt ps, len)) (hp : (ps.toList.zip (ps.toList.drop 1)).all (fun (a, next) => a.1 < next.1) = true) (ho : Op.lookupswitch.offset ps.toList dflt x0.toInt = off) (ht : (pc : Int) + off = (tgt : Int)) (k : WS B E y cc mL rt d tgt lv st S Q) : WS B E y cc mL rt d pc lv (.int x0 :: st) S Q := by
  intro p l e R s m args below meth c C H locs cells slots ls QQ hP hS hl hc fin
  exact lv_lookup C.1 C.2.1 hd hp ho ht (k p l e R s m args below meth c C H locs cells slots ls QQ hP hS hl hc fin)
theorem x_ldc2 {i : Nat} {v : Int64} (hd : decode cc pc = .ok (.ldc2_w i, 3)) (hw : Jvm.Cond.constantLong y.cls i v ∈ sT) (k : WS B E y cc mL rt d (pc + 3) lv (.long v :: st) S Q) : WS B E y cc mL rt d pc lv st S Q := by
  intro p l e R s m args below meth c C H locs cells slots ls QQ hP hS hl hc fin
  exact lv_ldc2 C.1 C.2.1 C.2.2.2.2.2.1 (C.2.2.2.2.2.2.1 _ hw) hd (k p l e R s m args below meth c C H locs cells slots ls QQ hP hS hl hc fin)
theorem x_wk {lv' : List (Nat × Value)} (ks : List Nat) (hp : lv_pick lv ks = lv') (k : WS B E y cc mL rt d pc lv' st S Q) : WS B E y cc mL rt d pc lv st S Q := by
  intro p l e R s m args below meth c C H locs cells slots ls QQ hP hS hl hc fin
  exact k p l e R s m args below meth c C H locs cells slots ls QQ hP hS (lv_sub hl ks hp) hc fin
theorem x_post {Q' : Option Value → sSt → Prop} (hq : ∀ v S', Q v S' → Q' v S') (k : WS B E y cc mL rt d pc lv st S Q) : WS B E y cc mL rt d pc lv st S Q' := by
  intro p l e R s m args below meth c C H locs cells slots ls QQ hP hS hl hc fin
  exact k p l e R s m args below meth c C H locs cells slots ls QQ hP hS hl hc (fun v S' H' locs' pc' ls' hq' => fin v S' H' locs' pc' ls' (hq v S' hq'))
theorem x_top {x0 : Int32} (k : ∀ z : Int32, z = x0 → WS B E y cc mL rt d pc lv (.int z :: st) S Q) : WS B E y cc mL rt d pc lv (.int x0 :: st) S Q := k x0 rfl
theorem x_ireturn {x0 : Int32} {ty : FieldType} (hd : decode cc pc = .ok (.ireturn, 1)) (hr : rt = some ty) (hn : narrow ty (.int x0) = .int x0) (hq : Q (some (.int x0)) S) : WS B E y cc mL rt d pc lv [.int x0] S Q := by
  intro p l e R s m args below meth c C H locs cells slots ls QQ hP hS hl hc fin
  exact fin (some (.int x0)) S H locs pc ls hq hP hS (Or.inr ⟨x0, ty, rfl, hr, hn, hd⟩)
theorem x_return (hd : decode cc pc = .ok (.return_, 1)) (hr : rt = none) (hq : Q none S) : WS B E y cc mL rt d pc lv [] S Q := by
  intro p l e R s m args below meth c C H locs cells slots ls QQ hP hS hl hc fin
  exact fin none S H locs pc ls hq hP hS (Or.inl ⟨rfl, hr, hd⟩)
theorem x_iald {a n : Nat} {i : Int32} (hsh : B.2.1[a]? = some (.inl (0, n))) (hd : decode cc pc = .ok (.iaload, 1)) (hi : vp_in i n) (k : WS B E y cc mL rt d (pc + 1) lv (.int (S a i.toNatClampNeg) :: st) S Q) : WS B E y cc mL rt d pc lv (.int i :: .ref (s_ad B a) :: st) S Q := by
  intro p l e R s m args below meth c C H locs cells slots ls QQ hP hS hl hc fin
  exact va_iald C.1 C.2.1 C.2.2.2.2.2.2.2.2.2.1.1 hP a 0 (s_w_get hsh) rfl hi hd (k p l e R s m args below meth c C H locs cells slots ls QQ hP hS hl hc fin)
theorem x_cald {a n : Nat} {i : Int32} (hsh : B.2.1[a]? = some (.inl (1, n))) (hd : decode cc pc = .ok (.caload, 1)) (hi : vp_in i n) (k : WS B E y cc mL rt d (pc + 1) lv (.int (S a i.toNatClampNeg) :: st) S Q) : WS B E y cc mL rt d pc lv (.int i :: .ref (s_ad B a) :: st) S Q := by
  intro p l e R s m args below meth c C H locs cells slots ls QQ hP hS hl hc fin
  exact va_cald C.1 C.2.1 C.2.2.2.2.2.2.2.2.2.1.1 hP a 1 (s_w_get hsh) rfl hi hd (k p l e R s m args below meth c C H locs cells slots ls QQ hP hS hl hc fin)
theorem x_bald {a n : Nat} {i : Int32} (hsh : B.2.1[a]? = some (.inl (2, n))) (hd : decode cc pc = .ok (.baload, 1)) (hi : vp_in i n) (k : WS B E y cc mL rt d (pc + 1) lv (.int (S a i.toNatClampNeg) :: st) S Q) : WS B E y cc mL rt d pc lv (.int i :: .ref (s_ad B a) :: st) S Q := by
  intro p l e R s m args below meth c C H locs cells slots ls QQ hP hS hl hc fin
  exact va_bald C.1 C.2.1 C.2.2.2.2.2.2.2.2.2.1.1 hP a 2 (s_w_get hsh) rfl hi hd (k p l e R s m args below meth c C H locs cells slots ls QQ hP hS hl hc fin)
theorem x_iast {a n : Nat} {i x0 : Int32} (hsh : B.2.1[a]? = some (.inl (0, n))) (hd : decode cc pc = .ok (.iastore, 1)) (hi : vp_in i n) (k : WS B E y cc mL rt d (pc + 1) lv st (s_put S a i.toNatClampNeg x0) Q) : WS B E y cc mL rt d pc lv (.int x0 :: .int i :: .ref (s_ad B a) :: st) S Q := by
  intro p l e R s m args below meth c C H locs cells slots ls QQ hP hS hl hc fin
  refine va_iast C.1 C.2.1 C.2.2.2.2.2.2.2.2.2.1.1 hP (s_w_D C.2.2.2.2.2.2.2.2.2.2.1 S) hS a 0 (s_w_get hsh) rfl hi hd (fun H locs hP hD hS => ?_)
  refine k p l e R s m args below meth c C H locs cells slots ls QQ ?_ hS hl hc fin
  rw [← s_w_set hsh (s_put_o S a i.toNatClampNeg x0), s_put_k]
  exact hP
theorem x_castr {a n : Nat} {i x0 : Int32} (hsh : B.2.1[a]? = some (.inl (1, n))) (hd : decode cc pc = .ok (.castore, 1)) (hi : vp_in i n) (k : WS B E y cc mL rt d (pc + 1) lv st (s_put S a i.toNatClampNeg (vp_nar .char x0)) Q) : WS B E y cc mL rt d pc lv (.int x0 :: .int i :: .ref (s_ad B a) :: st) S Q := by
  intro p l e R s m args below meth c C H locs cells slots ls QQ hP hS hl hc fin
  refine va_cast C.1 C.2.1 C.2.2.2.2.2.2.2.2.2.1.1 hP (s_w_D C.2.2.2.2.2.2.2.2.2.2.1 S) hS a 1 (s_w_get hsh) rfl hi hd (fun H locs hP hD hS => ?_)
  refine k p l e R s m args below meth c C H locs cells slots ls QQ ?_ hS hl hc fin
  rw [← s_w_set hsh (s_put_o S a i.toNatClampNeg (vp_nar .char x0)), s_put_k]
  exact hP
theorem x_bast {a n : Nat} {i x0 : Int32} (hsh : B.2.1[a]? = some (.inl (2, n))) (hd : decode cc pc = .ok (.bastore, 1)) (hi : vp_in i n) (k : WS B E y cc mL rt d (pc + 1) lv st (s_put S a i.toNatClampNeg (vp_nar .byte x0)) Q) : WS B E y cc mL rt d pc lv (.int x0 :: .int i :: .ref (s_ad B a) :: st) S Q := by
  intro p l e R s m args below meth c C H locs cells slots ls QQ hP hS hl hc fin
  refine va_bast C.1 C.2.1 C.2.2.2.2.2.2.2.2.2.1.1 hP (s_w_D C.2.2.2.2.2.2.2.2.2.2.1 S) hS a 2 (s_w_get hsh) rfl hi hd (fun H locs hP hD hS => ?_)
  refine k p l e R s m args below meth c C H locs cells slots ls QQ ?_ hS hl hc fin
  rw [← s_w_set hsh (s_put_o S a i.toNatClampNeg (vp_nar .byte x0)), s_put_k]
  exact hP
theorem x_aald {a r : Nat} {rs : List Nat} {i : Int32} (hsh : B.2.1[a]? = some (.inr (.inr rs))) (hd : decode cc pc = .ok (.aaload, 1)) (hi : vp_in i rs.length) (hr : rs[i.toNatClampNeg]? = some r) (k : WS B E y cc mL rt d (pc + 1) lv (.ref (s_ad B r) :: st) S Q) : WS B E y cc mL rt d pc lv (.int i :: .ref (s_ad B a) :: st) S Q := by
  intro p l e R s m args below meth c C H locs cells slots ls QQ hP hS hl hc fin
  refine va_aldq C.1 C.2.1 C.2.2.2.2.2.2.2.2.2.1.1 hP a 3 (s_w_get hsh) rfl hi hd ?_
  simp only [hr, Option.map_some, va_rf]
  exact k p l e R s m args below meth c C H locs cells slots ls QQ hP hS hl hc fin
theorem x_getI {a ci N j i : Nat} {C0 : String} {T : u_T} {fl : List (Option Nat)} (hsh : B.2.1[a]? = some (.inr (.inl (ci, fl)))) (hc0 : vwCl[ci]? = some (C0, T, N)) (hin : ∀ w ∈ u_ws C0 T N, w ∈ sT) (hj : j < N) (hw : Cond.fieldLink y.cls i (T j).1 (T j).2.1 (T j).2.2.1 ∈ sT) (hf : fl[j]? = some none) (hd : decode cc pc = .ok (.getfield i, 3)) (k : WS B E y cc mL rt d (pc + 3) lv (.int (S a j) :: st) S Q) : WS B E y cc mL rt d pc lv (.ref (s_ad B a) :: st) S Q := by
  intro p l e R s m args below meth c C H locs cells slots ls QQ hP hS hl hc fin
  exact va_get (v := .int (S a j)) C.1 C.2.1 C.2.2.2.2.2.2.1 hin C.2.2.2.2.2.1 C.2.2.2.2.2.2.2.2.2.1.1 hP a (s_w_get hsh) hc0 j hj (C.2.2.2.2.2.2.1 _ hw) (fun _ h => h) (by rw [s_fv_get, hf]; simp) hd (k p l e R s m args below meth c C H locs cells slots ls QQ hP hS hl hc fin)
theorem x_getR {a ci N j i r : Nat} {C0 : String} {T : u_T} {fl : List (Option Nat)} (hsh : B.2.1[a]? = some (.inr (.inl (ci, fl)))) (hc0 : vwCl[ci]? = some (C0, T, N)) (hin : ∀ w ∈ u_ws C0 T N, w ∈ sT) (hj : j < N) (hw : Cond.fieldLink y.cls i (T j).1 (T j).2.1 (T j).2.2.1 ∈ sT) (hf : fl[j]? = some (some r)) (hd : decode cc pc = .ok (.getfield i, 3)) (k : WS B E y cc mL rt d (pc + 3) lv (.ref (s_ad B r) :: st) S Q) : WS B E y cc mL rt d pc lv (.ref (s_ad B a) :: st) S Q := by
  intro p l e R s m args below meth c C H locs cells slots ls QQ hP hS hl hc fin
  exact va_get (v := .ref (s_ad B r)) C.1 C.2.1 C.2.2.2.2.2.2.1 hin C.2.2.2.2.2.1 C.2.2.2.2.2.2.2.2.2.1.1 hP a (s_w_get hsh) hc0 j hj (C.2.2.2.2.2.2.1 _ hw) (fun _ h => h) (by rw [s_fv_get, hf]; simp) hd (k p l e R s m args below meth c C H locs cells slots ls QQ hP hS hl hc fin)
theorem x_getN {a ci N j i r : Nat} {C0 host : String} {T : u_T} {fl : List (Option Nat)} (hsh : B.2.1[a]? = some (.inr (.inl (ci, fl)))) (hc0 : vwCl[ci]? = some (C0, T, N)) (hin : ∀ w ∈ u_ws C0 T N, w ∈ sT) (hj : j < N) (hw : Cond.fieldLinkNest y.cls i (T j).1 (T j).2.1 (T j).2.2.1 host ∈ sNw) (hf : fl[j]? = some (some r)) (hd : decode cc pc = .ok (.getfield i, 3)) (k : WS B E y cc mL rt d (pc + 3) lv (.ref (s_ad B r) :: st) S Q) : WS B E y cc mL rt d pc lv (.ref (s_ad B a) :: st) S Q := by
  intro p l e R s m args below meth c C H locs cells slots ls QQ hP hS hl hc fin
  exact va_getN (v := .ref (s_ad B r)) C.1 C.2.1 C.2.2.2.2.2.2.1 hin C.2.2.2.2.2.1 C.2.2.2.2.2.2.2.2.2.1.1 hP a (s_w_get hsh) hc0 j hj (va_Nw.use rfl (C.2.2.2.2.2.2.2.2.2.1.2 _ hw)) (fun _ h => h) (by rw [s_fv_get, hf]; simp) hd (k p l e R s m args below meth c C H locs cells slots ls QQ hP hS hl hc fin)
theorem x_putI {a ci N j i : Nat} {C0 : String} {T : u_T} {fl : List (Option Nat)} {ty0 : Nat → FieldType} {ty : FieldType} {x0 : Int32} (hsh : B.2.1[a]? = some (.inr (.inl (ci, fl)))) (hc0 : vwCl[ci]? = some (C0, T, N)) (hin : ∀ w ∈ u_ws C0 T N, w ∈ sT) (hty : ∀ k, k < N → parseFieldDescriptor (T k).2.2.1 = some (ty0 k)) (hnm : ∀ a, a < N → ∀ b, b < N → a ≠ b → (T a).2.1 ≠ (T b).2.1) (hj : j < N) (hw : Cond.fieldLink y.cls i (T j).1 (T j).2.1 (T j).2.2.1 ∈ sT) (hfin : (T j).2.2.2 = false) (hpt : parseFieldDescriptor (T j).2.2.1 = some ty) (hf : fl[j]? = some none) (hn : narrow ty (.int x0) = .int x0) (hfit : fits ty (.int x0) = true) (hd : decode cc pc = .ok (.putfield i, 3)) (k : WS B E y cc mL rt d (pc + 3) lv st (s_put S a j x0) Q) : WS B E y cc mL rt d pc lv (.int x0 :: .ref (s_ad B a) :: st) S Q := by
  intro p l e R s m args below meth c C H locs cells slots ls QQ hP hS hl hc fin
  refine va_put C.1 C.2.1 C.2.2.2.2.2.2.1 hin ty0 hty hnm C.2.2.2.2.2.1 C.2.2.2.2.2.2.2.2.2.1.1 hP (s_w_D C.2.2.2.2.2.2.2.2.2.2.1 S) hS a (s_w_get hsh) hc0 j hj (C.2.2.2.2.2.2.1 _ hw) (fun _ h => h) hfin hpt hn hfit (by rw [s_fv_len]; exact (List.getElem?_eq_some_iff.mp hf).1) hd (fun H locs hP hD hS => ?_)
  refine k p l e R s m args below meth c C H locs cells slots ls QQ ?_ hS hl hc fin
  rw [← s_w_set hsh (s_put_o S a j x0), s_put_k]
  rw [s_fv_set hf] at hP
  exact hP
theorem x_max {i : Nat} {x0 y0 : Int32} (hw : Cond.methodLink y.cls i Lib.Math.max.name ∈ sT) (hw2 : Cond.static Lib.Math.max.name ∈ sT ∧ Cond.initialized "java/lang/Math" ∈ sT ∧ Cond.code Lib.Math.max.name Lib.Math.max.code 2 (some .int) ∈ sT) (hd0 : 1 ≤ d) (hst : (st.map fun v => v.category).sum ≤ 8) (hd : decode cc pc = .ok (.invokestatic i, 3)) (k : WS B E y cc mL rt d (pc + 3) lv (.int (if x0 < y0 then y0 else x0) :: st) S Q) : WS B E y cc mL rt d pc lv (.int y0 :: .int x0 :: st) S Q := by
  intro p l e R s m args below meth c C H locs cells slots ls QQ hP hS hl hc fin
  exact va_mmax C.1 C.2.1 (by rw [C.2.2.1, hl.1]) C.2.2.2.2.2.1 (C.2.2.2.2.2.2.1 _ hw) (C.2.2.2.2.2.2.1 _ hw2.1) (C.2.2.2.2.2.2.1 _ hw2.2.1) (C.2.2.2.2.2.2.1 _ hw2.2.2) (Nat.le_trans hd0 C.2.2.2.2.2.2.2.1) (by have := C.2.2.2.2.2.2.2.2.1; omega) hc.1 hc.2 hd (k p l e R s m args below meth c C H locs cells slots ls QQ hP hS hl hc fin)
theorem x_min {i : Nat} {x0 y0 : Int32} (hw : Cond.methodLink y.cls i Lib.Math.min.name ∈ sT) (hw2 : Cond.static Lib.Math.min.name ∈ sT ∧ Cond.initialized "java/lang/Math" ∈ sT ∧ Cond.code Lib.Math.min.name Lib.Math.min.code 2 (some .int) ∈ sT) (hd0 : 1 ≤ d) (hst : (st.map fun v => v.category).sum ≤ 8) (hd : decode cc pc = .ok (.invokestatic i, 3)) (k : WS B E y cc mL rt d (pc + 3) lv (.int (if y0 < x0 then y0 else x0) :: st) S Q) : WS B E y cc mL rt d pc lv (.int y0 :: .int x0 :: st) S Q := by
  intro p l e R s m args below meth c C H locs cells slots ls QQ hP hS hl hc fin
  exact va_mmin C.1 C.2.1 (by rw [C.2.2.1, hl.1]) C.2.2.2.2.2.1 (C.2.2.2.2.2.2.1 _ hw) (C.2.2.2.2.2.2.1 _ hw2.1) (C.2.2.2.2.2.2.1 _ hw2.2.1) (C.2.2.2.2.2.2.1 _ hw2.2.2) (Nat.le_trans hd0 C.2.2.2.2.2.2.2.1) (by have := C.2.2.2.2.2.2.2.2.1; omega) hc.1 hc.2 hd (k p l e R s m args below meth c C H locs cells slots ls QQ hP hS hl hc fin)
/-- arraycopy of n ints from the row a0 to the row a, both from 0 on -/
theorem x_copy {a a0 n1 n0 i : Nat} {n : Int32} (hsh0 : B.2.1[a0]? = some (.inl (0, n0))) (hsh : B.2.1[a]? = some (.inl (0, n1))) (hw : Cond.methodLink y.cls i arraycopyName ∈ sT) (hw2 : Cond.native arraycopyName ∈ sT ∧ Cond.static arraycopyName ∈ sT ∧ Cond.initialized "java/lang/System" ∈ sT) (hn : ¬ n < 0) (h0 : n.toNatClampNeg ≤ n0) (h1 : n.toNatClampNeg ≤ n1) (hd0 : 1 ≤ d) (hst : st = []) (hd : decode cc pc = .ok (.invokestatic i, 3)) (k : WS B E y cc mL rt d (pc + 3) lv st (s_cp S a (va_cpy (S a0) (S a) 0 0 n.toNatClampNeg)) Q) : WS B E y cc mL rt d pc lv (.int n :: .int 0 :: .ref (s_ad B a) :: .int 0 :: .ref (s_ad B a0) :: st) S Q := by
  intro p l e R s m args below meth c C H locs cells slots ls QQ hP hS hl hc fin
  subst hst
  refine va_copyi C.1 C.2.1 (by rw [C.2.2.1, hl.1]) C.2.2.2.2.2.1 (C.2.2.2.2.2.2.1 _ hw) (C.2.2.2.2.2.2.1 _ hw2.1) (C.2.2.2.2.2.2.1 _ hw2.2.1) (C.2.2.2.2.2.2.1 _ hw2.2.2) C.2.2.2.2.2.2.2.2.2.1.1 hP (s_w_D C.2.2.2.2.2.2.2.2.2.2.1 S) hS a0 a 0 0 (s_w_get hsh0) (s_w_get hsh) rfl rfl rfl (by decide) (by decide) hn (by show 0 + _ ≤ _; omega) (by show 0 + _ ≤ _; omega) (fun _ _ => rfl) (Nat.le_trans hd0 C.2.2.2.2.2.2.2.1) ?_ hd (fun H locs hP hD hS => ?_)
  · refine Nat.le_trans ?_ (Nat.le_trans (Nat.mul_le_mul_left 100 hd0) C.2.2.2.2.2.2.2.2.1)
    decide +kernel
  · refine k p l e R s m args below meth c C H locs cells slots ls QQ ?_ hS hl hc fin
    rw [← s_w_set hsh (s_cp_o S a _), s_cp_k]
    exact hP
end XR
end
section
/-! CALLS over the static layer -/
theorem sT_good : ∀ w ∈ sT, goodWord w = true := fun w h => (List.mem_filter.mp h).2
def sM (y : MethodName) (cc : ByteArray) (mL : Nat) (rt : Option FieldType) (n : Nat) : Prop := Cond.code y cc mL rt ∈ sT ∧ Cond.initialized y.cls ∈ sT ∧ (y.cls ≠ "java/lang/invoke/MethodHandle" ∧ y.cls ≠ "java/lang/invoke/VarHandle" ∧ (parseMethodDescriptor y.desc).map (fun d => d.parameters.length) = some n) ∧ plainName y.cls = true ∧ mL ≤ 70
theorem sT_goodIn {w0 : Cond} (h : w0 ∈ sT) : GoodIn sT (w0 :: sT) := by
  intro w hw
  have hm : w ∈ sT := by
    rcases List.mem_cons.mp hw with rfl | h2
    · exact h
    · exact h2
  exact ⟨hm, good_of_word (sT_good w hm)⟩
theorem sKn_moved {B : sB} {s U : State} (hW : s.WarmedH U.vm) (h : sKn B s) : sKn B U := by
  refine ⟨va_K.moved hW.alike h.1, fun w hw => ?_⟩
  have h1 := h.2 w hw
  have h2 := (List.mem_filter.mp hw).2
  cases w <;> first | exact va_Nw.warmF hW h1 | exact va_Nw.warmM hW h1 | (simp at h2)
theorem sKn_same {B : sB} {s U : State} (hvm : s.vm = U.vm) (h : sKn B s) : sKn B U := by
  refine ⟨va_K.moved (by rw [hvm]; exact Vm.Alike.refl _) h.1, fun w hw => ?_⟩
  have h1 := h.2 w hw
  have h2 := (List.mem_filter.mp hw).2
  cases w <;> first | exact va_Nw.same rfl hvm h1 | (simp at h2)
def sQ (B : sB) (rt : Option FieldType) (Q : Option Value → sSt → Prop) : Array Value → State → Outcome → State → Prop := fun _ st oc t => (∃ (v : Option Value) (S' : sSt), oc = .returned v ∧ ((v = none ∧ rt = none) ∨ ∃ (x : Int32) (ty : FieldType), v = some (.int x) ∧ rt = some ty ∧ narrow ty (.int x) = .int x) ∧ Q v S' ∧ va_P B.1.1 vwCl (s_w B S') t.heap) ∧ va_F B.2.2 st t
def sPre (B : sB) (av : List Value) (S : sSt) : Array Value → State → Prop := va_Pc av (fun U => va_P B.1.1 vwCl (s_w B S) U.heap ∧ sKn B U)
abbrev sRm (d : Nat) : Room := { frames := d, cells := 0, slots := 0, locals := 100 * d }
theorem x_met {B : sB} {y : MethodName} {cc : ByteArray} {mL : Nat} {rt : Option FieldType} {d : Nat} {av : List Value} {S : sSt} {Q : Option Value → sSt → Prop} (l : Launch) (hap : sAp B) (hpl : plainName y.cls = true) (hln : (lg_sl av).length ≤ mL) (h : CS B y cc mL rt d av S Q) :
    Met l y (Cond.code y cc mL rt :: sT) (sRm d) (sPre B av S) (sQ B rt Q) 0 0 B.2.2 := by
  refine Met.ofW (cc := cc) (maxL := mL) (ret := rt) hpl rfl ?_
  intro p e s m args below meth c s₁ Bd hml hv
  obtain ⟨rfl, hP, hK⟩ := hv
  have hts := atoms_spec (ws := Cond.code y cc mL rt :: sT) Bd.pre
  have hown : s.vm.findClass y.cls = some m.cls := findClass_of_methodNamed Bd.named
  have hl := lv_entry av (n := mL) hln
  rw [lg_entry_eq]
  refine h p l e _ s m av.toArray below meth c ⟨Bd.exec, Bd.bytes, hml, Bd.returns, Bd.notSynchronized, hown, fun w hw => hts w (List.mem_cons_of_mem _ hw), Nat.le_refl _, Nat.le_refl _, hK, hap, trivial⟩ s.heap [] 0 0 _ _ hP va_S.rf hl ⟨Nat.zero_le _, Nat.zero_le _⟩ ?_
  intro v S' H' locs' pc' ls' hq hP' hS' hend
  have hlocks := Bd.notSynchronized
  rcases hend with ⟨rfl, hr, hdd⟩ | ⟨x, ty, rfl, hr, hn, hdd⟩
  · exact W.vret Bd.exec Bd.bytes (Bd.returns.trans hr) (fun t ht hW => ⟨⟨none, S', rfl, Or.inl ⟨rfl, hr⟩, hq, by rw [ht]; exact hP'⟩, hS'.F ht⟩) hS'.2.2 hdd
  · exact W.zret Bd.exec Bd.bytes (Bd.returns.trans hr) hn (fun t ht hW => ⟨⟨some (.int x), S', rfl, Or.inr ⟨x, ty, rfl, hr, hn⟩, hq, by rw [ht]; exact hP'⟩, hS'.F ht⟩) hS'.2.2 hdd
theorem sPre_blind {B : sB} {av : List Value} {S : sSt} : FrameBlind (sPre B av S) := by
  intro a U g mk h
  obtain ⟨h1, h2, h3⟩ := h
  exact ⟨h1, h2, sKn_same (s := U) (U := U.calling g mk a) rfl h3⟩
section XC
variable {B : sB} {E : State → Prop} {y y2 : MethodName} {cc cc2 : ByteArray} {mL mL2 : Nat} {rt rt2 : Option FieldType} {d d2 pc i n : Nat} {lv : List (Nat × Value)} {st stk : List Value} {S : sSt} {Q Q2 : Option Value → sSt → Prop} {av : List Value}
theorem x_run {p : Program} {l : Launch} {e : Env} {R : Room} {s : State} {m : MethodId} {args : Array Value} {below : List Frame} {meth : Method} {c : Code} {a : Array Value} {ls : Array Slot} {H : Heap} {locs : List Loc} {cells slots : Nat} {QQ : State → Prop}
    (C : sCtx B E y cc mL rt d p R s m args meth c) (hS : va_S B.2.2 s.heap H locs) (hl : lv_has ls mL lv) (hc : cells ≤ R.cells ∧ slots ≤ R.slots)
    (hr : va_Run p l e R s m args below meth c H locs cells slots 0 0 (F0 m pc ls stk) st (sQ B rt2 Q2 a) B.2.2)
    (fin : ∀ (v : Option Value) (S' : sSt) (H' : Heap) (locs' : List Loc) (pc' : Nat) (ls' : Array Slot), Q v S' → va_P B.1.1 vwCl (s_w B S') H' → va_S B.2.2 s.heap H' locs' → sEnd cc rt pc' v → W p l e R s m args below meth c H' locs' cells slots QQ (F0 m pc' ls' v.toList))
    (k : ∀ (v : Option Value) (S' : sSt), ((v = none ∧ rt2 = none) ∨ ∃ (x : Int32) (ty : FieldType), v = some (.int x) ∧ rt2 = some ty ∧ narrow ty (.int x) = .int x) → Q2 v S' → WS B E y cc mL rt d (pc + 3) lv (v.toList ++ st) S' Q) :
    W p l e R s m args below meth c H locs cells slots QQ (F0 m pc ls stk) := by
  intro T hT X
  obtain ⟨v, st₀, t, T', L, h0, X', hL, e1, e2, ⟨⟨v', S', hv, hrt, hq, hP'⟩, hz, hk⟩, stp⟩ := hr T hT X
  cases hv
  rw [h0] at hz hk
  have hS' : va_S B.2.2 s.heap T'.heap (locs ++ L) := ⟨Nat.le_trans hS.1 (by rw [e1]; exact hz), fun q h1 h2 => by rw [e1, hk q (Nat.lt_of_lt_of_le h1 hS.1) h2]; exact hS.2.1 q h1 h2, fun q hq => by
      rcases List.mem_append.mp hq with h | h
      · exact hS.2.2 q h
      · exact hL q h⟩
  obtain ⟨t2, a1, b1⟩ := k v S' hrt hq p l e R s m args below meth c C T'.heap (locs ++ L) cells slots ls QQ (by rw [e1]; exact hP') hS' hl hc fin T' rfl X'
  exact ⟨t2, stp t2 a1, b1⟩
theorem x_callS (h2 : CS B y2 cc2 mL2 rt2 d2 av S Q2) (hm : sM y2 cc2 mL2 rt2 n) (hlen : av.length = n) (hln : (lg_sl av).length ≤ mL2) (hw : Cond.methodLink y.cls i y2 ∈ sT) (hw2 : Cond.static y2 ∈ sT) (hd2 : d2 < d) (hstk : stk = av.reverse ++ st) (hst : (st.map fun v => v.category).sum ≤ 8) (hd : decode cc pc = .ok (.invokestatic i, 3))
    (k : ∀ (v : Option Value) (S' : sSt), ((v = none ∧ rt2 = none) ∨ ∃ (x : Int32) (ty : FieldType), v = some (.int x) ∧ rt2 = some ty ∧ narrow ty (.int x) = .int x) → Q2 v S' → WS B E y cc mL rt d (pc + 3) lv (v.toList ++ st) S' Q) : WS B E y cc mL rt d pc lv stk S Q := by
  intro p l e R s m args below meth c C H locs cells slots ls QQ hP hS hl hc fin
  have hts := C.2.2.2.2.2.2.1
  refine x_run C hS hl hc (va_runS (As := av) (Ts := sT) (n := n) ⟨C.1, C.2.1, C.2.2.1, C.2.2.2.2.2.1, hts⟩ (x_met l C.2.2.2.2.2.2.2.2.2.2.1 hm.2.2.2.1 hln h2) ⟨callB_of n hts (sT_goodIn hm.1) rfl rfl rfl (hts _ hm.2.1) (hts _ hw) hm.2.2.1 ⟨by have := C.2.2.2.2.2.2.2.1; show d2 + 1 ≤ R.frames; omega, by have := C.2.2.2.2.2.2.2.2.1; have := hm.2.2.2.2; show 8 + (mL2 + 11) + 100 * d2 ≤ R.locals; omega⟩, hts _ hw2⟩ ⟨sPre_blind, fun U hU hW => ⟨rfl, by rw [hU]; exact hP, sKn_moved hW C.2.2.2.2.2.2.2.2.2.1⟩⟩ rfl hlen hl.1 hstk (lv_room hst) hd ⟨hc.1, hc.2⟩) fin k
theorem x_callSN {host : String} (h2 : CS B y2 cc2 mL2 rt2 d2 av S Q2) (hm : sM y2 cc2 mL2 rt2 n) (hlen : av.length = n) (hln : (lg_sl av).length ≤ mL2) (hw : Cond.methodLinkNest y.cls i y2 host ∈ sNw) (hw2 : Cond.static y2 ∈ sT) (hd2 : d2 < d) (hstk : stk = av.reverse ++ st) (hst : (st.map fun v => v.category).sum ≤ 8) (hd : decode cc pc = .ok (.invokestatic i, 3))
    (k : ∀ (v : Option Value) (S' : sSt), ((v = none ∧ rt2 = none) ∨ ∃ (x : Int32) (ty : FieldType), v = some (.int x) ∧ rt2 = some ty ∧ narrow ty (.int x) = .int x) → Q2 v S' → WS B E y cc mL rt d (pc + 3) lv (v.toList ++ st) S' Q) : WS B E y cc mL rt d pc lv stk S Q := by
  intro p l e R s m args below meth c C H locs cells slots ls QQ hP hS hl hc fin
  have hts := C.2.2.2.2.2.2.1
  refine x_run C hS hl hc (va_runSN (As := av) (Ts := sT) (n := n) ⟨C.1, C.2.1, C.2.2.1, C.2.2.2.2.2.1, hts⟩ (x_met l C.2.2.2.2.2.2.2.2.2.2.1 hm.2.2.2.1 hln h2) ⟨va_cnB n hts (sT_goodIn hm.1) rfl rfl rfl (C.2.2.2.2.2.2.2.2.2.1.2 _ hw) (hts _ hm.2.1) hm.2.2.1 ⟨by have := C.2.2.2.2.2.2.2.1; show d2 + 1 ≤ R.frames; omega, by have := C.2.2.2.2.2.2.2.2.1; have := hm.2.2.2.2; show 8 + (mL2 + 11) + 100 * d2 ≤ R.locals; omega⟩, hts _ hw2, trivial⟩ ⟨sPre_blind, fun U hU hW => ⟨rfl, by rw [hU]; exact hP, sKn_moved hW C.2.2.2.2.2.2.2.2.2.1⟩⟩ rfl hlen hl.1 hstk (lv_room hst) hd ⟨hc.1, hc.2⟩) fin k
theorem x_callV {o ci N : Nat} {T : u_T} {fl : List (Option Nat)} (hsh : B.2.1[o]? = some (.inr (.inl (ci, fl)))) (hci : vwCl[ci]? = some (y2.cls, T, N)) (h2 : CS B y2 cc2 mL2 rt2 d2 (.ref (s_ad B o) :: av) S Q2) (hm : sM y2 cc2 mL2 rt2 n) (hlen : av.length = n) (hln : (lg_sl (.ref (s_ad B o) :: av)).length ≤ mL2) (hw : Cond.methodLink y.cls i y2 ∈ sT) (hw2 : Cond.instanceMethod y2 ∈ sT ∧ Cond.selects y2.cls y2 y2 ∈ sT) (hd2 : d2 < d) (hstk : stk = av.reverse ++ .ref (s_ad B o) :: st) (hst : (st.map fun v => v.category).sum ≤ 8) (hd : decode cc pc = .ok (.invokevirtual i, 3))
    (k : ∀ (v : Option Value) (S' : sSt), ((v = none ∧ rt2 = none) ∨ ∃ (x : Int32) (ty : FieldType), v = some (.int x) ∧ rt2 = some ty ∧ narrow ty (.int x) = .int x) → Q2 v S' → WS B E y cc mL rt d (pc + 3) lv (v.toList ++ st) S' Q) : WS B E y cc mL rt d pc lv stk S Q := by
  intro p l e R s m args below meth c C H locs cells slots ls QQ hP hS hl hc fin
  have hts := C.2.2.2.2.2.2.1
  refine x_run C hS hl hc (va_runV (As := av) (Ts := sT) (n := n) (C := y2.cls) ⟨C.1, C.2.1, C.2.2.1, C.2.2.2.2.2.1, hts⟩ (x_met l C.2.2.2.2.2.2.2.2.2.2.1 hm.2.2.2.1 hln h2) ⟨callB_of n hts (sT_goodIn hm.1) rfl rfl rfl (hts _ hm.2.1) (hts _ hw) hm.2.2.1 ⟨by have := C.2.2.2.2.2.2.2.1; show d2 + 1 ≤ R.frames; omega, by have := C.2.2.2.2.2.2.2.2.1; have := hm.2.2.2.2; show 8 + (mL2 + 11) + 100 * d2 ≤ R.locals; omega⟩, hts _ hw2.1, hts _ hw2.2⟩ ⟨sPre_blind, va_recv C.2.2.2.2.2.2.2.2.2.1.1 hP hci (s_w_get hsh), fun U hU hW => ⟨rfl, by rw [hU]; exact hP, sKn_moved hW C.2.2.2.2.2.2.2.2.2.1⟩⟩ rfl hlen hl.1 hstk (lv_room hst) hd ⟨hc.1, hc.2⟩) fin k
theorem cs_mono {d3 : Nat} (h : d2 ≤ d3) (hc : CS B y2 cc2 mL2 rt2 d2 av S Q2) : CS B y2 cc2 mL2 rt2 d3 av S Q2 := by
  intro p l e R s m args below meth c C
  exact hc p l e R s m args below meth c ⟨C.1, C.2.1, C.2.2.1, C.2.2.2.1, C.2.2.2.2.1, C.2.2.2.2.2.1, C.2.2.2.2.2.2.1, by have := C.2.2.2.2.2.2.2.1; omega, by have := C.2.2.2.2.2.2.2.2.1; omega, C.2.2.2.2.2.2.2.2.2⟩
theorem cs_post (hq : ∀ v S', Q2 v S' → Q v S') (hc : CS B y2 cc2 mL2 rt2 d2 av S Q2) : CS B y2 cc2 mL2 rt2 d2 av S Q := x_post hq hc
theorem cs_intro (hlv : lv_args 0 av = lv) (h : WS B (fun _ => True) y2 cc2 mL2 rt2 d2 0 lv [] S Q2) : CS B y2 cc2 mL2 rt2 d2 av S Q2 := by
  unfold CS; rw [hlv]; exact h
theorem x_S1i {ty : FieldType} {a1 : Value} (h2 : CS B y2 cc2 mL2 (some ty) d2 [a1] S Q2) (hm : sM y2 cc2 mL2 (some ty) 1) (hln : (lg_sl [a1]).length ≤ mL2) (hw : Cond.methodLink y.cls i y2 ∈ sT) (hw2 : Cond.static y2 ∈ sT) (hd2 : d2 < d) (hst : (st.map fun v => v.category).sum ≤ 8) (hd : decode cc pc = .ok (.invokestatic i, 3))
    (k : ∀ (r : Int32) (S' : sSt), narrow ty (.int r) = .int r → Q2 (some (.int r)) S' → WS B E y cc mL rt d (pc + 3) lv (.int r :: st) S' Q) : WS B E y cc mL rt d pc lv (a1 :: st) S Q :=
  x_callS h2 hm rfl hln hw hw2 hd2 rfl hst hd (fun v S' hv hq => by
    rcases hv with ⟨-, h⟩ | ⟨x, ty2, rfl, h, hn⟩
    · cases h
    · cases h; exact k x S' hn hq)
theorem x_S1v {a1 : Value} (h2 : CS B y2 cc2 mL2 none d2 [a1] S Q2) (hm : sM y2 cc2 mL2 none 1) (hln : (lg_sl [a1]).length ≤ mL2) (hw : Cond.methodLink y.cls i y2 ∈ sT) (hw2 : Cond.static y2 ∈ sT) (hd2 : d2 < d) (hst : (st.map fun v => v.category).sum ≤ 8) (hd : decode cc pc = .ok (.invokestatic i, 3))
    (k : ∀ (S' : sSt), Q2 none S' → WS B E y cc mL rt d (pc + 3) lv st S' Q) : WS B E y cc mL rt d pc lv (a1 :: st) S Q :=
  x_callS h2 hm rfl hln hw hw2 hd2 rfl hst hd (fun v S' hv hq => by
    rcases hv with ⟨rfl, -⟩ | ⟨x, ty2, -, h, -⟩
    · exact k S' hq
    · cases h)
theorem x_S2i {ty : FieldType} {a1 a2 : Value} (h2 : CS B y2 cc2 mL2 (some ty) d2 [a1, a2] S Q2) (hm : sM y2 cc2 mL2 (some ty) 2) (hln : (lg_sl [a1, a2]).length ≤ mL2) (hw : Cond.methodLink y.cls i y2 ∈ sT) (hw2 : Cond.static y2 ∈ sT) (hd2 : d2 < d) (hst : (st.map fun v => v.category).sum ≤ 8) (hd : decode cc pc = .ok (.invokestatic i, 3))
    (k : ∀ (r : Int32) (S' : sSt), narrow ty (.int r) = .int r → Q2 (some (.int r)) S' → WS B E y cc mL rt d (pc + 3) lv (.int r :: st) S' Q) : WS B E y cc mL rt d pc lv (a2 :: a1 :: st) S Q :=
  x_callS h2 hm rfl hln hw hw2 hd2 rfl hst hd (fun v S' hv hq => by
    rcases hv with ⟨-, h⟩ | ⟨x, ty2, rfl, h, hn⟩
    · cases h
    · cases h; exact k x S' hn hq)
theorem x_S2v {a1 a2 : Value} (h2 : CS B y2 cc2 mL2 none d2 [a1, a2] S Q2) (hm : sM y2 cc2 mL2 none 2) (hln : (lg_sl [a1, a2]).length ≤ mL2) (hw : Cond.methodLink y.cls i y2 ∈ sT) (hw2 : Cond.static y2 ∈ sT) (hd2 : d2 < d) (hst : (st.map fun v => v.category).sum ≤ 8) (hd : decode cc pc = .ok (.invokestatic i, 3))
    (k : ∀ (S' : sSt), Q2 none S' → WS B E y cc mL rt d (pc + 3) lv st S' Q) : WS B E y cc mL rt d pc lv (a2 :: a1 :: st) S Q :=
  x_callS h2 hm rfl hln hw hw2 hd2 rfl hst hd (fun v S' hv hq => by
    rcases hv with ⟨rfl, -⟩ | ⟨x, ty2, -, h, -⟩
    · exact k S' hq
    · cases h)
theorem x_S3i {ty : FieldType} {a1 a2 a3 : Value} (h2 : CS B y2 cc2 mL2 (some ty) d2 [a1, a2, a3] S Q2) (hm : sM y2 cc2 mL2 (some ty) 3) (hln : (lg_sl [a1, a2, a3]).length ≤ mL2) (hw : Cond.methodLink y.cls i y2 ∈ sT) (hw2 : Cond.static y2 ∈ sT) (hd2 : d2 < d) (hst : (st.map fun v => v.category).sum ≤ 8) (hd : decode cc pc = .ok (.invokestatic i, 3))
    (k : ∀ (r : Int32) (S' : sSt), narrow ty (.int r) = .int r → Q2 (some (.int r)) S' → WS B E y cc mL rt d (pc + 3) lv (.int r :: st) S' Q) : WS B E y cc mL rt d pc lv (a3 :: a2 :: a1 :: st) S Q :=
  x_callS h2 hm rfl hln hw hw2 hd2 rfl hst hd (fun v S' hv hq => by
    rcases hv with ⟨-, h⟩ | ⟨x, ty2, rfl, h, hn⟩
    · cases h
    · cases h; exact k x S' hn hq)
theorem x_S3v {a1 a2 a3 : Value} (h2 : CS B y2 cc2 mL2 none d2 [a1, a2, a3] S Q2) (hm : sM y2 cc2 mL2 none 3) (hln : (lg_sl [a1, a2, a3]).length ≤ mL2) (hw : Cond.methodLink y.cls i y2 ∈ sT) (hw2 : Cond.static y2 ∈ sT) (hd2 : d2 < d) (hst : (st.map fun v => v.category).sum ≤ 8) (hd : decode cc pc = .ok (.invokestatic i, 3))
    (k : ∀ (S' : sSt), Q2 none S' → WS B E y cc mL rt d (pc + 3) lv st S' Q) : WS B E y cc mL rt d pc lv (a3 :: a2 :: a1 :: st) S Q :=
  x_callS h2 hm rfl hln hw hw2 hd2 rfl hst hd (fun v S' hv hq => by
    rcases hv with ⟨rfl, -⟩ | ⟨x, ty2, -, h, -⟩
    · exact k S' hq
    · cases h)
theorem x_S4i {ty : FieldType} {a1 a2 a3 a4 : Value} (h2 : CS B y2 cc2 mL2 (some ty) d2 [a1, a2, a3, a4] S Q2) (hm : sM y2 cc2 mL2 (some ty) 4) (hln : (lg_sl [a1, a2, a3, a4]).length ≤ mL2) (hw : Cond.methodLink y.cls i y2 ∈ sT) (hw2 : Cond.static y2 ∈ sT) (hd2 : d2 < d) (hst : (st.map fun v => v.category).sum ≤ 8) (hd : decode cc pc = .ok (.invokestatic i, 3))
    (k : ∀ (r : Int32) (S' : sSt), narrow ty (.int r) = .int r → Q2 (some (.int r)) S' → WS B E y cc mL rt d (pc + 3) lv (.int r :: st) S' Q) : WS B E y cc mL rt d pc lv (a4 :: a3 :: a2 :: a1 :: st) S Q :=
  x_callS h2 hm rfl hln hw hw2 hd2 rfl hst hd (fun v S' hv hq => by
    rcases hv with ⟨-, h⟩ | ⟨x, ty2, rfl, h, hn⟩
    · cases h
    · cases h; exact k x S' hn hq)
theorem x_S4v {a1 a2 a3 a4 : Value} (h2 : CS B y2 cc2 mL2 none d2 [a1, a2, a3, a4] S Q2) (hm : sM y2 cc2 mL2 none 4) (hln : (lg_sl [a1, a2, a3, a4]).length ≤ mL2) (hw : Cond.methodLink y.cls i y2 ∈ sT) (hw2 : Cond.static y2 ∈ sT) (hd2 : d2 < d) (hst : (st.map fun v => v.category).sum ≤ 8) (hd : decode cc pc = .ok (.invokestatic i, 3))
    (k : ∀ (S' : sSt), Q2 none S' → WS B E y cc mL rt d (pc + 3) lv st S' Q) : WS B E y cc mL rt d pc lv (a4 :: a3 :: a2 :: a1 :: st) S Q :=
  x_callS h2 hm rfl hln hw hw2 hd2 rfl hst hd (fun v S' hv hq => by
    rcases hv with ⟨rfl, -⟩ | ⟨x, ty2, -, h, -⟩
    · exact k S' hq
    · cases h)
theorem x_SN1i {host : String} {ty : FieldType} {a1 : Value} (h2 : CS B y2 cc2 mL2 (some ty) d2 [a1] S Q2) (hm : sM y2 cc2 mL2 (some ty) 1) (hln : (lg_sl [a1]).length ≤ mL2) (hw : Cond.methodLinkNest y.cls i y2 host ∈ sNw) (hw2 : Cond.static y2 ∈ sT) (hd2 : d2 < d) (hst : (st.map fun v => v.category).sum ≤ 8) (hd : decode cc pc = .ok (.invokestatic i, 3))
    (k : ∀ (r : Int32) (S' : sSt), narrow ty (.int r) = .int r → Q2 (some (.int r)) S' → WS B E y cc mL rt d (pc + 3) lv (.int r :: st) S' Q) : WS B E y cc mL rt d pc lv (a1 :: st) S Q :=
  x_callSN h2 hm rfl hln hw hw2 hd2 rfl hst hd (fun v S' hv hq => by
    rcases hv with ⟨-, h⟩ | ⟨x, ty2, rfl, h, hn⟩
    · cases h
    · cases h; exact k x S' hn hq)
theorem x_SN2i {host : String} {ty : FieldType} {a1 a2 : Value} (h2 : CS B y2 cc2 mL2 (some ty) d2 [a1, a2] S Q2) (hm : sM y2 cc2 mL2 (some ty) 2) (hln : (lg_sl [a1, a2]).length ≤ mL2) (hw : Cond.methodLinkNest y.cls i y2 host ∈ sNw) (hw2 : Cond.static y2 ∈ sT) (hd2 : d2 < d) (hst : (st.map fun v => v.category).sum ≤ 8) (hd : decode cc pc = .ok (.invokestatic i, 3))
    (k : ∀ (r : Int32) (S' : sSt), narrow ty (.int r) = .int r → Q2 (some (.int r)) S' → WS B E y cc mL rt d (pc + 3) lv (.int r :: st) S' Q) : WS B E y cc mL rt d pc lv (a2 :: a1 :: st) S Q :=
  x_callSN h2 hm rfl hln hw hw2 hd2 rfl hst hd (fun v S' hv hq => by
    rcases hv with ⟨-, h⟩ | ⟨x, ty2, rfl, h, hn⟩
    · cases h
    · cases h; exact k x S' hn hq)
theorem x_SN3i {host : String} {ty : FieldType} {a1 a2 a3 : Value} (h2 : CS B y2 cc2 mL2 (some ty) d2 [a1, a2, a3] S Q2) (hm : sM y2 cc2 mL2 (some ty) 3) (hln : (lg_sl [a1, a2, a3]).length ≤ mL2) (hw : Cond.methodLinkNest y.cls i y2 host ∈ sNw) (hw2 : Cond.static y2 ∈ sT) (hd2 : d2 < d) (hst : (st.map fun v => v.category).sum ≤ 8) (hd : decode cc pc = .ok (.invokestatic i, 3))
    (k : ∀ (r : Int32) (S' : sSt), narrow ty (.int r) = .int r → Q2 (some (.int r)) S' → WS B E y cc mL rt d (pc + 3) lv (.int r :: st) S' Q) : WS B E y cc mL rt d pc lv (a3 :: a2 :: a1 :: st) S Q :=
  x_callSN h2 hm rfl hln hw hw2 hd2 rfl hst hd (fun v S' hv hq => by
    rcases hv with ⟨-, h⟩ | ⟨x, ty2, rfl, h, hn⟩
    · cases h
    · cases h; exact k x S' hn hq)
theorem x_V0i {o ci N : Nat} {T : u_T} {fl : List (Option Nat)} {ty : FieldType}  (h2 : CS B y2 cc2 mL2 (some ty) d2 (.ref (s_ad B o) :: []) S Q2) (hsh : B.2.1[o]? = some (.inr (.inl (ci, fl)))) (hci : vwCl[ci]? = some (y2.cls, T, N)) (hm : sM y2 cc2 mL2 (some ty) 0) (hln : (lg_sl (.ref (s_ad B o) :: [])).length ≤ mL2) (hw : Cond.methodLink y.cls i y2 ∈ sT) (hw2 : Cond.instanceMethod y2 ∈ sT ∧ Cond.selects y2.cls y2 y2 ∈ sT) (hd2 : d2 < d) (hst : (st.map fun v => v.category).sum ≤ 8) (hd : decode cc pc = .ok (.invokevirtual i, 3))
    (k : ∀ (r : Int32) (S' : sSt), narrow ty (.int r) = .int r → Q2 (some (.int r)) S' → WS B E y cc mL rt d (pc + 3) lv (.int r :: st) S' Q) : WS B E y cc mL rt d pc lv (.ref (s_ad B o) :: st) S Q :=
  x_callV hsh hci h2 hm rfl hln hw hw2 hd2 rfl hst hd (fun v S' hv hq => by
    rcases hv with ⟨-, h⟩ | ⟨x, ty2, rfl, h, hn⟩
    · cases h
    · cases h; exact k x S' hn hq)
theorem x_V0v {o ci N : Nat} {T : u_T} {fl : List (Option Nat)}  (h2 : CS B y2 cc2 mL2 none d2 (.ref (s_ad B o) :: []) S Q2) (hsh : B.2.1[o]? = some (.inr (.inl (ci, fl)))) (hci : vwCl[ci]? = some (y2.cls, T, N)) (hm : sM y2 cc2 mL2 none 0) (hln : (lg_sl (.ref (s_ad B o) :: [])).length ≤ mL2) (hw : Cond.methodLink y.cls i y2 ∈ sT) (hw2 : Cond.instanceMethod y2 ∈ sT ∧ Cond.selects y2.cls y2 y2 ∈ sT) (hd2 : d2 < d) (hst : (st.map fun v => v.category).sum ≤ 8) (hd : decode cc pc = .ok (.invokevirtual i, 3))
    (k : ∀ (S' : sSt), Q2 none S' → WS B E y cc mL rt d (pc + 3) lv st S' Q) : WS B E y cc mL rt d pc lv (.ref (s_ad B o) :: st) S Q :=
  x_callV hsh hci h2 hm rfl hln hw hw2 hd2 rfl hst hd (fun v S' hv hq => by
    rcases hv with ⟨rfl, -⟩ | ⟨x, ty2, -, h, -⟩
    · exact k S' hq
    · cases h)
theorem x_V1i {o ci N : Nat} {T : u_T} {fl : List (Option Nat)} {ty : FieldType} {a1 : Value} (h2 : CS B y2 cc2 mL2 (some ty) d2 (.ref (s_ad B o) :: [a1]) S Q2) (hsh : B.2.1[o]? = some (.inr (.inl (ci, fl)))) (hci : vwCl[ci]? = some (y2.cls, T, N)) (hm : sM y2 cc2 mL2 (some ty) 1) (hln : (lg_sl (.ref (s_ad B o) :: [a1])).length ≤ mL2) (hw : Cond.methodLink y.cls i y2 ∈ sT) (hw2 : Cond.instanceMethod y2 ∈ sT ∧ Cond.selects y2.cls y2 y2 ∈ sT) (hd2 : d2 < d) (hst : (st.map fun v => v.category).sum ≤ 8) (hd : decode cc pc = .ok (.invokevirtual i, 3))
    (k : ∀ (r : Int32) (S' : sSt), narrow ty (.int r) = .int r → Q2 (some (.int r)) S' → WS B E y cc mL rt d (pc + 3) lv (.int r :: st) S' Q) : WS B E y cc mL rt d pc lv (a1 :: .ref (s_ad B o) :: st) S Q :=
  x_callV hsh hci h2 hm rfl hln hw hw2 hd2 rfl hst hd (fun v S' hv hq => by
    rcases hv with ⟨-, h⟩ | ⟨x, ty2, rfl, h, hn⟩
    · cases h
    · cases h; exact k x S' hn hq)
theorem x_V1v {o ci N : Nat} {T : u_T} {fl : List (Option Nat)} {a1 : Value} (h2 : CS B y2 cc2 mL2 none d2 (.ref (s_ad B o) :: [a1]) S Q2) (hsh : B.2.1[o]? = some (.inr (.inl (ci, fl)))) (hci : vwCl[ci]? = some (y2.cls, T, N)) (hm : sM y2 cc2 mL2 none 1) (hln : (lg_sl (.ref (s_ad B o) :: [a1])).length ≤ mL2) (hw : Cond.methodLink y.cls i y2 ∈ sT) (hw2 : Cond.instanceMethod y2 ∈ sT ∧ Cond.selects y2.cls y2 y2 ∈ sT) (hd2 : d2 < d) (hst : (st.map fun v => v.category).sum ≤ 8) (hd : decode cc pc = .ok (.invokevirtual i, 3))
    (k : ∀ (S' : sSt), Q2 none S' → WS B E y cc mL rt d (pc + 3) lv st S' Q) : WS B E y cc mL rt d pc lv (a1 :: .ref (s_ad B o) :: st) S Q :=
  x_callV hsh hci h2 hm rfl hln hw hw2 hd2 rfl hst hd (fun v S' hv hq => by
    rcases hv with ⟨rfl, -⟩ | ⟨x, ty2, -, h, -⟩
    · exact k S' hq
    · cases h)
theorem x_V2i {o ci N : Nat} {T : u_T} {fl : List (Option Nat)} {ty : FieldType} {a1 a2 : Value} (h2 : CS B y2 cc2 mL2 (some ty) d2 (.ref (s_ad B o) :: [a1, a2]) S Q2) (hsh : B.2.1[o]? = some (.inr (.inl (ci, fl)))) (hci : vwCl[ci]? = some (y2.cls, T, N)) (hm : sM y2 cc2 mL2 (some ty) 2) (hln : (lg_sl (.ref (s_ad B o) :: [a1, a2])).length ≤ mL2) (hw : Cond.methodLink y.cls i y2 ∈ sT) (hw2 : Cond.instanceMethod y2 ∈ sT ∧ Cond.selects y2.cls y2 y2 ∈ sT) (hd2 : d2 < d) (hst : (st.map fun v => v.category).sum ≤ 8) (hd : decode cc pc = .ok (.invokevirtual i, 3))
    (k : ∀ (r : Int32) (S' : sSt), narrow ty (.int r) = .int r → Q2 (some (.int r)) S' → WS B E y cc mL rt d (pc + 3) lv (.int r :: st) S' Q) : WS B E y cc mL rt d pc lv (a2 :: a1 :: .ref (s_ad B o) :: st) S Q :=
  x_callV hsh hci h2 hm rfl hln hw hw2 hd2 rfl hst hd (fun v S' hv hq => by
    rcases hv with ⟨-, h⟩ | ⟨x, ty2, rfl, h, hn⟩
    · cases h
    · cases h; exact k x S' hn hq)
theorem x_V2v {o ci N : Nat} {T : u_T} {fl : List (Option Nat)} {a1 a2 : Value} (h2 : CS B y2 cc2 mL2 none d2 (.ref (s_ad B o) :: [a1, a2]) S Q2) (hsh : B.2.1[o]? = some (.inr (.inl (ci, fl)))) (hci : vwCl[ci]? = some (y2.cls, T, N)) (hm : sM y2 cc2 mL2 none 2) (hln : (lg_sl (.ref (s_ad B o) :: [a1, a2])).length ≤ mL2) (hw : Cond.methodLink y.cls i y2 ∈ sT) (hw2 : Cond.instanceMethod y2 ∈ sT ∧ Cond.selects y2.cls y2 y2 ∈ sT) (hd2 : d2 < d) (hst : (st.map fun v => v.category).sum ≤ 8) (hd : decode cc pc = .ok (.invokevirtual i, 3))
    (k : ∀ (S' : sSt), Q2 none S' → WS B E y cc mL rt d (pc + 3) lv st S' Q) : WS B E y cc mL rt d pc lv (a2 :: a1 :: .ref (s_ad B o) :: st) S Q :=
  x_callV hsh hci h2 hm rfl hln hw hw2 hd2 rfl hst hd (fun v S' hv hq => by
    rcases hv with ⟨rfl, -⟩ | ⟨x, ty2, -, h, -⟩
    · exact k S' hq
    · cases h)
theorem x_V3i {o ci N : Nat} {T : u_T} {fl : List (Option Nat)} {ty : FieldType} {a1 a2 a3 : Value} (h2 : CS B y2 cc2 mL2 (some ty) d2 (.ref (s_ad B o) :: [a1, a2, a3]) S Q2) (hsh : B.2.1[o]? = some (.inr (.inl (ci, fl)))) (hci : vwCl[ci]? = some (y2.cls, T, N)) (hm : sM y2 cc2 mL2 (some ty) 3) (hln : (lg_sl (.ref (s_ad B o) :: [a1, a2, a3])).length ≤ mL2) (hw : Cond.methodLink y.cls i y2 ∈ sT) (hw2 : Cond.instanceMethod y2 ∈ sT ∧ Cond.selects y2.cls y2 y2 ∈ sT) (hd2 : d2 < d) (hst : (st.map fun v => v.category).sum ≤ 8) (hd : decode cc pc = .ok (.invokevirtual i, 3))
    (k : ∀ (r : Int32) (S' : sSt), narrow ty (.int r) = .int r → Q2 (some (.int r)) S' → WS B E y cc mL rt d (pc + 3) lv (.int r :: st) S' Q) : WS B E y cc mL rt d pc lv (a3 :: a2 :: a1 :: .ref (s_ad B o) :: st) S Q :=
  x_callV hsh hci h2 hm rfl hln hw hw2 hd2 rfl hst hd (fun v S' hv hq => by
    rcases hv with ⟨-, h⟩ | ⟨x, ty2, rfl, h, hn⟩
    · cases h
    · cases h; exact k x S' hn hq)
theorem x_V3v {o ci N : Nat} {T : u_T} {fl : List (Option Nat)} {a1 a2 a3 : Value} (h2 : CS B y2 cc2 mL2 none d2 (.ref (s_ad B o) :: [a1, a2, a3]) S Q2) (hsh : B.2.1[o]? = some (.inr (.inl (ci, fl)))) (hci : vwCl[ci]? = some (y2.cls, T, N)) (hm : sM y2 cc2 mL2 none 3) (hln : (lg_sl (.ref (s_ad B o) :: [a1, a2, a3])).length ≤ mL2) (hw : Cond.methodLink y.cls i y2 ∈ sT) (hw2 : Cond.instanceMethod y2 ∈ sT ∧ Cond.selects y2.cls y2 y2 ∈ sT) (hd2 : d2 < d) (hst : (st.map fun v => v.category).sum ≤ 8) (hd : decode cc pc = .ok (.invokevirtual i, 3))
    (k : ∀ (S' : sSt), Q2 none S' → WS B E y cc mL rt d (pc + 3) lv st S' Q) : WS B E y cc mL rt d pc lv (a3 :: a2 :: a1 :: .ref (s_ad B o) :: st) S Q :=
  x_callV hsh hci h2 hm rfl hln hw hw2 hd2 rfl hst hd (fun v S' hv hq => by
    rcases hv with ⟨rfl, -⟩ | ⟨x, ty2, -, h, -⟩
    · exact k S' hq
    · cases h)
theorem x_V4i {o ci N : Nat} {T : u_T} {fl : List (Option Nat)} {ty : FieldType} {a1 a2 a3 a4 : Value} (h2 : CS B y2 cc2 mL2 (some ty) d2 (.ref (s_ad B o) :: [a1, a2, a3, a4]) S Q2) (hsh : B.2.1[o]? = some (.inr (.inl (ci, fl)))) (hci : vwCl[ci]? = some (y2.cls, T, N)) (hm : sM y2 cc2 mL2 (some ty) 4) (hln : (lg_sl (.ref (s_ad B o) :: [a1, a2, a3, a4])).length ≤ mL2) (hw : Cond.methodLink y.cls i y2 ∈ sT) (hw2 : Cond.instanceMethod y2 ∈ sT ∧ Cond.selects y2.cls y2 y2 ∈ sT) (hd2 : d2 < d) (hst : (st.map fun v => v.category).sum ≤ 8) (hd : decode cc pc = .ok (.invokevirtual i, 3))
    (k : ∀ (r : Int32) (S' : sSt), narrow ty (.int r) = .int r → Q2 (some (.int r)) S' → WS B E y cc mL rt d (pc + 3) lv (.int r :: st) S' Q) : WS B E y cc mL rt d pc lv (a4 :: a3 :: a2 :: a1 :: .ref (s_ad B o) :: st) S Q :=
  x_callV hsh hci h2 hm rfl hln hw hw2 hd2 rfl hst hd (fun v S' hv hq => by
    rcases hv with ⟨-, h⟩ | ⟨x, ty2, rfl, h, hn⟩
    · cases h
    · cases h; exact k x S' hn hq)
theorem x_V4v {o ci N : Nat} {T : u_T} {fl : List (Option Nat)} {a1 a2 a3 a4 : Value} (h2 : CS B y2 cc2 mL2 none d2 (.ref (s_ad B o) :: [a1, a2, a3, a4]) S Q2) (hsh : B.2.1[o]? = some (.inr (.inl (ci, fl)))) (hci : vwCl[ci]? = some (y2.cls, T, N)) (hm : sM y2 cc2 mL2 none 4) (hln : (lg_sl (.ref (s_ad B o) :: [a1, a2, a3, a4])).length ≤ mL2) (hw : Cond.methodLink y.cls i y2 ∈ sT) (hw2 : Cond.instanceMethod y2 ∈ sT ∧ Cond.selects y2.cls y2 y2 ∈ sT) (hd2 : d2 < d) (hst : (st.map fun v => v.category).sum ≤ 8) (hd : decode cc pc = .ok (.invokevirtual i, 3))
    (k : ∀ (S' : sSt), Q2 none S' → WS B E y cc mL rt d (pc + 3) lv st S' Q) : WS B E y cc mL rt d pc lv (a4 :: a3 :: a2 :: a1 :: .ref (s_ad B o) :: st) S Q :=
  x_callV hsh hci h2 hm rfl hln hw hw2 hd2 rfl hst hd (fun v S' hv hq => by
    rcases hv with ⟨rfl, -⟩ | ⟨x, ty2, -, h, -⟩
    · exact k S' hq
    · cases h)
theorem x_V5i {o ci N : Nat} {T : u_T} {fl : List (Option Nat)} {ty : FieldType} {a1 a2 a3 a4 a5 : Value} (h2 : CS B y2 cc2 mL2 (some ty) d2 (.ref (s_ad B o) :: [a1, a2, a3, a4, a5]) S Q2) (hsh : B.2.1[o]? = some (.inr (.inl (ci, fl)))) (hci : vwCl[ci]? = some (y2.cls, T, N)) (hm : sM y2 cc2 mL2 (some ty) 5) (hln : (lg_sl (.ref (s_ad B o) :: [a1, a2, a3, a4, a5])).length ≤ mL2) (hw : Cond.methodLink y.cls i y2 ∈ sT) (hw2 : Cond.instanceMethod y2 ∈ sT ∧ Cond.selects y2.cls y2 y2 ∈ sT) (hd2 : d2 < d) (hst : (st.map fun v => v.category).sum ≤ 8) (hd : decode cc pc = .ok (.invokevirtual i, 3))
    (k : ∀ (r : Int32) (S' : sSt), narrow ty (.int r) = .int r → Q2 (some (.int r)) S' → WS B E y cc mL rt d (pc + 3) lv (.int r :: st) S' Q) : WS B E y cc mL rt d pc lv (a5 :: a4 :: a3 :: a2 :: a1 :: .ref (s_ad B o) :: st) S Q :=
  x_callV hsh hci h2 hm rfl hln hw hw2 hd2 rfl hst hd (fun v S' hv hq => by
    rcases hv with ⟨-, h⟩ | ⟨x, ty2, rfl, h, hn⟩
    · cases h
    · cases h; exact k x S' hn hq)
theorem x_V5v {o ci N : Nat} {T : u_T} {fl : List (Option Nat)} {a1 a2 a3 a4 a5 : Value} (h2 : CS B y2 cc2 mL2 none d2 (.ref (s_ad B o) :: [a1, a2, a3, a4, a5]) S Q2) (hsh : B.2.1[o]? = some (.inr (.inl (ci, fl)))) (hci : vwCl[ci]? = some (y2.cls, T, N)) (hm : sM y2 cc2 mL2 none 5) (hln : (lg_sl (.ref (s_ad B o) :: [a1, a2, a3, a4, a5])).length ≤ mL2) (hw : Cond.methodLink y.cls i y2 ∈ sT) (hw2 : Cond.instanceMethod y2 ∈ sT ∧ Cond.selects y2.cls y2 y2 ∈ sT) (hd2 : d2 < d) (hst : (st.map fun v => v.category).sum ≤ 8) (hd : decode cc pc = .ok (.invokevirtual i, 3))
    (k : ∀ (S' : sSt), Q2 none S' → WS B E y cc mL rt d (pc + 3) lv st S' Q) : WS B E y cc mL rt d pc lv (a5 :: a4 :: a3 :: a2 :: a1 :: .ref (s_ad B o) :: st) S Q :=
  x_callV hsh hci h2 hm rfl hln hw hw2 hd2 rfl hst hd (fun v S' hv hq => by
    rcases hv with ⟨rfl, -⟩ | ⟨x, ty2, -, h, -⟩
    · exact k S' hq
    · cases h)
end XC
end
section
def qI (f : Int32) (S0 : sSt) : Option Value → sSt → Prop := fun v S' => v = some (.int f) ∧ S' = S0
def qV (S0 : sSt) : Option Value → sSt → Prop := fun v S' => v = none ∧ S' = S0
def bI (c : Prop) [Decidable c] : Int32 := if c then 1 else 0
theorem bI_nar (c : Prop) [Decidable c] : narrow .boolean (.int (bI c)) = .int (bI c) := by unfold bI; split <;> rfl
theorem bI_0 {c : Prop} [Decidable c] (h : bI c = 0) : ¬ c := by intro hc; simp [bI, hc] at h
theorem bI_1 {c : Prop} [Decidable c] (h : ¬ bI c = 0) : c := by
  rcases Decidable.em c with hc | hc
  · exact hc
  · exact absurd (by simp [bI, hc]) h
theorem iX0 : ∀ w ∈ u_ws RX0 TX0 9, w ∈ sT := by decide +kernel
theorem iX1 : ∀ w ∈ u_ws RX1 TX1 3, w ∈ sT := by decide +kernel
theorem iX2 : ∀ w ∈ u_ws RX2 TX2 8, w ∈ sT := by decide +kernel
theorem iX3 : ∀ w ∈ u_ws RX3 TX3 6, w ∈ sT := by decide +kernel
theorem iX4 : ∀ w ∈ u_ws RX4 TX4 5, w ∈ sT := by decide +kernel
theorem iX5 : ∀ w ∈ u_ws RX5 TX5 4, w ∈ sT := by decide +kernel
theorem iX6 : ∀ w ∈ u_ws RX6 TX6 11, w ∈ sT := by decide +kernel
theorem iX7 : ∀ w ∈ u_ws RX7 TX7 26, w ∈ sT := by decide +kernel
theorem sT_1 (i : Nat) {w : Cond} (h : tables_1_1[i]? = some w) (hg : goodWord w = true) : w ∈ sT := List.mem_filter.mpr ⟨List.mem_append_right _ (List.mem_append_left _ (List.mem_of_getElem? h)), hg⟩
theorem sT_2 (i : Nat) {w : Cond} (h : tables_1_2[i]? = some w) (hg : goodWord w = true) : w ∈ sT := List.mem_filter.mpr ⟨List.mem_append_right _ (List.mem_append_right _ (List.mem_append_left _ (List.mem_of_getElem? h))), hg⟩
theorem sT_3 (i : Nat) {w : Cond} (h : tables_1_3[i]? = some w) (hg : goodWord w = true) : w ∈ sT := List.mem_filter.mpr ⟨List.mem_append_right _ (List.mem_append_right _ (List.mem_append_right _ (List.mem_append_left _ (List.mem_of_getElem? h)))), hg⟩
theorem sT_4 (i : Nat) {w : Cond} (h : tables_1_4[i]? = some w) (hg : goodWord w = true) : w ∈ sT := List.mem_filter.mpr ⟨List.mem_append_right _ (List.mem_append_right _ (List.mem_append_right _ (List.mem_append_right _ (List.mem_of_getElem? h)))), hg⟩
theorem sT_p (i : Nat) {w : Cond} (h : (k2_sels lw_privs)[i]? = some w) (hg : goodWord w = true) : w ∈ sT := List.mem_filter.mpr ⟨List.mem_append_left _ (List.mem_of_getElem? h), hg⟩
section XL
variable {B : sB} {E : State → Prop} {y : MethodName} {cc : ByteArray} {mL : Nat} {rt : Option FieldType} {d d2 pc o : Nat} {lv : List (Nat × Value)} {st : List Value} {S : sSt} {Q Q2 : Option Value → sSt → Prop} {fl : List (Option Nat)}
theorem x_ifeq_b {c : Prop} [Decidable c] {off : Int} {tgt : Nat} (hd : decode cc pc = .ok (.ifCond .eq off, 3)) (ht : (pc : Int) + off = (tgt : Int)) (kt : ¬ c → WS B E y cc mL rt d tgt lv st S Q) (kf : c → WS B E y cc mL rt d (pc + 3) lv st S Q) : WS B E y cc mL rt d pc lv (.int (bI c) :: st) S Q :=
  x_if_eq hd ht (fun h => kt (bI_0 h)) (fun h => kf (bI_1 h))
theorem x_ifne_b {c : Prop} [Decidable c] {off : Int} {tgt : Nat} (hd : decode cc pc = .ok (.ifCond .ne off, 3)) (ht : (pc : Int) + off = (tgt : Int)) (kt : c → WS B E y cc mL rt d tgt lv st S Q) (kf : ¬ c → WS B E y cc mL rt d (pc + 3) lv st S Q) : WS B E y cc mL rt d pc lv (.int (bI c) :: st) S Q :=
  x_if_ne hd ht (fun h => kt (bI_1 h)) (fun h => kf (bI_0 h))
theorem gX0_15 {r : Nat} (hd : decode cc pc = .ok (.getfield 15, 3)) (hy : y.cls = RX0) (hsh : B.2.1[o]? = some (.inr (.inl (0, fl)))) (hf : fl[5]? = some (some r)) (k : WS B E y cc mL rt d (pc + 3) lv (.ref (s_ad B r) :: st) S Q) : WS B E y cc mL rt d pc lv (.ref (s_ad B o) :: st) S Q :=
  x_getR (T := TX0) (N := 9) (j := 5) hsh rfl iX0 (by decide) (by rw [hy]; exact sT_1 105 rfl rfl) hf hd k
theorem gX0_18 {r : Nat} (hd : decode cc pc = .ok (.getfield 18, 3)) (hy : y.cls = RX0) (hsh : B.2.1[o]? = some (.inr (.inl (0, fl)))) (hf : fl[6]? = some (some r)) (k : WS B E y cc mL rt d (pc + 3) lv (.ref (s_ad B r) :: st) S Q) : WS B E y cc mL rt d pc lv (.ref (s_ad B o) :: st) S Q :=
  x_getR (T := TX0) (N := 9) (j := 6) hsh rfl iX0 (by decide) (by rw [hy]; exact sT_1 107 rfl rfl) hf hd k
theorem gX0_21 {r : Nat} (hd : decode cc pc = .ok (.getfield 21, 3)) (hy : y.cls = RX0) (hsh : B.2.1[o]? = some (.inr (.inl (0, fl)))) (hf : fl[7]? = some (some r)) (k : WS B E y cc mL rt d (pc + 3) lv (.ref (s_ad B r) :: st) S Q) : WS B E y cc mL rt d pc lv (.ref (s_ad B o) :: st) S Q :=
  x_getR (T := TX0) (N := 9) (j := 7) hsh rfl iX0 (by decide) (by rw [hy]; exact sT_1 109 rfl rfl) hf hd k
theorem gX0_24 {r : Nat} (hd : decode cc pc = .ok (.getfield 24, 3)) (hy : y.cls = RX0) (hsh : B.2.1[o]? = some (.inr (.inl (0, fl)))) (hf : fl[8]? = some (some r)) (k : WS B E y cc mL rt d (pc + 3) lv (.ref (s_ad B r) :: st) S Q) : WS B E y cc mL rt d pc lv (.ref (s_ad B o) :: st) S Q :=
  x_getR (T := TX0) (N := 9) (j := 8) hsh rfl iX0 (by decide) (by rw [hy]; exact sT_1 111 rfl rfl) hf hd k
theorem gX0_27 {r : Nat} (hd : decode cc pc = .ok (.getfield 27, 3)) (hy : y.cls = RX0) (hsh : B.2.1[o]? = some (.inr (.inl (0, fl)))) (hf : fl[0]? = some (some r)) (k : WS B E y cc mL rt d (pc + 3) lv (.ref (s_ad B r) :: st) S Q) : WS B E y cc mL rt d pc lv (.ref (s_ad B o) :: st) S Q :=
  x_getR (T := TX0) (N := 9) (j := 0) hsh rfl iX0 (by decide) (by rw [hy]; exact sT_1 95 rfl rfl) hf hd k
theorem gX0_31 (hd : decode cc pc = .ok (.getfield 31, 3)) (hy : y.cls = RX0) (hsh : B.2.1[o]? = some (.inr (.inl (2, fl)))) (hf : fl[1]? = some none) (k : WS B E y cc mL rt d (pc + 3) lv (.int (S o 1) :: st) S Q) : WS B E y cc mL rt d pc lv (.ref (s_ad B o) :: st) S Q :=
  x_getI (T := TX2) (N := 8) (j := 1) hsh rfl iX2 (by decide) (by rw [hy]; exact sT_1 53 rfl rfl) hf hd k
theorem gX0_37 (hd : decode cc pc = .ok (.getfield 37, 3)) (hy : y.cls = RX0) (hsh : B.2.1[o]? = some (.inr (.inl (0, fl)))) (hf : fl[1]? = some none) (k : WS B E y cc mL rt d (pc + 3) lv (.int (S o 1) :: st) S Q) : WS B E y cc mL rt d pc lv (.ref (s_ad B o) :: st) S Q :=
  x_getI (T := TX0) (N := 9) (j := 1) hsh rfl iX0 (by decide) (by rw [hy]; exact sT_1 97 rfl rfl) hf hd k
theorem gX0_38 (hd : decode cc pc = .ok (.getfield 38, 3)) (hy : y.cls = RX0) (hsh : B.2.1[o]? = some (.inr (.inl (2, fl)))) (hf : fl[2]? = some none) (k : WS B E y cc mL rt d (pc + 3) lv (.int (S o 2) :: st) S Q) : WS B E y cc mL rt d pc lv (.ref (s_ad B o) :: st) S Q :=
  x_getI (T := TX2) (N := 8) (j := 2) hsh rfl iX2 (by decide) (by rw [hy]; exact sT_1 56 rfl rfl) hf hd k
theorem gX0_41 (hd : decode cc pc = .ok (.getfield 41, 3)) (hy : y.cls = RX0) (hsh : B.2.1[o]? = some (.inr (.inl (0, fl)))) (hf : fl[2]? = some none) (k : WS B E y cc mL rt d (pc + 3) lv (.int (S o 2) :: st) S Q) : WS B E y cc mL rt d pc lv (.ref (s_ad B o) :: st) S Q :=
  x_getI (T := TX0) (N := 9) (j := 2) hsh rfl iX0 (by decide) (by rw [hy]; exact sT_1 99 rfl rfl) hf hd k
theorem gX0_42 (hd : decode cc pc = .ok (.getfield 42, 3)) (hy : y.cls = RX0) (hsh : B.2.1[o]? = some (.inr (.inl (0, fl)))) (hf : fl[3]? = some none) (k : WS B E y cc mL rt d (pc + 3) lv (.int (S o 3) :: st) S Q) : WS B E y cc mL rt d pc lv (.ref (s_ad B o) :: st) S Q :=
  x_getI (T := TX0) (N := 9) (j := 3) hsh rfl iX0 (by decide) (by rw [hy]; exact sT_1 101 rfl rfl) hf hd k
theorem gX0_51 (hd : decode cc pc = .ok (.getfield 51, 3)) (hy : y.cls = RX0) (hsh : B.2.1[o]? = some (.inr (.inl (2, fl)))) (hf : fl[4]? = some none) (k : WS B E y cc mL rt d (pc + 3) lv (.int (S o 4) :: st) S Q) : WS B E y cc mL rt d pc lv (.ref (s_ad B o) :: st) S Q :=
  x_getI (T := TX2) (N := 8) (j := 4) hsh rfl iX2 (by decide) (by rw [hy]; exact sT_1 61 rfl rfl) hf hd k
theorem gX0_54 {r : Nat} (hd : decode cc pc = .ok (.getfield 54, 3)) (hy : y.cls = RX0) (hsh : B.2.1[o]? = some (.inr (.inl (2, fl)))) (hf : fl[5]? = some (some r)) (k : WS B E y cc mL rt d (pc + 3) lv (.ref (s_ad B r) :: st) S Q) : WS B E y cc mL rt d pc lv (.ref (s_ad B o) :: st) S Q :=
  x_getR (T := TX2) (N := 8) (j := 5) hsh rfl iX2 (by decide) (by rw [hy]; exact sT_1 64 rfl rfl) hf hd k
theorem gX0_57 {r : Nat} (hd : decode cc pc = .ok (.getfield 57, 3)) (hy : y.cls = RX0) (hsh : B.2.1[o]? = some (.inr (.inl (2, fl)))) (hf : fl[6]? = some (some r)) (k : WS B E y cc mL rt d (pc + 3) lv (.ref (s_ad B r) :: st) S Q) : WS B E y cc mL rt d pc lv (.ref (s_ad B o) :: st) S Q :=
  x_getR (T := TX2) (N := 8) (j := 6) hsh rfl iX2 (by decide) (by rw [hy]; exact sT_1 68 rfl rfl) hf hd k
theorem gX0_60 {r : Nat} (hd : decode cc pc = .ok (.getfield 60, 3)) (hy : y.cls = RX0) (hsh : B.2.1[o]? = some (.inr (.inl (2, fl)))) (hf : fl[7]? = some (some r)) (k : WS B E y cc mL rt d (pc + 3) lv (.ref (s_ad B r) :: st) S Q) : WS B E y cc mL rt d pc lv (.ref (s_ad B o) :: st) S Q :=
  x_getR (T := TX2) (N := 8) (j := 7) hsh rfl iX2 (by decide) (by rw [hy]; exact sT_1 71 rfl rfl) hf hd k
theorem gX0_84 (hd : decode cc pc = .ok (.getfield 84, 3)) (hy : y.cls = RX0) (hsh : B.2.1[o]? = some (.inr (.inl (2, fl)))) (hf : fl[3]? = some none) (k : WS B E y cc mL rt d (pc + 3) lv (.int (S o 3) :: st) S Q) : WS B E y cc mL rt d pc lv (.ref (s_ad B o) :: st) S Q :=
  x_getI (T := TX2) (N := 8) (j := 3) hsh rfl iX2 (by decide) (by rw [hy]; exact sT_1 58 rfl rfl) hf hd k
theorem gX0_9 {r : Nat} (hd : decode cc pc = .ok (.getfield 9, 3)) (hy : y.cls = RX0) (hsh : B.2.1[o]? = some (.inr (.inl (0, fl)))) (hf : fl[4]? = some (some r)) (k : WS B E y cc mL rt d (pc + 3) lv (.ref (s_ad B r) :: st) S Q) : WS B E y cc mL rt d pc lv (.ref (s_ad B o) :: st) S Q :=
  x_getR (T := TX0) (N := 9) (j := 4) hsh rfl iX0 (by decide) (by rw [hy]; exact sT_1 103 rfl rfl) hf hd k
theorem gX0_91 (hd : decode cc pc = .ok (.getfield 91, 3)) (hy : y.cls = RX0) (hsh : B.2.1[o]? = some (.inr (.inl (2, fl)))) (hf : fl[0]? = some none) (k : WS B E y cc mL rt d (pc + 3) lv (.int (S o 0) :: st) S Q) : WS B E y cc mL rt d pc lv (.ref (s_ad B o) :: st) S Q :=
  x_getI (T := TX2) (N := 8) (j := 0) hsh rfl iX2 (by decide) (by rw [hy]; exact sT_1 52 rfl rfl) hf hd k
theorem gX1_11 {r : Nat} (hd : decode cc pc = .ok (.getfield 11, 3)) (hy : y.cls = RX1) (hsh : B.2.1[o]? = some (.inr (.inl (1, fl)))) (hf : fl[0]? = some (some r)) (k : WS B E y cc mL rt d (pc + 3) lv (.ref (s_ad B r) :: st) S Q) : WS B E y cc mL rt d pc lv (.ref (s_ad B o) :: st) S Q :=
  x_getR (T := TX1) (N := 3) (j := 0) hsh rfl iX1 (by decide) (by rw [hy]; exact sT_1 141 rfl rfl) hf hd k
theorem gX1_20 (hd : decode cc pc = .ok (.getfield 20, 3)) (hy : y.cls = RX1) (hsh : B.2.1[o]? = some (.inr (.inl (1, fl)))) (hf : fl[2]? = some none) (k : WS B E y cc mL rt d (pc + 3) lv (.int (S o 2) :: st) S Q) : WS B E y cc mL rt d pc lv (.ref (s_ad B o) :: st) S Q :=
  x_getI (T := TX1) (N := 3) (j := 2) hsh rfl iX1 (by decide) (by rw [hy]; exact sT_1 143 rfl rfl) hf hd k
theorem gX1_24 (hd : decode cc pc = .ok (.getfield 24, 3)) (hy : y.cls = RX1) (hsh : B.2.1[o]? = some (.inr (.inl (1, fl)))) (hf : fl[1]? = some none) (k : WS B E y cc mL rt d (pc + 3) lv (.int (S o 1) :: st) S Q) : WS B E y cc mL rt d pc lv (.ref (s_ad B o) :: st) S Q :=
  x_getI (T := TX1) (N := 3) (j := 1) hsh rfl iX1 (by decide) (by rw [hy]; exact sT_1 142 rfl rfl) hf hd k
theorem gX2_15 {r : Nat} (hd : decode cc pc = .ok (.getfield 15, 3)) (hy : y.cls = RX2) (hsh : B.2.1[o]? = some (.inr (.inl (2, fl)))) (hf : fl[6]? = some (some r)) (k : WS B E y cc mL rt d (pc + 3) lv (.ref (s_ad B r) :: st) S Q) : WS B E y cc mL rt d pc lv (.ref (s_ad B o) :: st) S Q :=
  x_getR (T := TX2) (N := 8) (j := 6) hsh rfl iX2 (by decide) (by rw [hy]; exact sT_1 66 rfl rfl) hf hd k
theorem gX2_18 {r : Nat} (hd : decode cc pc = .ok (.getfield 18, 3)) (hy : y.cls = RX2) (hsh : B.2.1[o]? = some (.inr (.inl (2, fl)))) (hf : fl[7]? = some (some r)) (k : WS B E y cc mL rt d (pc + 3) lv (.ref (s_ad B r) :: st) S Q) : WS B E y cc mL rt d pc lv (.ref (s_ad B o) :: st) S Q :=
  x_getR (T := TX2) (N := 8) (j := 7) hsh rfl iX2 (by decide) (by rw [hy]; exact sT_1 69 rfl rfl) hf hd k
theorem gX2_21 (hd : decode cc pc = .ok (.getfield 21, 3)) (hy : y.cls = RX2) (hsh : B.2.1[o]? = some (.inr (.inl (2, fl)))) (hf : fl[0]? = some none) (k : WS B E y cc mL rt d (pc + 3) lv (.int (S o 0) :: st) S Q) : WS B E y cc mL rt d pc lv (.ref (s_ad B o) :: st) S Q :=
  x_getI (T := TX2) (N := 8) (j := 0) hsh rfl iX2 (by decide) (by rw [hy]; exact sT_1 50 rfl rfl) hf hd k
theorem gX2_25 (hd : decode cc pc = .ok (.getfield 25, 3)) (hy : y.cls = RX2) (hsh : B.2.1[o]? = some (.inr (.inl (2, fl)))) (hf : fl[1]? = some none) (k : WS B E y cc mL rt d (pc + 3) lv (.int (S o 1) :: st) S Q) : WS B E y cc mL rt d pc lv (.ref (s_ad B o) :: st) S Q :=
  x_getI (T := TX2) (N := 8) (j := 1) hsh rfl iX2 (by decide) (by rw [hy]; exact sT_1 54 rfl rfl) hf hd k
theorem gX2_28 (hd : decode cc pc = .ok (.getfield 28, 3)) (hy : y.cls = RX2) (hsh : B.2.1[o]? = some (.inr (.inl (2, fl)))) (hf : fl[2]? = some none) (k : WS B E y cc mL rt d (pc + 3) lv (.int (S o 2) :: st) S Q) : WS B E y cc mL rt d pc lv (.ref (s_ad B o) :: st) S Q :=
  x_getI (T := TX2) (N := 8) (j := 2) hsh rfl iX2 (by decide) (by rw [hy]; exact sT_1 55 rfl rfl) hf hd k
theorem gX2_31 (hd : decode cc pc = .ok (.getfield 31, 3)) (hy : y.cls = RX2) (hsh : B.2.1[o]? = some (.inr (.inl (2, fl)))) (hf : fl[3]? = some none) (k : WS B E y cc mL rt d (pc + 3) lv (.int (S o 3) :: st) S Q) : WS B E y cc mL rt d pc lv (.ref (s_ad B o) :: st) S Q :=
  x_getI (T := TX2) (N := 8) (j := 3) hsh rfl iX2 (by decide) (by rw [hy]; exact sT_1 57 rfl rfl) hf hd k
theorem gX2_34 (hd : decode cc pc = .ok (.getfield 34, 3)) (hy : y.cls = RX2) (hsh : B.2.1[o]? = some (.inr (.inl (2, fl)))) (hf : fl[4]? = some none) (k : WS B E y cc mL rt d (pc + 3) lv (.int (S o 4) :: st) S Q) : WS B E y cc mL rt d pc lv (.ref (s_ad B o) :: st) S Q :=
  x_getI (T := TX2) (N := 8) (j := 4) hsh rfl iX2 (by decide) (by rw [hy]; exact sT_1 59 rfl rfl) hf hd k
theorem gX2_9 {r : Nat} (hd : decode cc pc = .ok (.getfield 9, 3)) (hy : y.cls = RX2) (hsh : B.2.1[o]? = some (.inr (.inl (2, fl)))) (hf : fl[5]? = some (some r)) (k : WS B E y cc mL rt d (pc + 3) lv (.ref (s_ad B r) :: st) S Q) : WS B E y cc mL rt d pc lv (.ref (s_ad B o) :: st) S Q :=
  x_getR (T := TX2) (N := 8) (j := 5) hsh rfl iX2 (by decide) (by rw [hy]; exact sT_1 63 rfl rfl) hf hd k
theorem gX3_15 {r : Nat} (hd : decode cc pc = .ok (.getfield 15, 3)) (hy : y.cls = RX3) (hsh : B.2.1[o]? = some (.inr (.inl (3, fl)))) (hf : fl[1]? = some (some r)) (k : WS B E y cc mL rt d (pc + 3) lv (.ref (s_ad B r) :: st) S Q) : WS B E y cc mL rt d pc lv (.ref (s_ad B o) :: st) S Q :=
  x_getR (T := TX3) (N := 6) (j := 1) hsh rfl iX3 (by decide) (by rw [hy]; exact sT_1 182 rfl rfl) hf hd k
theorem gX3_18 {r : Nat} (hd : decode cc pc = .ok (.getfield 18, 3)) (hy : y.cls = RX3) (hsh : B.2.1[o]? = some (.inr (.inl (3, fl)))) (hf : fl[4]? = some (some r)) (k : WS B E y cc mL rt d (pc + 3) lv (.ref (s_ad B r) :: st) S Q) : WS B E y cc mL rt d pc lv (.ref (s_ad B o) :: st) S Q :=
  x_getR (T := TX3) (N := 6) (j := 4) hsh rfl iX3 (by decide) (by rw [hy]; exact sT_1 185 rfl rfl) hf hd k
theorem gX3_29 (hd : decode cc pc = .ok (.getfield 29, 3)) (hy : y.cls = RX3) (hsh : B.2.1[o]? = some (.inr (.inl (3, fl)))) (hf : fl[5]? = some none) (k : WS B E y cc mL rt d (pc + 3) lv (.int (S o 5) :: st) S Q) : WS B E y cc mL rt d pc lv (.ref (s_ad B o) :: st) S Q :=
  x_getI (T := TX3) (N := 6) (j := 5) hsh rfl iX3 (by decide) (by rw [hy]; exact sT_1 187 rfl rfl) hf hd k
theorem gX3_33 (hd : decode cc pc = .ok (.getfield 33, 3)) (hy : y.cls = RX3) (hsh : B.2.1[o]? = some (.inr (.inl (3, fl)))) (hf : fl[3]? = some none) (k : WS B E y cc mL rt d (pc + 3) lv (.int (S o 3) :: st) S Q) : WS B E y cc mL rt d pc lv (.ref (s_ad B o) :: st) S Q :=
  x_getI (T := TX3) (N := 6) (j := 3) hsh rfl iX3 (by decide) (by rw [hy]; exact sT_1 184 rfl rfl) hf hd k
theorem gX3_40 {r : Nat} (hd : decode cc pc = .ok (.getfield 40, 3)) (hy : y.cls = RX3) (hsh : B.2.1[o]? = some (.inr (.inl (0, fl)))) (hf : fl[0]? = some (some r)) (k : WS B E y cc mL rt d (pc + 3) lv (.ref (s_ad B r) :: st) S Q) : WS B E y cc mL rt d pc lv (.ref (s_ad B o) :: st) S Q :=
  x_getN (T := TX0) (N := 9) (j := 0) (host := "ToastBelt") hsh rfl iX0 (by decide) (by rw [hy]; decide +kernel) hf hd k
theorem gX3_46 (hd : decode cc pc = .ok (.getfield 46, 3)) (hy : y.cls = RX3) (hsh : B.2.1[o]? = some (.inr (.inl (2, fl)))) (hf : fl[4]? = some none) (k : WS B E y cc mL rt d (pc + 3) lv (.int (S o 4) :: st) S Q) : WS B E y cc mL rt d pc lv (.ref (s_ad B o) :: st) S Q :=
  x_getI (T := TX2) (N := 8) (j := 4) hsh rfl iX2 (by decide) (by rw [hy]; exact sT_1 60 rfl rfl) hf hd k
theorem gX3_56 (hd : decode cc pc = .ok (.getfield 56, 3)) (hy : y.cls = RX3) (hsh : B.2.1[o]? = some (.inr (.inl (3, fl)))) (hf : fl[2]? = some none) (k : WS B E y cc mL rt d (pc + 3) lv (.int (S o 2) :: st) S Q) : WS B E y cc mL rt d pc lv (.ref (s_ad B o) :: st) S Q :=
  x_getI (T := TX3) (N := 6) (j := 2) hsh rfl iX3 (by decide) (by rw [hy]; exact sT_1 183 rfl rfl) hf hd k
theorem gX3_9 {r : Nat} (hd : decode cc pc = .ok (.getfield 9, 3)) (hy : y.cls = RX3) (hsh : B.2.1[o]? = some (.inr (.inl (3, fl)))) (hf : fl[0]? = some (some r)) (k : WS B E y cc mL rt d (pc + 3) lv (.ref (s_ad B r) :: st) S Q) : WS B E y cc mL rt d pc lv (.ref (s_ad B o) :: st) S Q :=
  x_getR (T := TX3) (N := 6) (j := 0) hsh rfl iX3 (by decide) (by rw [hy]; exact sT_1 181 rfl rfl) hf hd k
theorem gX4_15 {r : Nat} (hd : decode cc pc = .ok (.getfield 15, 3)) (hy : y.cls = RX4) (hsh : B.2.1[o]? = some (.inr (.inl (4, fl)))) (hf : fl[1]? = some (some r)) (k : WS B E y cc mL rt d (pc + 3) lv (.ref (s_ad B r) :: st) S Q) : WS B E y cc mL rt d pc lv (.ref (s_ad B o) :: st) S Q :=
  x_getR (T := TX4) (N := 5) (j := 1) hsh rfl iX4 (by decide) (by rw [hy]; exact sT_1 159 rfl rfl) hf hd k
theorem gX4_18 {r : Nat} (hd : decode cc pc = .ok (.getfield 18, 3)) (hy : y.cls = RX4) (hsh : B.2.1[o]? = some (.inr (.inl (4, fl)))) (hf : fl[2]? = some (some r)) (k : WS B E y cc mL rt d (pc + 3) lv (.ref (s_ad B r) :: st) S Q) : WS B E y cc mL rt d pc lv (.ref (s_ad B o) :: st) S Q :=
  x_getR (T := TX4) (N := 5) (j := 2) hsh rfl iX4 (by decide) (by rw [hy]; exact sT_1 160 rfl rfl) hf hd k
theorem gX4_21 {r : Nat} (hd : decode cc pc = .ok (.getfield 21, 3)) (hy : y.cls = RX4) (hsh : B.2.1[o]? = some (.inr (.inl (4, fl)))) (hf : fl[3]? = some (some r)) (k : WS B E y cc mL rt d (pc + 3) lv (.ref (s_ad B r) :: st) S Q) : WS B E y cc mL rt d pc lv (.ref (s_ad B o) :: st) S Q :=
  x_getR (T := TX4) (N := 5) (j := 3) hsh rfl iX4 (by decide) (by rw [hy]; exact sT_1 161 rfl rfl) hf hd k
theorem gX4_24 (hd : decode cc pc = .ok (.getfield 24, 3)) (hy : y.cls = RX4) (hsh : B.2.1[o]? = some (.inr (.inl (4, fl)))) (hf : fl[4]? = some none) (k : WS B E y cc mL rt d (pc + 3) lv (.int (S o 4) :: st) S Q) : WS B E y cc mL rt d pc lv (.ref (s_ad B o) :: st) S Q :=
  x_getI (T := TX4) (N := 5) (j := 4) hsh rfl iX4 (by decide) (by rw [hy]; exact sT_1 162 rfl rfl) hf hd k
theorem gX4_9 {r : Nat} (hd : decode cc pc = .ok (.getfield 9, 3)) (hy : y.cls = RX4) (hsh : B.2.1[o]? = some (.inr (.inl (4, fl)))) (hf : fl[0]? = some (some r)) (k : WS B E y cc mL rt d (pc + 3) lv (.ref (s_ad B r) :: st) S Q) : WS B E y cc mL rt d pc lv (.ref (s_ad B o) :: st) S Q :=
  x_getR (T := TX4) (N := 5) (j := 0) hsh rfl iX4 (by decide) (by rw [hy]; exact sT_1 158 rfl rfl) hf hd k
theorem gX5_15 {r : Nat} (hd : decode cc pc = .ok (.getfield 15, 3)) (hy : y.cls = RX5) (hsh : B.2.1[o]? = some (.inr (.inl (5, fl)))) (hf : fl[1]? = some (some r)) (k : WS B E y cc mL rt d (pc + 3) lv (.ref (s_ad B r) :: st) S Q) : WS B E y cc mL rt d pc lv (.ref (s_ad B o) :: st) S Q :=
  x_getR (T := TX5) (N := 4) (j := 1) hsh rfl iX5 (by decide) (by rw [hy]; exact sT_1 30 rfl rfl) hf hd k
theorem gX5_19 (hd : decode cc pc = .ok (.getfield 19, 3)) (hy : y.cls = RX5) (hsh : B.2.1[o]? = some (.inr (.inl (5, fl)))) (hf : fl[2]? = some none) (k : WS B E y cc mL rt d (pc + 3) lv (.int (S o 2) :: st) S Q) : WS B E y cc mL rt d pc lv (.ref (s_ad B o) :: st) S Q :=
  x_getI (T := TX5) (N := 4) (j := 2) hsh rfl iX5 (by decide) (by rw [hy]; exact sT_1 31 rfl rfl) hf hd k
theorem gX5_28 (hd : decode cc pc = .ok (.getfield 28, 3)) (hy : y.cls = RX5) (hsh : B.2.1[o]? = some (.inr (.inl (5, fl)))) (hf : fl[3]? = some none) (k : WS B E y cc mL rt d (pc + 3) lv (.int (S o 3) :: st) S Q) : WS B E y cc mL rt d pc lv (.ref (s_ad B o) :: st) S Q :=
  x_getI (T := TX5) (N := 4) (j := 3) hsh rfl iX5 (by decide) (by rw [hy]; exact sT_1 32 rfl rfl) hf hd k
theorem gX5_9 {r : Nat} (hd : decode cc pc = .ok (.getfield 9, 3)) (hy : y.cls = RX5) (hsh : B.2.1[o]? = some (.inr (.inl (5, fl)))) (hf : fl[0]? = some (some r)) (k : WS B E y cc mL rt d (pc + 3) lv (.ref (s_ad B r) :: st) S Q) : WS B E y cc mL rt d pc lv (.ref (s_ad B o) :: st) S Q :=
  x_getR (T := TX5) (N := 4) (j := 0) hsh rfl iX5 (by decide) (by rw [hy]; exact sT_1 29 rfl rfl) hf hd k
theorem gX6_10 {r : Nat} (hd : decode cc pc = .ok (.getfield 10, 3)) (hy : y.cls = RX6) (hsh : B.2.1[o]? = some (.inr (.inl (6, fl)))) (hf : fl[0]? = some (some r)) (k : WS B E y cc mL rt d (pc + 3) lv (.ref (s_ad B r) :: st) S Q) : WS B E y cc mL rt d pc lv (.ref (s_ad B o) :: st) S Q :=
  x_getR (T := TX6) (N := 11) (j := 0) hsh rfl iX6 (by decide) (by rw [hy]; exact sT_2 89 rfl rfl) hf hd k
theorem gX6_105 {r : Nat} (hd : decode cc pc = .ok (.getfield 105, 3)) (hy : y.cls = RX6) (hsh : B.2.1[o]? = some (.inr (.inl (2, fl)))) (hf : fl[5]? = some (some r)) (k : WS B E y cc mL rt d (pc + 3) lv (.ref (s_ad B r) :: st) S Q) : WS B E y cc mL rt d pc lv (.ref (s_ad B o) :: st) S Q :=
  x_getR (T := TX2) (N := 8) (j := 5) hsh rfl iX2 (by decide) (by rw [hy]; exact sT_1 65 rfl rfl) hf hd k
theorem gX6_109 {r : Nat} (hd : decode cc pc = .ok (.getfield 109, 3)) (hy : y.cls = RX6) (hsh : B.2.1[o]? = some (.inr (.inl (2, fl)))) (hf : fl[6]? = some (some r)) (k : WS B E y cc mL rt d (pc + 3) lv (.ref (s_ad B r) :: st) S Q) : WS B E y cc mL rt d pc lv (.ref (s_ad B o) :: st) S Q :=
  x_getR (T := TX2) (N := 8) (j := 6) hsh rfl iX2 (by decide) (by rw [hy]; exact sT_1 67 rfl rfl) hf hd k
theorem gX6_112 {r : Nat} (hd : decode cc pc = .ok (.getfield 112, 3)) (hy : y.cls = RX6) (hsh : B.2.1[o]? = some (.inr (.inl (2, fl)))) (hf : fl[7]? = some (some r)) (k : WS B E y cc mL rt d (pc + 3) lv (.ref (s_ad B r) :: st) S Q) : WS B E y cc mL rt d pc lv (.ref (s_ad B o) :: st) S Q :=
  x_getR (T := TX2) (N := 8) (j := 7) hsh rfl iX2 (by decide) (by rw [hy]; exact sT_1 70 rfl rfl) hf hd k
theorem gX6_119 {r : Nat} (hd : decode cc pc = .ok (.getfield 119, 3)) (hy : y.cls = RX6) (hsh : B.2.1[o]? = some (.inr (.inl (0, fl)))) (hf : fl[4]? = some (some r)) (k : WS B E y cc mL rt d (pc + 3) lv (.ref (s_ad B r) :: st) S Q) : WS B E y cc mL rt d pc lv (.ref (s_ad B o) :: st) S Q :=
  x_getR (T := TX0) (N := 9) (j := 4) hsh rfl iX0 (by decide) (by rw [hy]; exact sT_1 104 rfl rfl) hf hd k
theorem gX6_122 {r : Nat} (hd : decode cc pc = .ok (.getfield 122, 3)) (hy : y.cls = RX6) (hsh : B.2.1[o]? = some (.inr (.inl (0, fl)))) (hf : fl[5]? = some (some r)) (k : WS B E y cc mL rt d (pc + 3) lv (.ref (s_ad B r) :: st) S Q) : WS B E y cc mL rt d pc lv (.ref (s_ad B o) :: st) S Q :=
  x_getR (T := TX0) (N := 9) (j := 5) hsh rfl iX0 (by decide) (by rw [hy]; exact sT_1 106 rfl rfl) hf hd k
theorem gX6_125 {r : Nat} (hd : decode cc pc = .ok (.getfield 125, 3)) (hy : y.cls = RX6) (hsh : B.2.1[o]? = some (.inr (.inl (0, fl)))) (hf : fl[6]? = some (some r)) (k : WS B E y cc mL rt d (pc + 3) lv (.ref (s_ad B r) :: st) S Q) : WS B E y cc mL rt d pc lv (.ref (s_ad B o) :: st) S Q :=
  x_getR (T := TX0) (N := 9) (j := 6) hsh rfl iX0 (by decide) (by rw [hy]; exact sT_1 108 rfl rfl) hf hd k
theorem gX6_128 {r : Nat} (hd : decode cc pc = .ok (.getfield 128, 3)) (hy : y.cls = RX6) (hsh : B.2.1[o]? = some (.inr (.inl (0, fl)))) (hf : fl[7]? = some (some r)) (k : WS B E y cc mL rt d (pc + 3) lv (.ref (s_ad B r) :: st) S Q) : WS B E y cc mL rt d pc lv (.ref (s_ad B o) :: st) S Q :=
  x_getR (T := TX0) (N := 9) (j := 7) hsh rfl iX0 (by decide) (by rw [hy]; exact sT_1 110 rfl rfl) hf hd k
theorem gX6_131 {r : Nat} (hd : decode cc pc = .ok (.getfield 131, 3)) (hy : y.cls = RX6) (hsh : B.2.1[o]? = some (.inr (.inl (0, fl)))) (hf : fl[8]? = some (some r)) (k : WS B E y cc mL rt d (pc + 3) lv (.ref (s_ad B r) :: st) S Q) : WS B E y cc mL rt d pc lv (.ref (s_ad B o) :: st) S Q :=
  x_getR (T := TX0) (N := 9) (j := 8) hsh rfl iX0 (by decide) (by rw [hy]; exact sT_1 112 rfl rfl) hf hd k
theorem gX6_158 (hd : decode cc pc = .ok (.getfield 158, 3)) (hy : y.cls = RX6) (hsh : B.2.1[o]? = some (.inr (.inl (0, fl)))) (hf : fl[3]? = some none) (k : WS B E y cc mL rt d (pc + 3) lv (.int (S o 3) :: st) S Q) : WS B E y cc mL rt d pc lv (.ref (s_ad B o) :: st) S Q :=
  x_getI (T := TX0) (N := 9) (j := 3) hsh rfl iX0 (by decide) (by rw [hy]; exact sT_1 102 rfl rfl) hf hd k
theorem gX6_167 (hd : decode cc pc = .ok (.getfield 167, 3)) (hy : y.cls = RX6) (hsh : B.2.1[o]? = some (.inr (.inl (0, fl)))) (hf : fl[1]? = some none) (k : WS B E y cc mL rt d (pc + 3) lv (.int (S o 1) :: st) S Q) : WS B E y cc mL rt d pc lv (.ref (s_ad B o) :: st) S Q :=
  x_getI (T := TX0) (N := 9) (j := 1) hsh rfl iX0 (by decide) (by rw [hy]; exact sT_1 98 rfl rfl) hf hd k
theorem gX6_176 (hd : decode cc pc = .ok (.getfield 176, 3)) (hy : y.cls = RX6) (hsh : B.2.1[o]? = some (.inr (.inl (1, fl)))) (hf : fl[2]? = some none) (k : WS B E y cc mL rt d (pc + 3) lv (.int (S o 2) :: st) S Q) : WS B E y cc mL rt d pc lv (.ref (s_ad B o) :: st) S Q :=
  x_getI (T := TX1) (N := 3) (j := 2) hsh rfl iX1 (by decide) (by rw [hy]; exact sT_1 144 rfl rfl) hf hd k
theorem gX6_182 (hd : decode cc pc = .ok (.getfield 182, 3)) (hy : y.cls = RX6) (hsh : B.2.1[o]? = some (.inr (.inl (2, fl)))) (hf : fl[0]? = some none) (k : WS B E y cc mL rt d (pc + 3) lv (.int (S o 0) :: st) S Q) : WS B E y cc mL rt d pc lv (.ref (s_ad B o) :: st) S Q :=
  x_getI (T := TX2) (N := 8) (j := 0) hsh rfl iX2 (by decide) (by rw [hy]; exact sT_1 51 rfl rfl) hf hd k
theorem gX6_19 {r : Nat} (hd : decode cc pc = .ok (.getfield 19, 3)) (hy : y.cls = RX6) (hsh : B.2.1[o]? = some (.inr (.inl (6, fl)))) (hf : fl[1]? = some (some r)) (k : WS B E y cc mL rt d (pc + 3) lv (.ref (s_ad B r) :: st) S Q) : WS B E y cc mL rt d pc lv (.ref (s_ad B o) :: st) S Q :=
  x_getR (T := TX6) (N := 11) (j := 1) hsh rfl iX6 (by decide) (by rw [hy]; exact sT_2 90 rfl rfl) hf hd k
theorem gX6_210 (hd : decode cc pc = .ok (.getfield 210, 3)) (hy : y.cls = RX6) (hsh : B.2.1[o]? = some (.inr (.inl (3, fl)))) (hf : fl[5]? = some none) (k : WS B E y cc mL rt d (pc + 3) lv (.int (S o 5) :: st) S Q) : WS B E y cc mL rt d pc lv (.ref (s_ad B o) :: st) S Q :=
  x_getI (T := TX3) (N := 6) (j := 5) hsh rfl iX3 (by decide) (by rw [hy]; exact sT_1 188 rfl rfl) hf hd k
theorem gX6_213 {r : Nat} (hd : decode cc pc = .ok (.getfield 213, 3)) (hy : y.cls = RX6) (hsh : B.2.1[o]? = some (.inr (.inl (3, fl)))) (hf : fl[4]? = some (some r)) (k : WS B E y cc mL rt d (pc + 3) lv (.ref (s_ad B r) :: st) S Q) : WS B E y cc mL rt d pc lv (.ref (s_ad B o) :: st) S Q :=
  x_getR (T := TX3) (N := 6) (j := 4) hsh rfl iX3 (by decide) (by rw [hy]; exact sT_1 186 rfl rfl) hf hd k
theorem gX6_219 (hd : decode cc pc = .ok (.getfield 219, 3)) (hy : y.cls = RX6) (hsh : B.2.1[o]? = some (.inr (.inl (4, fl)))) (hf : fl[4]? = some none) (k : WS B E y cc mL rt d (pc + 3) lv (.int (S o 4) :: st) S Q) : WS B E y cc mL rt d pc lv (.ref (s_ad B o) :: st) S Q :=
  x_getI (T := TX4) (N := 5) (j := 4) hsh rfl iX4 (by decide) (by rw [hy]; exact sT_1 163 rfl rfl) hf hd k
theorem gX6_23 {r : Nat} (hd : decode cc pc = .ok (.getfield 23, 3)) (hy : y.cls = RX6) (hsh : B.2.1[o]? = some (.inr (.inl (6, fl)))) (hf : fl[2]? = some (some r)) (k : WS B E y cc mL rt d (pc + 3) lv (.ref (s_ad B r) :: st) S Q) : WS B E y cc mL rt d pc lv (.ref (s_ad B o) :: st) S Q :=
  x_getR (T := TX6) (N := 11) (j := 2) hsh rfl iX6 (by decide) (by rw [hy]; exact sT_2 91 rfl rfl) hf hd k
theorem gX6_240 (hd : decode cc pc = .ok (.getfield 240, 3)) (hy : y.cls = RX6) (hsh : B.2.1[o]? = some (.inr (.inl (0, fl)))) (hf : fl[2]? = some none) (k : WS B E y cc mL rt d (pc + 3) lv (.int (S o 2) :: st) S Q) : WS B E y cc mL rt d pc lv (.ref (s_ad B o) :: st) S Q :=
  x_getI (T := TX0) (N := 9) (j := 2) hsh rfl iX0 (by decide) (by rw [hy]; exact sT_1 100 rfl rfl) hf hd k
theorem gX6_243 (hd : decode cc pc = .ok (.getfield 243, 3)) (hy : y.cls = RX6) (hsh : B.2.1[o]? = some (.inr (.inl (6, fl)))) (hf : fl[8]? = some none) (k : WS B E y cc mL rt d (pc + 3) lv (.int (S o 8) :: st) S Q) : WS B E y cc mL rt d pc lv (.ref (s_ad B o) :: st) S Q :=
  x_getI (T := TX6) (N := 11) (j := 8) hsh rfl iX6 (by decide) (by rw [hy]; exact sT_2 97 rfl rfl) hf hd k
theorem gX6_31 {r : Nat} (hd : decode cc pc = .ok (.getfield 31, 3)) (hy : y.cls = RX6) (hsh : B.2.1[o]? = some (.inr (.inl (6, fl)))) (hf : fl[3]? = some (some r)) (k : WS B E y cc mL rt d (pc + 3) lv (.ref (s_ad B r) :: st) S Q) : WS B E y cc mL rt d pc lv (.ref (s_ad B o) :: st) S Q :=
  x_getR (T := TX6) (N := 11) (j := 3) hsh rfl iX6 (by decide) (by rw [hy]; exact sT_2 92 rfl rfl) hf hd k
theorem gX6_35 {r : Nat} (hd : decode cc pc = .ok (.getfield 35, 3)) (hy : y.cls = RX6) (hsh : B.2.1[o]? = some (.inr (.inl (6, fl)))) (hf : fl[4]? = some (some r)) (k : WS B E y cc mL rt d (pc + 3) lv (.ref (s_ad B r) :: st) S Q) : WS B E y cc mL rt d pc lv (.ref (s_ad B o) :: st) S Q :=
  x_getR (T := TX6) (N := 11) (j := 4) hsh rfl iX6 (by decide) (by rw [hy]; exact sT_2 93 rfl rfl) hf hd k
theorem gX6_38 {r : Nat} (hd : decode cc pc = .ok (.getfield 38, 3)) (hy : y.cls = RX6) (hsh : B.2.1[o]? = some (.inr (.inl (6, fl)))) (hf : fl[5]? = some (some r)) (k : WS B E y cc mL rt d (pc + 3) lv (.ref (s_ad B r) :: st) S Q) : WS B E y cc mL rt d pc lv (.ref (s_ad B o) :: st) S Q :=
  x_getR (T := TX6) (N := 11) (j := 5) hsh rfl iX6 (by decide) (by rw [hy]; exact sT_2 94 rfl rfl) hf hd k
theorem gX6_44 {r : Nat} (hd : decode cc pc = .ok (.getfield 44, 3)) (hy : y.cls = RX6) (hsh : B.2.1[o]? = some (.inr (.inl (6, fl)))) (hf : fl[6]? = some (some r)) (k : WS B E y cc mL rt d (pc + 3) lv (.ref (s_ad B r) :: st) S Q) : WS B E y cc mL rt d pc lv (.ref (s_ad B o) :: st) S Q :=
  x_getR (T := TX6) (N := 11) (j := 6) hsh rfl iX6 (by decide) (by rw [hy]; exact sT_2 95 rfl rfl) hf hd k
theorem gX6_48 {r : Nat} (hd : decode cc pc = .ok (.getfield 48, 3)) (hy : y.cls = RX6) (hsh : B.2.1[o]? = some (.inr (.inl (6, fl)))) (hf : fl[7]? = some (some r)) (k : WS B E y cc mL rt d (pc + 3) lv (.ref (s_ad B r) :: st) S Q) : WS B E y cc mL rt d pc lv (.ref (s_ad B o) :: st) S Q :=
  x_getR (T := TX6) (N := 11) (j := 7) hsh rfl iX6 (by decide) (by rw [hy]; exact sT_2 96 rfl rfl) hf hd k
theorem gX6_55 {r : Nat} (hd : decode cc pc = .ok (.getfield 55, 3)) (hy : y.cls = RX6) (hsh : B.2.1[o]? = some (.inr (.inl (6, fl)))) (hf : fl[9]? = some (some r)) (k : WS B E y cc mL rt d (pc + 3) lv (.ref (s_ad B r) :: st) S Q) : WS B E y cc mL rt d pc lv (.ref (s_ad B o) :: st) S Q :=
  x_getR (T := TX6) (N := 11) (j := 9) hsh rfl iX6 (by decide) (by rw [hy]; exact sT_2 98 rfl rfl) hf hd k
theorem gX6_62 {r : Nat} (hd : decode cc pc = .ok (.getfield 62, 3)) (hy : y.cls = RX6) (hsh : B.2.1[o]? = some (.inr (.inl (6, fl)))) (hf : fl[10]? = some (some r)) (k : WS B E y cc mL rt d (pc + 3) lv (.ref (s_ad B r) :: st) S Q) : WS B E y cc mL rt d pc lv (.ref (s_ad B o) :: st) S Q :=
  x_getR (T := TX6) (N := 11) (j := 10) hsh rfl iX6 (by decide) (by rw [hy]; exact sT_2 99 rfl rfl) hf hd k
theorem gX6_97 (hd : decode cc pc = .ok (.getfield 97, 3)) (hy : y.cls = RX6) (hsh : B.2.1[o]? = some (.inr (.inl (2, fl)))) (hf : fl[4]? = some none) (k : WS B E y cc mL rt d (pc + 3) lv (.int (S o 4) :: st) S Q) : WS B E y cc mL rt d pc lv (.ref (s_ad B o) :: st) S Q :=
  x_getI (T := TX2) (N := 8) (j := 4) hsh rfl iX2 (by decide) (by rw [hy]; exact sT_1 62 rfl rfl) hf hd k
theorem gX7_108 (hd : decode cc pc = .ok (.getfield 108, 3)) (hy : y.cls = RX7) (hsh : B.2.1[o]? = some (.inr (.inl (7, fl)))) (hf : fl[16]? = some none) (k : WS B E y cc mL rt d (pc + 3) lv (.int (S o 16) :: st) S Q) : WS B E y cc mL rt d pc lv (.ref (s_ad B o) :: st) S Q :=
  x_getI (T := TX7) (N := 26) (j := 16) hsh rfl iX7 (by decide) (by rw [hy]; exact sT_3 188 rfl rfl) hf hd k
theorem gX7_111 (hd : decode cc pc = .ok (.getfield 111, 3)) (hy : y.cls = RX7) (hsh : B.2.1[o]? = some (.inr (.inl (7, fl)))) (hf : fl[25]? = some none) (k : WS B E y cc mL rt d (pc + 3) lv (.int (S o 25) :: st) S Q) : WS B E y cc mL rt d pc lv (.ref (s_ad B o) :: st) S Q :=
  x_getI (T := TX7) (N := 26) (j := 25) hsh rfl iX7 (by decide) (by rw [hy]; exact sT_3 197 rfl rfl) hf hd k
theorem gX7_114 (hd : decode cc pc = .ok (.getfield 114, 3)) (hy : y.cls = RX7) (hsh : B.2.1[o]? = some (.inr (.inl (7, fl)))) (hf : fl[18]? = some none) (k : WS B E y cc mL rt d (pc + 3) lv (.int (S o 18) :: st) S Q) : WS B E y cc mL rt d pc lv (.ref (s_ad B o) :: st) S Q :=
  x_getI (T := TX7) (N := 26) (j := 18) hsh rfl iX7 (by decide) (by rw [hy]; exact sT_3 190 rfl rfl) hf hd k
theorem gX7_13 {r : Nat} (hd : decode cc pc = .ok (.getfield 13, 3)) (hy : y.cls = RX7) (hsh : B.2.1[o]? = some (.inr (.inl (7, fl)))) (hf : fl[2]? = some (some r)) (k : WS B E y cc mL rt d (pc + 3) lv (.ref (s_ad B r) :: st) S Q) : WS B E y cc mL rt d pc lv (.ref (s_ad B o) :: st) S Q :=
  x_getR (T := TX7) (N := 26) (j := 2) hsh rfl iX7 (by decide) (by rw [hy]; exact sT_3 174 rfl rfl) hf hd k
theorem gX7_17 {r : Nat} (hd : decode cc pc = .ok (.getfield 17, 3)) (hy : y.cls = RX7) (hsh : B.2.1[o]? = some (.inr (.inl (7, fl)))) (hf : fl[3]? = some (some r)) (k : WS B E y cc mL rt d (pc + 3) lv (.ref (s_ad B r) :: st) S Q) : WS B E y cc mL rt d pc lv (.ref (s_ad B o) :: st) S Q :=
  x_getR (T := TX7) (N := 26) (j := 3) hsh rfl iX7 (by decide) (by rw [hy]; exact sT_3 175 rfl rfl) hf hd k
theorem gX7_20 {r : Nat} (hd : decode cc pc = .ok (.getfield 20, 3)) (hy : y.cls = RX7) (hsh : B.2.1[o]? = some (.inr (.inl (7, fl)))) (hf : fl[4]? = some (some r)) (k : WS B E y cc mL rt d (pc + 3) lv (.ref (s_ad B r) :: st) S Q) : WS B E y cc mL rt d pc lv (.ref (s_ad B o) :: st) S Q :=
  x_getR (T := TX7) (N := 26) (j := 4) hsh rfl iX7 (by decide) (by rw [hy]; exact sT_3 176 rfl rfl) hf hd k
theorem gX7_23 {r : Nat} (hd : decode cc pc = .ok (.getfield 23, 3)) (hy : y.cls = RX7) (hsh : B.2.1[o]? = some (.inr (.inl (7, fl)))) (hf : fl[5]? = some (some r)) (k : WS B E y cc mL rt d (pc + 3) lv (.ref (s_ad B r) :: st) S Q) : WS B E y cc mL rt d pc lv (.ref (s_ad B o) :: st) S Q :=
  x_getR (T := TX7) (N := 26) (j := 5) hsh rfl iX7 (by decide) (by rw [hy]; exact sT_3 177 rfl rfl) hf hd k
theorem gX7_26 {r : Nat} (hd : decode cc pc = .ok (.getfield 26, 3)) (hy : y.cls = RX7) (hsh : B.2.1[o]? = some (.inr (.inl (7, fl)))) (hf : fl[6]? = some (some r)) (k : WS B E y cc mL rt d (pc + 3) lv (.ref (s_ad B r) :: st) S Q) : WS B E y cc mL rt d pc lv (.ref (s_ad B o) :: st) S Q :=
  x_getR (T := TX7) (N := 26) (j := 6) hsh rfl iX7 (by decide) (by rw [hy]; exact sT_3 178 rfl rfl) hf hd k
theorem gX7_29 {r : Nat} (hd : decode cc pc = .ok (.getfield 29, 3)) (hy : y.cls = RX7) (hsh : B.2.1[o]? = some (.inr (.inl (7, fl)))) (hf : fl[7]? = some (some r)) (k : WS B E y cc mL rt d (pc + 3) lv (.ref (s_ad B r) :: st) S Q) : WS B E y cc mL rt d pc lv (.ref (s_ad B o) :: st) S Q :=
  x_getR (T := TX7) (N := 26) (j := 7) hsh rfl iX7 (by decide) (by rw [hy]; exact sT_3 179 rfl rfl) hf hd k
theorem gX7_32 {r : Nat} (hd : decode cc pc = .ok (.getfield 32, 3)) (hy : y.cls = RX7) (hsh : B.2.1[o]? = some (.inr (.inl (7, fl)))) (hf : fl[8]? = some (some r)) (k : WS B E y cc mL rt d (pc + 3) lv (.ref (s_ad B r) :: st) S Q) : WS B E y cc mL rt d pc lv (.ref (s_ad B o) :: st) S Q :=
  x_getR (T := TX7) (N := 26) (j := 8) hsh rfl iX7 (by decide) (by rw [hy]; exact sT_3 180 rfl rfl) hf hd k
theorem gX7_35 {r : Nat} (hd : decode cc pc = .ok (.getfield 35, 3)) (hy : y.cls = RX7) (hsh : B.2.1[o]? = some (.inr (.inl (7, fl)))) (hf : fl[9]? = some (some r)) (k : WS B E y cc mL rt d (pc + 3) lv (.ref (s_ad B r) :: st) S Q) : WS B E y cc mL rt d pc lv (.ref (s_ad B o) :: st) S Q :=
  x_getR (T := TX7) (N := 26) (j := 9) hsh rfl iX7 (by decide) (by rw [hy]; exact sT_3 181 rfl rfl) hf hd k
theorem gX7_38 {r : Nat} (hd : decode cc pc = .ok (.getfield 38, 3)) (hy : y.cls = RX7) (hsh : B.2.1[o]? = some (.inr (.inl (7, fl)))) (hf : fl[12]? = some (some r)) (k : WS B E y cc mL rt d (pc + 3) lv (.ref (s_ad B r) :: st) S Q) : WS B E y cc mL rt d pc lv (.ref (s_ad B o) :: st) S Q :=
  x_getR (T := TX7) (N := 26) (j := 12) hsh rfl iX7 (by decide) (by rw [hy]; exact sT_3 184 rfl rfl) hf hd k
theorem gX7_41 {r : Nat} (hd : decode cc pc = .ok (.getfield 41, 3)) (hy : y.cls = RX7) (hsh : B.2.1[o]? = some (.inr (.inl (7, fl)))) (hf : fl[13]? = some (some r)) (k : WS B E y cc mL rt d (pc + 3) lv (.ref (s_ad B r) :: st) S Q) : WS B E y cc mL rt d pc lv (.ref (s_ad B o) :: st) S Q :=
  x_getR (T := TX7) (N := 26) (j := 13) hsh rfl iX7 (by decide) (by rw [hy]; exact sT_3 185 rfl rfl) hf hd k
theorem gX7_44 {r : Nat} (hd : decode cc pc = .ok (.getfield 44, 3)) (hy : y.cls = RX7) (hsh : B.2.1[o]? = some (.inr (.inl (7, fl)))) (hf : fl[14]? = some (some r)) (k : WS B E y cc mL rt d (pc + 3) lv (.ref (s_ad B r) :: st) S Q) : WS B E y cc mL rt d pc lv (.ref (s_ad B o) :: st) S Q :=
  x_getR (T := TX7) (N := 26) (j := 14) hsh rfl iX7 (by decide) (by rw [hy]; exact sT_3 186 rfl rfl) hf hd k
theorem gX7_47 {r : Nat} (hd : decode cc pc = .ok (.getfield 47, 3)) (hy : y.cls = RX7) (hsh : B.2.1[o]? = some (.inr (.inl (7, fl)))) (hf : fl[15]? = some (some r)) (k : WS B E y cc mL rt d (pc + 3) lv (.ref (s_ad B r) :: st) S Q) : WS B E y cc mL rt d pc lv (.ref (s_ad B o) :: st) S Q :=
  x_getR (T := TX7) (N := 26) (j := 15) hsh rfl iX7 (by decide) (by rw [hy]; exact sT_3 187 rfl rfl) hf hd k
theorem gX7_50 {r : Nat} (hd : decode cc pc = .ok (.getfield 50, 3)) (hy : y.cls = RX7) (hsh : B.2.1[o]? = some (.inr (.inl (7, fl)))) (hf : fl[17]? = some (some r)) (k : WS B E y cc mL rt d (pc + 3) lv (.ref (s_ad B r) :: st) S Q) : WS B E y cc mL rt d pc lv (.ref (s_ad B o) :: st) S Q :=
  x_getR (T := TX7) (N := 26) (j := 17) hsh rfl iX7 (by decide) (by rw [hy]; exact sT_3 189 rfl rfl) hf hd k
theorem gX7_53 {r : Nat} (hd : decode cc pc = .ok (.getfield 53, 3)) (hy : y.cls = RX7) (hsh : B.2.1[o]? = some (.inr (.inl (7, fl)))) (hf : fl[19]? = some (some r)) (k : WS B E y cc mL rt d (pc + 3) lv (.ref (s_ad B r) :: st) S Q) : WS B E y cc mL rt d pc lv (.ref (s_ad B o) :: st) S Q :=
  x_getR (T := TX7) (N := 26) (j := 19) hsh rfl iX7 (by decide) (by rw [hy]; exact sT_3 191 rfl rfl) hf hd k
theorem gX7_56 {r : Nat} (hd : decode cc pc = .ok (.getfield 56, 3)) (hy : y.cls = RX7) (hsh : B.2.1[o]? = some (.inr (.inl (7, fl)))) (hf : fl[20]? = some (some r)) (k : WS B E y cc mL rt d (pc + 3) lv (.ref (s_ad B r) :: st) S Q) : WS B E y cc mL rt d pc lv (.ref (s_ad B o) :: st) S Q :=
  x_getR (T := TX7) (N := 26) (j := 20) hsh rfl iX7 (by decide) (by rw [hy]; exact sT_3 192 rfl rfl) hf hd k
theorem gX7_59 {r : Nat} (hd : decode cc pc = .ok (.getfield 59, 3)) (hy : y.cls = RX7) (hsh : B.2.1[o]? = some (.inr (.inl (7, fl)))) (hf : fl[21]? = some (some r)) (k : WS B E y cc mL rt d (pc + 3) lv (.ref (s_ad B r) :: st) S Q) : WS B E y cc mL rt d pc lv (.ref (s_ad B o) :: st) S Q :=
  x_getR (T := TX7) (N := 26) (j := 21) hsh rfl iX7 (by decide) (by rw [hy]; exact sT_3 193 rfl rfl) hf hd k
theorem gX7_62 {r : Nat} (hd : decode cc pc = .ok (.getfield 62, 3)) (hy : y.cls = RX7) (hsh : B.2.1[o]? = some (.inr (.inl (7, fl)))) (hf : fl[22]? = some (some r)) (k : WS B E y cc mL rt d (pc + 3) lv (.ref (s_ad B r) :: st) S Q) : WS B E y cc mL rt d pc lv (.ref (s_ad B o) :: st) S Q :=
  x_getR (T := TX7) (N := 26) (j := 22) hsh rfl iX7 (by decide) (by rw [hy]; exact sT_3 194 rfl rfl) hf hd k
theorem gX7_65 {r : Nat} (hd : decode cc pc = .ok (.getfield 65, 3)) (hy : y.cls = RX7) (hsh : B.2.1[o]? = some (.inr (.inl (7, fl)))) (hf : fl[23]? = some (some r)) (k : WS B E y cc mL rt d (pc + 3) lv (.ref (s_ad B r) :: st) S Q) : WS B E y cc mL rt d pc lv (.ref (s_ad B o) :: st) S Q :=
  x_getR (T := TX7) (N := 26) (j := 23) hsh rfl iX7 (by decide) (by rw [hy]; exact sT_3 195 rfl rfl) hf hd k
theorem gX7_68 {r : Nat} (hd : decode cc pc = .ok (.getfield 68, 3)) (hy : y.cls = RX7) (hsh : B.2.1[o]? = some (.inr (.inl (7, fl)))) (hf : fl[24]? = some (some r)) (k : WS B E y cc mL rt d (pc + 3) lv (.ref (s_ad B r) :: st) S Q) : WS B E y cc mL rt d pc lv (.ref (s_ad B o) :: st) S Q :=
  x_getR (T := TX7) (N := 26) (j := 24) hsh rfl iX7 (by decide) (by rw [hy]; exact sT_3 196 rfl rfl) hf hd k
theorem gX7_7 {r : Nat} (hd : decode cc pc = .ok (.getfield 7, 3)) (hy : y.cls = RX7) (hsh : B.2.1[o]? = some (.inr (.inl (7, fl)))) (hf : fl[0]? = some (some r)) (k : WS B E y cc mL rt d (pc + 3) lv (.ref (s_ad B r) :: st) S Q) : WS B E y cc mL rt d pc lv (.ref (s_ad B o) :: st) S Q :=
  x_getR (T := TX7) (N := 26) (j := 0) hsh rfl iX7 (by decide) (by rw [hy]; exact sT_3 172 rfl rfl) hf hd k
theorem gX7_82 (hd : decode cc pc = .ok (.getfield 82, 3)) (hy : y.cls = RX7) (hsh : B.2.1[o]? = some (.inr (.inl (7, fl)))) (hf : fl[1]? = some none) (k : WS B E y cc mL rt d (pc + 3) lv (.int (S o 1) :: st) S Q) : WS B E y cc mL rt d pc lv (.ref (s_ad B o) :: st) S Q :=
  x_getI (T := TX7) (N := 26) (j := 1) hsh rfl iX7 (by decide) (by rw [hy]; exact sT_3 173 rfl rfl) hf hd k
theorem gX7_86 (hd : decode cc pc = .ok (.getfield 86, 3)) (hy : y.cls = RX7) (hsh : B.2.1[o]? = some (.inr (.inl (7, fl)))) (hf : fl[10]? = some none) (k : WS B E y cc mL rt d (pc + 3) lv (.int (S o 10) :: st) S Q) : WS B E y cc mL rt d pc lv (.ref (s_ad B o) :: st) S Q :=
  x_getI (T := TX7) (N := 26) (j := 10) hsh rfl iX7 (by decide) (by rw [hy]; exact sT_3 182 rfl rfl) hf hd k
theorem gX7_93 (hd : decode cc pc = .ok (.getfield 93, 3)) (hy : y.cls = RX7) (hsh : B.2.1[o]? = some (.inr (.inl (7, fl)))) (hf : fl[11]? = some none) (k : WS B E y cc mL rt d (pc + 3) lv (.int (S o 11) :: st) S Q) : WS B E y cc mL rt d pc lv (.ref (s_ad B o) :: st) S Q :=
  x_getI (T := TX7) (N := 26) (j := 11) hsh rfl iX7 (by decide) (by rw [hy]; exact sT_3 183 rfl rfl) hf hd k
theorem pX0_37 {x0 : Int32} (hd : decode cc pc = .ok (.putfield 37, 3)) (hy : y.cls = RX0) (hsh : B.2.1[o]? = some (.inr (.inl (0, fl)))) (hf : fl[1]? = some none) (k : WS B E y cc mL rt d (pc + 3) lv st (s_put S o 1 x0) Q) : WS B E y cc mL rt d pc lv (.int x0 :: .ref (s_ad B o) :: st) S Q :=
  x_putI (T := TX0) (N := 9) (j := 1) (ty := .int) hsh rfl iX0 tyX0_ok nmX0 (by decide) (by rw [hy]; exact sT_1 97 rfl rfl) rfl (by decide +kernel) hf rfl rfl hd k
theorem pX0_41 {x0 : Int32} (hd : decode cc pc = .ok (.putfield 41, 3)) (hy : y.cls = RX0) (hsh : B.2.1[o]? = some (.inr (.inl (0, fl)))) (hf : fl[2]? = some none) (k : WS B E y cc mL rt d (pc + 3) lv st (s_put S o 2 x0) Q) : WS B E y cc mL rt d pc lv (.int x0 :: .ref (s_ad B o) :: st) S Q :=
  x_putI (T := TX0) (N := 9) (j := 2) (ty := .int) hsh rfl iX0 tyX0_ok nmX0 (by decide) (by rw [hy]; exact sT_1 99 rfl rfl) rfl (by decide +kernel) hf rfl rfl hd k
theorem pX0_42 {x0 : Int32} (hd : decode cc pc = .ok (.putfield 42, 3)) (hy : y.cls = RX0) (hsh : B.2.1[o]? = some (.inr (.inl (0, fl)))) (hf : fl[3]? = some none) (k : WS B E y cc mL rt d (pc + 3) lv st (s_put S o 3 x0) Q) : WS B E y cc mL rt d pc lv (.int x0 :: .ref (s_ad B o) :: st) S Q :=
  x_putI (T := TX0) (N := 9) (j := 3) (ty := .int) hsh rfl iX0 tyX0_ok nmX0 (by decide) (by rw [hy]; exact sT_1 101 rfl rfl) rfl (by decide +kernel) hf rfl rfl hd k
theorem pX1_20 {x0 : Int32} (hd : decode cc pc = .ok (.putfield 20, 3)) (hy : y.cls = RX1) (hsh : B.2.1[o]? = some (.inr (.inl (1, fl)))) (hf : fl[2]? = some none) (k : WS B E y cc mL rt d (pc + 3) lv st (s_put S o 2 x0) Q) : WS B E y cc mL rt d pc lv (.int x0 :: .ref (s_ad B o) :: st) S Q :=
  x_putI (T := TX1) (N := 3) (j := 2) (ty := .int) hsh rfl iX1 tyX1_ok nmX1 (by decide) (by rw [hy]; exact sT_1 143 rfl rfl) rfl (by decide +kernel) hf rfl rfl hd k
theorem pX1_24 {x0 : Int32} (hd : decode cc pc = .ok (.putfield 24, 3)) (hy : y.cls = RX1) (hsh : B.2.1[o]? = some (.inr (.inl (1, fl)))) (hf : fl[1]? = some none) (k : WS B E y cc mL rt d (pc + 3) lv st (s_put S o 1 x0) Q) : WS B E y cc mL rt d pc lv (.int x0 :: .ref (s_ad B o) :: st) S Q :=
  x_putI (T := TX1) (N := 3) (j := 1) (ty := .int) hsh rfl iX1 tyX1_ok nmX1 (by decide) (by rw [hy]; exact sT_1 142 rfl rfl) rfl (by decide +kernel) hf rfl rfl hd k
theorem pX2_21 {x0 : Int32} (hd : decode cc pc = .ok (.putfield 21, 3)) (hy : y.cls = RX2) (hsh : B.2.1[o]? = some (.inr (.inl (2, fl)))) (hf : fl[0]? = some none) (k : WS B E y cc mL rt d (pc + 3) lv st (s_put S o 0 x0) Q) : WS B E y cc mL rt d pc lv (.int x0 :: .ref (s_ad B o) :: st) S Q :=
  x_putI (T := TX2) (N := 8) (j := 0) (ty := .int) hsh rfl iX2 tyX2_ok nmX2 (by decide) (by rw [hy]; exact sT_1 50 rfl rfl) rfl (by decide +kernel) hf rfl rfl hd k
theorem pX2_25 {x0 : Int32} (hd : decode cc pc = .ok (.putfield 25, 3)) (hy : y.cls = RX2) (hsh : B.2.1[o]? = some (.inr (.inl (2, fl)))) (hf : fl[1]? = some none) (k : WS B E y cc mL rt d (pc + 3) lv st (s_put S o 1 x0) Q) : WS B E y cc mL rt d pc lv (.int x0 :: .ref (s_ad B o) :: st) S Q :=
  x_putI (T := TX2) (N := 8) (j := 1) (ty := .int) hsh rfl iX2 tyX2_ok nmX2 (by decide) (by rw [hy]; exact sT_1 54 rfl rfl) rfl (by decide +kernel) hf rfl rfl hd k
theorem pX2_28 {x0 : Int32} (hd : decode cc pc = .ok (.putfield 28, 3)) (hy : y.cls = RX2) (hsh : B.2.1[o]? = some (.inr (.inl (2, fl)))) (hf : fl[2]? = some none) (k : WS B E y cc mL rt d (pc + 3) lv st (s_put S o 2 x0) Q) : WS B E y cc mL rt d pc lv (.int x0 :: .ref (s_ad B o) :: st) S Q :=
  x_putI (T := TX2) (N := 8) (j := 2) (ty := .int) hsh rfl iX2 tyX2_ok nmX2 (by decide) (by rw [hy]; exact sT_1 55 rfl rfl) rfl (by decide +kernel) hf rfl rfl hd k
theorem pX2_31 {x0 : Int32} (hd : decode cc pc = .ok (.putfield 31, 3)) (hy : y.cls = RX2) (hsh : B.2.1[o]? = some (.inr (.inl (2, fl)))) (hf : fl[3]? = some none) (k : WS B E y cc mL rt d (pc + 3) lv st (s_put S o 3 x0) Q) : WS B E y cc mL rt d pc lv (.int x0 :: .ref (s_ad B o) :: st) S Q :=
  x_putI (T := TX2) (N := 8) (j := 3) (ty := .int) hsh rfl iX2 tyX2_ok nmX2 (by decide) (by rw [hy]; exact sT_1 57 rfl rfl) rfl (by decide +kernel) hf rfl rfl hd k
theorem pX2_34 {x0 : Int32} (hd : decode cc pc = .ok (.putfield 34, 3)) (hy : y.cls = RX2) (hsh : B.2.1[o]? = some (.inr (.inl (2, fl)))) (hf : fl[4]? = some none) (k : WS B E y cc mL rt d (pc + 3) lv st (s_put S o 4 x0) Q) : WS B E y cc mL rt d pc lv (.int x0 :: .ref (s_ad B o) :: st) S Q :=
  x_putI (T := TX2) (N := 8) (j := 4) (ty := .int) hsh rfl iX2 tyX2_ok nmX2 (by decide) (by rw [hy]; exact sT_1 59 rfl rfl) rfl (by decide +kernel) hf rfl rfl hd k
theorem pX3_29 {x0 : Int32} (hd : decode cc pc = .ok (.putfield 29, 3)) (hy : y.cls = RX3) (hsh : B.2.1[o]? = some (.inr (.inl (3, fl)))) (hf : fl[5]? = some none) (k : WS B E y cc mL rt d (pc + 3) lv st (s_put S o 5 x0) Q) : WS B E y cc mL rt d pc lv (.int x0 :: .ref (s_ad B o) :: st) S Q :=
  x_putI (T := TX3) (N := 6) (j := 5) (ty := .int) hsh rfl iX3 tyX3_ok nmX3 (by decide) (by rw [hy]; exact sT_1 187 rfl rfl) rfl (by decide +kernel) hf rfl rfl hd k
theorem pX3_33 {x0 : Int32} (hd : decode cc pc = .ok (.putfield 33, 3)) (hy : y.cls = RX3) (hsh : B.2.1[o]? = some (.inr (.inl (3, fl)))) (hf : fl[3]? = some none) (k : WS B E y cc mL rt d (pc + 3) lv st (s_put S o 3 x0) Q) : WS B E y cc mL rt d pc lv (.int x0 :: .ref (s_ad B o) :: st) S Q :=
  x_putI (T := TX3) (N := 6) (j := 3) (ty := .int) hsh rfl iX3 tyX3_ok nmX3 (by decide) (by rw [hy]; exact sT_1 184 rfl rfl) rfl (by decide +kernel) hf rfl rfl hd k
theorem pX3_56 {x0 : Int32} (hd : decode cc pc = .ok (.putfield 56, 3)) (hy : y.cls = RX3) (hsh : B.2.1[o]? = some (.inr (.inl (3, fl)))) (hf : fl[2]? = some none) (k : WS B E y cc mL rt d (pc + 3) lv st (s_put S o 2 x0) Q) : WS B E y cc mL rt d pc lv (.int x0 :: .ref (s_ad B o) :: st) S Q :=
  x_putI (T := TX3) (N := 6) (j := 2) (ty := .int) hsh rfl iX3 tyX3_ok nmX3 (by decide) (by rw [hy]; exact sT_1 183 rfl rfl) rfl (by decide +kernel) hf rfl rfl hd k
theorem pX4_24 {x0 : Int32} (hd : decode cc pc = .ok (.putfield 24, 3)) (hy : y.cls = RX4) (hsh : B.2.1[o]? = some (.inr (.inl (4, fl)))) (hf : fl[4]? = some none) (k : WS B E y cc mL rt d (pc + 3) lv st (s_put S o 4 x0) Q) : WS B E y cc mL rt d pc lv (.int x0 :: .ref (s_ad B o) :: st) S Q :=
  x_putI (T := TX4) (N := 5) (j := 4) (ty := .int) hsh rfl iX4 tyX4_ok nmX4 (by decide) (by rw [hy]; exact sT_1 162 rfl rfl) rfl (by decide +kernel) hf rfl rfl hd k
theorem pX5_19 {x0 : Int32} (hd : decode cc pc = .ok (.putfield 19, 3)) (hy : y.cls = RX5) (hsh : B.2.1[o]? = some (.inr (.inl (5, fl)))) (hf : fl[2]? = some none) (k : WS B E y cc mL rt d (pc + 3) lv st (s_put S o 2 x0) Q) : WS B E y cc mL rt d pc lv (.int x0 :: .ref (s_ad B o) :: st) S Q :=
  x_putI (T := TX5) (N := 4) (j := 2) (ty := .int) hsh rfl iX5 tyX5_ok nmX5 (by decide) (by rw [hy]; exact sT_1 31 rfl rfl) rfl (by decide +kernel) hf rfl rfl hd k
theorem pX5_28 {x0 : Int32} (hd : decode cc pc = .ok (.putfield 28, 3)) (hy : y.cls = RX5) (hsh : B.2.1[o]? = some (.inr (.inl (5, fl)))) (hf : fl[3]? = some none) (k : WS B E y cc mL rt d (pc + 3) lv st (s_put S o 3 x0) Q) : WS B E y cc mL rt d pc lv (.int x0 :: .ref (s_ad B o) :: st) S Q :=
  x_putI (T := TX5) (N := 4) (j := 3) (ty := .int) hsh rfl iX5 tyX5_ok nmX5 (by decide) (by rw [hy]; exact sT_1 32 rfl rfl) rfl (by decide +kernel) hf rfl rfl hd k
theorem pX6_167 {x0 : Int32} (hd : decode cc pc = .ok (.putfield 167, 3)) (hy : y.cls = RX6) (hsh : B.2.1[o]? = some (.inr (.inl (0, fl)))) (hf : fl[1]? = some none) (k : WS B E y cc mL rt d (pc + 3) lv st (s_put S o 1 x0) Q) : WS B E y cc mL rt d pc lv (.int x0 :: .ref (s_ad B o) :: st) S Q :=
  x_putI (T := TX0) (N := 9) (j := 1) (ty := .int) hsh rfl iX0 tyX0_ok nmX0 (by decide) (by rw [hy]; exact sT_1 98 rfl rfl) rfl (by decide +kernel) hf rfl rfl hd k
theorem pX6_219 {x0 : Int32} (hd : decode cc pc = .ok (.putfield 219, 3)) (hy : y.cls = RX6) (hsh : B.2.1[o]? = some (.inr (.inl (4, fl)))) (hf : fl[4]? = some none) (k : WS B E y cc mL rt d (pc + 3) lv st (s_put S o 4 x0) Q) : WS B E y cc mL rt d pc lv (.int x0 :: .ref (s_ad B o) :: st) S Q :=
  x_putI (T := TX4) (N := 5) (j := 4) (ty := .int) hsh rfl iX4 tyX4_ok nmX4 (by decide) (by rw [hy]; exact sT_1 163 rfl rfl) rfl (by decide +kernel) hf rfl rfl hd k
theorem pX6_243 {x0 : Int32} (hd : decode cc pc = .ok (.putfield 243, 3)) (hy : y.cls = RX6) (hsh : B.2.1[o]? = some (.inr (.inl (6, fl)))) (hf : fl[8]? = some none) (k : WS B E y cc mL rt d (pc + 3) lv st (s_put S o 8 x0) Q) : WS B E y cc mL rt d pc lv (.int x0 :: .ref (s_ad B o) :: st) S Q :=
  x_putI (T := TX6) (N := 11) (j := 8) (ty := .int) hsh rfl iX6 tyX6_ok nmX6 (by decide) (by rw [hy]; exact sT_2 97 rfl rfl) rfl (by decide +kernel) hf rfl rfl hd k
theorem pX7_108 {x0 : Int32} (hd : decode cc pc = .ok (.putfield 108, 3)) (hy : y.cls = RX7) (hsh : B.2.1[o]? = some (.inr (.inl (7, fl)))) (hf : fl[16]? = some none) (k : WS B E y cc mL rt d (pc + 3) lv st (s_put S o 16 x0) Q) : WS B E y cc mL rt d pc lv (.int x0 :: .ref (s_ad B o) :: st) S Q :=
  x_putI (T := TX7) (N := 26) (j := 16) (ty := .int) hsh rfl iX7 tyX7_ok nmX7 (by decide) (by rw [hy]; exact sT_3 188 rfl rfl) rfl (by decide +kernel) hf rfl rfl hd k
theorem pX7_111 {x0 : Int32} (hd : decode cc pc = .ok (.putfield 111, 3)) (hy : y.cls = RX7) (hsh : B.2.1[o]? = some (.inr (.inl (7, fl)))) (hf : fl[25]? = some none) (k : WS B E y cc mL rt d (pc + 3) lv st (s_put S o 25 x0) Q) : WS B E y cc mL rt d pc lv (.int x0 :: .ref (s_ad B o) :: st) S Q :=
  x_putI (T := TX7) (N := 26) (j := 25) (ty := .int) hsh rfl iX7 tyX7_ok nmX7 (by decide) (by rw [hy]; exact sT_3 197 rfl rfl) rfl (by decide +kernel) hf rfl rfl hd k
theorem pX7_114 {x0 : Int32} (hd : decode cc pc = .ok (.putfield 114, 3)) (hy : y.cls = RX7) (hsh : B.2.1[o]? = some (.inr (.inl (7, fl)))) (hf : fl[18]? = some none) (k : WS B E y cc mL rt d (pc + 3) lv st (s_put S o 18 x0) Q) : WS B E y cc mL rt d pc lv (.int x0 :: .ref (s_ad B o) :: st) S Q :=
  x_putI (T := TX7) (N := 26) (j := 18) (ty := .int) hsh rfl iX7 tyX7_ok nmX7 (by decide) (by rw [hy]; exact sT_3 190 rfl rfl) rfl (by decide +kernel) hf rfl rfl hd k
theorem pX7_82 {x0 : Int32} (hd : decode cc pc = .ok (.putfield 82, 3)) (hy : y.cls = RX7) (hsh : B.2.1[o]? = some (.inr (.inl (7, fl)))) (hf : fl[1]? = some none) (k : WS B E y cc mL rt d (pc + 3) lv st (s_put S o 1 x0) Q) : WS B E y cc mL rt d pc lv (.int x0 :: .ref (s_ad B o) :: st) S Q :=
  x_putI (T := TX7) (N := 26) (j := 1) (ty := .int) hsh rfl iX7 tyX7_ok nmX7 (by decide) (by rw [hy]; exact sT_3 173 rfl rfl) rfl (by decide +kernel) hf rfl rfl hd k
theorem pX7_86 {x0 : Int32} (hd : decode cc pc = .ok (.putfield 86, 3)) (hy : y.cls = RX7) (hsh : B.2.1[o]? = some (.inr (.inl (7, fl)))) (hf : fl[10]? = some none) (k : WS B E y cc mL rt d (pc + 3) lv st (s_put S o 10 x0) Q) : WS B E y cc mL rt d pc lv (.int x0 :: .ref (s_ad B o) :: st) S Q :=
  x_putI (T := TX7) (N := 26) (j := 10) (ty := .int) hsh rfl iX7 tyX7_ok nmX7 (by decide) (by rw [hy]; exact sT_3 182 rfl rfl) rfl (by decide +kernel) hf rfl rfl hd k
theorem pX7_93 {x0 : Int32} (hd : decode cc pc = .ok (.putfield 93, 3)) (hy : y.cls = RX7) (hsh : B.2.1[o]? = some (.inr (.inl (7, fl)))) (hf : fl[11]? = some none) (hn : narrow .boolean (.int x0) = .int x0) (hfit : fits .boolean (.int x0) = true) (k : WS B E y cc mL rt d (pc + 3) lv st (s_put S o 11 x0) Q) : WS B E y cc mL rt d pc lv (.int x0 :: .ref (s_ad B o) :: st) S Q :=
  x_putI (T := TX7) (N := 26) (j := 11) (ty := .boolean) hsh rfl iX7 tyX7_ok nmX7 (by decide) (by rw [hy]; exact sT_3 183 rfl rfl) rfl (by decide +kernel) hf hn hfit hd k
end XL
end
section
section XL
variable {B : sB} {E : State → Prop} {y : MethodName} {cc : ByteArray} {mL : Nat} {rt : Option FieldType} {d d2 pc o : Nat} {lv : List (Nat × Value)} {st : List Value} {S : sSt} {Q Q2 : Option Value → sSt → Prop} {fl : List (Option Nat)}
theorem mX6_back : sM yX6_back cX6_back 1 (some .int) 0 := ⟨(sT_3 153 rfl rfl), (sT_1 1 rfl rfl), by decide +kernel, by decide +kernel, by decide⟩
theorem vX6_back : Cond.instanceMethod yX6_back ∈ sT ∧ Cond.selects yX6_back.cls yX6_back yX6_back ∈ sT := ⟨(sT_3 151 rfl rfl), (sT_3 152 rfl rfl)⟩
theorem mX6_browning : sM yX6_browning cX6_browning 4 (some .int) 3 := ⟨(sT_2 215 rfl rfl), (sT_1 1 rfl rfl), by decide +kernel, by decide +kernel, by decide⟩
theorem sX6_browning : Cond.static yX6_browning ∈ sT := (sT_2 214 rfl rfl)
theorem mX6_content : sM yX6_content cX6_content 1 (some .int) 0 := ⟨(sT_3 26 rfl rfl), (sT_1 1 rfl rfl), by decide +kernel, by decide +kernel, by decide⟩
theorem vX6_content : Cond.instanceMethod yX6_content ∈ sT ∧ Cond.selects yX6_content.cls yX6_content yX6_content ∈ sT := ⟨(sT_3 24 rfl rfl), (sT_3 25 rfl rfl)⟩
theorem mX6_count : sM yX6_count cX6_count 2 (some .int) 1 := ⟨(sT_3 157 rfl rfl), (sT_1 1 rfl rfl), by decide +kernel, by decide +kernel, by decide⟩
theorem vX6_count : Cond.instanceMethod yX6_count ∈ sT ∧ Cond.selects yX6_count.cls yX6_count yX6_count ∈ sT := ⟨(sT_3 155 rfl rfl), (sT_3 156 rfl rfl)⟩
theorem mX6_draw : sM yX6_draw cX6_draw 4 (some .int) 2 := ⟨(sT_3 130 rfl rfl), (sT_1 1 rfl rfl), by decide +kernel, by decide +kernel, by decide⟩
theorem sX6_draw : Cond.static yX6_draw ∈ sT := (sT_3 129 rfl rfl)
theorem mX6_falls : sM yX6_falls cX6_falls 2 (some .int) 1 := ⟨(sT_3 9 rfl rfl), (sT_1 1 rfl rfl), by decide +kernel, by decide +kernel, by decide⟩
theorem vX6_falls : Cond.instanceMethod yX6_falls ∈ sT ∧ Cond.selects yX6_falls.cls yX6_falls yX6_falls ∈ sT := ⟨(sT_3 7 rfl rfl), (sT_3 8 rfl rfl)⟩
theorem mX6_fault : sM yX6_fault cX6_fault 1 (some .int) 0 := ⟨(sT_2 139 rfl rfl), (sT_1 1 rfl rfl), by decide +kernel, by decide +kernel, by decide⟩
theorem vX6_fault : Cond.instanceMethod yX6_fault ∈ sT ∧ Cond.selects yX6_fault.cls yX6_fault yX6_fault ∈ sT := ⟨(sT_2 137 rfl rfl), (sT_2 138 rfl rfl)⟩
theorem mX6_forget : sM yX6_forget cX6_forget 2 (some .int) 0 := ⟨(sT_3 102 rfl rfl), (sT_1 1 rfl rfl), by decide +kernel, by decide +kernel, by decide⟩
theorem vX6_forget : Cond.instanceMethod yX6_forget ∈ sT ∧ Cond.selects yX6_forget.cls yX6_forget yX6_forget ∈ sT := ⟨(sT_3 100 rfl rfl), (sT_3 101 rfl rfl)⟩
theorem mX6_greatestDivisor : sM yX6_greatestDivisor cX6_greatestDivisor 3 (some .int) 2 := ⟨(sT_3 123 rfl rfl), (sT_1 1 rfl rfl), by decide +kernel, by decide +kernel, by decide⟩
theorem sX6_greatestDivisor : Cond.static yX6_greatestDivisor ∈ sT := (sT_3 122 rfl rfl)
theorem mX6_guest : sM yX6_guest cX6_guest 3 (some .int) 2 := ⟨(sT_2 147 rfl rfl), (sT_1 1 rfl rfl), by decide +kernel, by decide +kernel, by decide⟩
theorem vX6_guest : Cond.instanceMethod yX6_guest ∈ sT ∧ Cond.selects yX6_guest.cls yX6_guest yX6_guest ∈ sT := ⟨(sT_2 145 rfl rfl), (sT_2 146 rfl rfl)⟩
theorem mX6_harm : sM yX6_harm cX6_harm 2 (some .int) 1 := ⟨(sT_3 57 rfl rfl), (sT_1 1 rfl rfl), by decide +kernel, by decide +kernel, by decide⟩
theorem vX6_harm : Cond.instanceMethod yX6_harm ∈ sT ∧ Cond.selects yX6_harm.cls yX6_harm yX6_harm ∈ sT := ⟨(sT_3 55 rfl rfl), (sT_3 56 rfl rfl)⟩
theorem mX6_hot : sM yX6_hot cX6_hot 5 (some .int) 1 := ⟨(sT_3 106 rfl rfl), (sT_1 1 rfl rfl), by decide +kernel, by decide +kernel, by decide⟩
theorem vX6_hot : Cond.instanceMethod yX6_hot ∈ sT ∧ Cond.selects yX6_hot.cls yX6_hot yX6_hot ∈ sT := ⟨(sT_3 104 rfl rfl), (sT_3 105 rfl rfl)⟩
theorem mX6_isGuest : sM yX6_isGuest cX6_isGuest 2 (some .boolean) 1 := ⟨(sT_2 151 rfl rfl), (sT_1 1 rfl rfl), by decide +kernel, by decide +kernel, by decide⟩
theorem vX6_isGuest : Cond.instanceMethod yX6_isGuest ∈ sT ∧ Cond.selects yX6_isGuest.cls yX6_isGuest yX6_isGuest ∈ sT := ⟨(sT_2 150 rfl rfl), (sT_p 5 rfl rfl)⟩
theorem mX6_isKnob : sM yX6_isKnob cX6_isKnob 1 (some .boolean) 1 := ⟨(sT_2 56 rfl rfl), (sT_1 1 rfl rfl), by decide +kernel, by decide +kernel, by decide⟩
theorem sX6_isKnob : Cond.static yX6_isKnob ∈ sT := (sT_2 55 rfl rfl)
theorem mX6_isLane : sM yX6_isLane cX6_isLane 1 (some .boolean) 1 := ⟨(sT_2 171 rfl rfl), (sT_1 1 rfl rfl), by decide +kernel, by decide +kernel, by decide⟩
theorem sX6_isLane : Cond.static yX6_isLane ∈ sT := (sT_2 170 rfl rfl)
theorem mX6_keep : sM yX6_keep cX6_keep 1 (some .int) 0 := ⟨(sT_3 149 rfl rfl), (sT_1 1 rfl rfl), by decide +kernel, by decide +kernel, by decide⟩
theorem vX6_keep : Cond.instanceMethod yX6_keep ∈ sT ∧ Cond.selects yX6_keep.cls yX6_keep yX6_keep ∈ sT := ⟨(sT_3 147 rfl rfl), (sT_3 148 rfl rfl)⟩
theorem mX6_knob : sM yX6_knob cX6_knob 3 (some .int) 1 := ⟨(sT_2 223 rfl rfl), (sT_1 1 rfl rfl), by decide +kernel, by decide +kernel, by decide⟩
theorem vX6_knob : Cond.instanceMethod yX6_knob ∈ sT ∧ Cond.selects yX6_knob.cls yX6_knob yX6_knob ∈ sT := ⟨(sT_2 221 rfl rfl), (sT_2 222 rfl rfl)⟩
theorem mX6_knobFor : sM yX6_knobFor cX6_knobFor 5 (some .int) 2 := ⟨(sT_3 35 rfl rfl), (sT_1 1 rfl rfl), by decide +kernel, by decide +kernel, by decide⟩
theorem vX6_knobFor : Cond.instanceMethod yX6_knobFor ∈ sT ∧ Cond.selects yX6_knobFor.cls yX6_knobFor yX6_knobFor ∈ sT := ⟨(sT_3 33 rfl rfl), (sT_3 34 rfl rfl)⟩
theorem mX6_lay : sM yX6_lay cX6_lay 1 (some .int) 0 := ⟨(sT_2 143 rfl rfl), (sT_1 1 rfl rfl), by decide +kernel, by decide +kernel, by decide⟩
theorem vX6_lay : Cond.instanceMethod yX6_lay ∈ sT ∧ Cond.selects yX6_lay.cls yX6_lay yX6_lay ∈ sT := ⟨(sT_2 141 rfl rfl), (sT_2 142 rfl rfl)⟩
theorem mX6_left : sM yX6_left cX6_left 7 (some .int) 3 := ⟨(sT_3 116 rfl rfl), (sT_1 1 rfl rfl), by decide +kernel, by decide +kernel, by decide⟩
theorem vX6_left : Cond.instanceMethod yX6_left ∈ sT ∧ Cond.selects yX6_left.cls yX6_left yX6_left ∈ sT := ⟨(sT_3 114 rfl rfl), (sT_3 115 rfl rfl)⟩
theorem mX6_momentsThrough : sM yX6_momentsThrough cX6_momentsThrough 2 (some .int) 2 := ⟨(sT_3 12 rfl rfl), (sT_1 1 rfl rfl), by decide +kernel, by decide +kernel, by decide⟩
theorem sX6_momentsThrough : Cond.static yX6_momentsThrough ∈ sT := (sT_3 11 rfl rfl)
theorem mX6_morning : sM yX6_morning cX6_morning 5 (some .int) 3 := ⟨(sT_3 127 rfl rfl), (sT_1 1 rfl rfl), by decide +kernel, by decide +kernel, by decide⟩
theorem vX6_morning : Cond.instanceMethod yX6_morning ∈ sT ∧ Cond.selects yX6_morning.cls yX6_morning yX6_morning ∈ sT := ⟨(sT_3 125 rfl rfl), (sT_3 126 rfl rfl)⟩
theorem mX6_often : sM yX6_often cX6_often 5 (some .int) 2 := ⟨(sT_3 49 rfl rfl), (sT_1 1 rfl rfl), by decide +kernel, by decide +kernel, by decide⟩
theorem vX6_often : Cond.instanceMethod yX6_often ∈ sT ∧ Cond.selects yX6_often.cls yX6_often yX6_often ∈ sT := ⟨(sT_3 47 rfl rfl), (sT_3 48 rfl rfl)⟩
theorem mX6_pass : sM yX6_pass cX6_pass 4 (some .int) 1 := ⟨(sT_2 203 rfl rfl), (sT_1 1 rfl rfl), by decide +kernel, by decide +kernel, by decide⟩
theorem vX6_pass : Cond.instanceMethod yX6_pass ∈ sT ∧ Cond.selects yX6_pass.cls yX6_pass yX6_pass ∈ sT := ⟨(sT_2 201 rfl rfl), (sT_2 202 rfl rfl)⟩
theorem mX6_putIn : sM yX6_putIn cX6_putIn 3 (some .int) 2 := ⟨(sT_2 168 rfl rfl), (sT_1 1 rfl rfl), by decide +kernel, by decide +kernel, by decide⟩
theorem vX6_putIn : Cond.instanceMethod yX6_putIn ∈ sT ∧ Cond.selects yX6_putIn.cls yX6_putIn yX6_putIn ∈ sT := ⟨(sT_2 166 rfl rfl), (sT_2 167 rfl rfl)⟩
theorem mX6_refusalToGoIn : sM yX6_refusalToGoIn cX6_refusalToGoIn 3 (some .int) 2 := ⟨(sT_3 39 rfl rfl), (sT_1 1 rfl rfl), by decide +kernel, by decide +kernel, by decide⟩
theorem vX6_refusalToGoIn : Cond.instanceMethod yX6_refusalToGoIn ∈ sT ∧ Cond.selects yX6_refusalToGoIn.cls yX6_refusalToGoIn yX6_refusalToGoIn ∈ sT := ⟨(sT_3 38 rfl rfl), (sT_p 7 rfl rfl)⟩
theorem mX6_rightOnesAtKnob : sM yX6_rightOnesAtKnob cX6_rightOnesAtKnob 4 (some .int) 1 := ⟨(sT_3 61 rfl rfl), (sT_1 1 rfl rfl), by decide +kernel, by decide +kernel, by decide⟩
theorem vX6_rightOnesAtKnob : Cond.instanceMethod yX6_rightOnesAtKnob ∈ sT ∧ Cond.selects yX6_rightOnesAtKnob.cls yX6_rightOnesAtKnob yX6_rightOnesAtKnob ∈ sT := ⟨(sT_3 60 rfl rfl), (sT_p 8 rfl rfl)⟩
theorem mX6_round : sM yX6_round cX6_round 3 (some .int) 0 := ⟨(sT_3 90 rfl rfl), (sT_1 1 rfl rfl), by decide +kernel, by decide +kernel, by decide⟩
theorem vX6_round : Cond.instanceMethod yX6_round ∈ sT ∧ Cond.selects yX6_round.cls yX6_round yX6_round ∈ sT := ⟨(sT_3 88 rfl rfl), (sT_3 89 rfl rfl)⟩
theorem mX6_seen : sM yX6_seen cX6_seen 5 (some .int) 4 := ⟨(sT_3 94 rfl rfl), (sT_1 1 rfl rfl), by decide +kernel, by decide +kernel, by decide⟩
theorem vX6_seen : Cond.instanceMethod yX6_seen ∈ sT ∧ Cond.selects yX6_seen.cls yX6_seen yX6_seen ∈ sT := ⟨(sT_3 92 rfl rfl), (sT_3 93 rfl rfl)⟩
theorem mX6_share : sM yX6_share cX6_share 2 (some .int) 1 := ⟨(sT_3 65 rfl rfl), (sT_1 1 rfl rfl), by decide +kernel, by decide +kernel, by decide⟩
theorem vX6_share : Cond.instanceMethod yX6_share ∈ sT ∧ Cond.selects yX6_share.cls yX6_share yX6_share ∈ sT := ⟨(sT_3 63 rfl rfl), (sT_3 64 rfl rfl)⟩
theorem mX6_slice : sM yX6_slice cX6_slice 4 (some .int) 2 := ⟨(sT_2 159 rfl rfl), (sT_1 1 rfl rfl), by decide +kernel, by decide +kernel, by decide⟩
theorem vX6_slice : Cond.instanceMethod yX6_slice ∈ sT ∧ Cond.selects yX6_slice.cls yX6_slice yX6_slice ∈ sT := ⟨(sT_2 157 rfl rfl), (sT_2 158 rfl rfl)⟩
theorem mX6_startAnew : sM yX6_startAnew cX6_startAnew 1 none 0 := ⟨(sT_2 69 rfl rfl), (sT_1 1 rfl rfl), by decide +kernel, by decide +kernel, by decide⟩
theorem vX6_startAnew : Cond.instanceMethod yX6_startAnew ∈ sT ∧ Cond.selects yX6_startAnew.cls yX6_startAnew yX6_startAnew ∈ sT := ⟨(sT_2 68 rfl rfl), (sT_p 4 rfl rfl)⟩
theorem mX6_take : sM yX6_take cX6_take 3 (some .int) 2 := ⟨(sT_2 228 rfl rfl), (sT_1 1 rfl rfl), by decide +kernel, by decide +kernel, by decide⟩
theorem vX6_take : Cond.instanceMethod yX6_take ∈ sT ∧ Cond.selects yX6_take.cls yX6_take yX6_take ∈ sT := ⟨(sT_2 226 rfl rfl), (sT_2 227 rfl rfl)⟩
theorem mX6_undo : sM yX6_undo cX6_undo 1 (some .int) 0 := ⟨(sT_3 1 rfl rfl), (sT_1 1 rfl rfl), by decide +kernel, by decide +kernel, by decide⟩
theorem vX6_undo : Cond.instanceMethod yX6_undo ∈ sT ∧ Cond.selects yX6_undo.cls yX6_undo yX6_undo ∈ sT := ⟨(sT_2 239 rfl rfl), (sT_3 0 rfl rfl)⟩
theorem mX6_waits : sM yX6_waits cX6_waits 5 (some .int) 2 := ⟨(sT_3 53 rfl rfl), (sT_1 1 rfl rfl), by decide +kernel, by decide +kernel, by decide⟩
theorem vX6_waits : Cond.instanceMethod yX6_waits ∈ sT ∧ Cond.selects yX6_waits.cls yX6_waits yX6_waits ∈ sT := ⟨(sT_3 51 rfl rfl), (sT_3 52 rfl rfl)⟩
theorem mX6_willBe : sM yX6_willBe cX6_willBe 2 (some .int) 1 := ⟨(sT_3 16 rfl rfl), (sT_1 1 rfl rfl), by decide +kernel, by decide +kernel, by decide⟩
theorem vX6_willBe : Cond.instanceMethod yX6_willBe ∈ sT ∧ Cond.selects yX6_willBe.cls yX6_willBe yX6_willBe ∈ sT := ⟨(sT_3 14 rfl rfl), (sT_3 15 rfl rfl)⟩
theorem mX6_wipe : sM yX6_wipe cX6_wipe 2 (some .int) 0 := ⟨(sT_2 135 rfl rfl), (sT_1 1 rfl rfl), by decide +kernel, by decide +kernel, by decide⟩
theorem vX6_wipe : Cond.instanceMethod yX6_wipe ∈ sT ∧ Cond.selects yX6_wipe.cls yX6_wipe yX6_wipe ∈ sT := ⟨(sT_2 133 rfl rfl), (sT_2 134 rfl rfl)⟩
theorem mX6_within : sM yX6_within cX6_within 3 (some .boolean) 3 := ⟨(sT_2 36 rfl rfl), (sT_1 1 rfl rfl), by decide +kernel, by decide +kernel, by decide⟩
theorem sX6_within : Cond.static yX6_within ∈ sT := (sT_2 35 rfl rfl)
theorem mX6_write : sM yX6_write cX6_write 2 (some .int) 1 := ⟨(sT_2 127 rfl rfl), (sT_1 1 rfl rfl), by decide +kernel, by decide +kernel, by decide⟩
theorem vX6_write : Cond.instanceMethod yX6_write ∈ sT ∧ Cond.selects yX6_write.cls yX6_write yX6_write ∈ sT := ⟨(sT_2 125 rfl rfl), (sT_2 126 rfl rfl)⟩
theorem mX0_actByDraw : sM yX0_actByDraw cX0_actByDraw 4 none 1 := ⟨(sT_3 138 rfl rfl), (sT_1 4 rfl rfl), by decide +kernel, by decide +kernel, by decide⟩
theorem vX0_actByDraw : Cond.instanceMethod yX0_actByDraw ∈ sT ∧ Cond.selects yX0_actByDraw.cls yX0_actByDraw yX0_actByDraw ∈ sT := ⟨(sT_3 136 rfl rfl), (sT_3 137 rfl rfl)⟩
theorem mX0_alikeOnTray : sM yX0_alikeOnTray cX0_alikeOnTray 4 (some .int) 1 := ⟨(sT_3 120 rfl rfl), (sT_1 4 rfl rfl), by decide +kernel, by decide +kernel, by decide⟩
theorem vX0_alikeOnTray : Cond.instanceMethod yX0_alikeOnTray ∈ sT ∧ Cond.selects yX0_alikeOnTray.cls yX0_alikeOnTray yX0_alikeOnTray ∈ sT := ⟨(sT_3 118 rfl rfl), (sT_3 119 rfl rfl)⟩
theorem mX0_begin : sM yX0_begin cX0_begin 2 none 0 := ⟨(sT_2 80 rfl rfl), (sT_1 4 rfl rfl), by decide +kernel, by decide +kernel, by decide⟩
theorem vX0_begin : Cond.instanceMethod yX0_begin ∈ sT ∧ Cond.selects yX0_begin.cls yX0_begin yX0_begin ∈ sT := ⟨(sT_2 78 rfl rfl), (sT_2 79 rfl rfl)⟩
theorem mX0_canGoIn : sM yX0_canGoIn cX0_canGoIn 2 (some .boolean) 1 := ⟨(sT_2 175 rfl rfl), (sT_1 4 rfl rfl), by decide +kernel, by decide +kernel, by decide⟩
theorem vX0_canGoIn : Cond.instanceMethod yX0_canGoIn ∈ sT ∧ Cond.selects yX0_canGoIn.cls yX0_canGoIn yX0_canGoIn ∈ sT := ⟨(sT_2 173 rfl rfl), (sT_2 174 rfl rfl)⟩
theorem mX0_carry : sM yX0_carry cX0_carry 2 none 1 := ⟨(sT_2 212 rfl rfl), (sT_1 4 rfl rfl), by decide +kernel, by decide +kernel, by decide⟩
theorem vX0_carry : Cond.instanceMethod yX0_carry ∈ sT ∧ Cond.selects yX0_carry.cls yX0_carry yX0_carry ∈ sT := ⟨(sT_2 211 rfl rfl), (sT_p 6 rfl rfl)⟩
theorem mX0_contentBits : sM yX0_contentBits cX0_contentBits 4 (some .int) 0 := ⟨(sT_3 30 rfl rfl), (sT_1 4 rfl rfl), by decide +kernel, by decide +kernel, by decide⟩
theorem vX0_contentBits : Cond.instanceMethod yX0_contentBits ∈ sT ∧ Cond.selects yX0_contentBits.cls yX0_contentBits yX0_contentBits ∈ sT := ⟨(sT_3 28 rfl rfl), (sT_3 29 rfl rfl)⟩
theorem mX0_copyFrom : sM yX0_copyFrom cX0_copyFrom 2 none 1 := ⟨(sT_2 187 rfl rfl), (sT_1 4 rfl rfl), by decide +kernel, by decide +kernel, by decide⟩
theorem vX0_copyFrom : Cond.instanceMethod yX0_copyFrom ∈ sT ∧ Cond.selects yX0_copyFrom.cls yX0_copyFrom yX0_copyFrom ∈ sT := ⟨(sT_2 185 rfl rfl), (sT_2 186 rfl rfl)⟩
theorem mX0_eat : sM yX0_eat cX0_eat 3 none 2 := ⟨(sT_2 237 rfl rfl), (sT_1 4 rfl rfl), by decide +kernel, by decide +kernel, by decide⟩
theorem vX0_eat : Cond.instanceMethod yX0_eat ∈ sT ∧ Cond.selects yX0_eat.cls yX0_eat yX0_eat ∈ sT := ⟨(sT_2 235 rfl rfl), (sT_2 236 rfl rfl)⟩
theorem mX0_eatLowestRight : sM yX0_eatLowestRight cX0_eatLowestRight 3 none 1 := ⟨(sT_3 143 rfl rfl), (sT_1 4 rfl rfl), by decide +kernel, by decide +kernel, by decide⟩
theorem vX0_eatLowestRight : Cond.instanceMethod yX0_eatLowestRight ∈ sT ∧ Cond.selects yX0_eatLowestRight.cls yX0_eatLowestRight yX0_eatLowestRight ∈ sT := ⟨(sT_3 142 rfl rfl), (sT_p 12 rfl rfl)⟩
theorem mX0_eatenBy : sM yX0_eatenBy cX0_eatenBy 3 (some .int) 1 := ⟨(sT_2 155 rfl rfl), (sT_1 4 rfl rfl), by decide +kernel, by decide +kernel, by decide⟩
theorem vX0_eatenBy : Cond.instanceMethod yX0_eatenBy ∈ sT ∧ Cond.selects yX0_eatenBy.cls yX0_eatenBy yX0_eatenBy ∈ sT := ⟨(sT_2 153 rfl rfl), (sT_2 154 rfl rfl)⟩
theorem mX0_goOn : sM yX0_goOn cX0_goOn 3 none 0 := ⟨(sT_2 207 rfl rfl), (sT_1 4 rfl rfl), by decide +kernel, by decide +kernel, by decide⟩
theorem vX0_goOn : Cond.instanceMethod yX0_goOn ∈ sT ∧ Cond.selects yX0_goOn.cls yX0_goOn yX0_goOn ∈ sT := ⟨(sT_2 205 rfl rfl), (sT_2 206 rfl rfl)⟩
theorem mX0_goOnTillFallen : sM yX0_goOnTillFallen cX0_goOnTillFallen 3 none 1 := ⟨(sT_3 21 rfl rfl), (sT_1 4 rfl rfl), by decide +kernel, by decide +kernel, by decide⟩
theorem vX0_goOnTillFallen : Cond.instanceMethod yX0_goOnTillFallen ∈ sT ∧ Cond.selects yX0_goOnTillFallen.cls yX0_goOnTillFallen yX0_goOnTillFallen ∈ sT := ⟨(sT_3 19 rfl rfl), (sT_3 20 rfl rfl)⟩
theorem mX0_howMany : sM yX0_howMany cX0_howMany 4 (some .int) 1 := ⟨(sT_2 199 rfl rfl), (sT_1 4 rfl rfl), by decide +kernel, by decide +kernel, by decide⟩
theorem vX0_howMany : Cond.instanceMethod yX0_howMany ∈ sT ∧ Cond.selects yX0_howMany.cls yX0_howMany yX0_howMany ∈ sT := ⟨(sT_2 197 rfl rfl), (sT_2 198 rfl rfl)⟩
theorem mX0_isFreeAtStart : sM yX0_isFreeAtStart cX0_isFreeAtStart 3 (some .boolean) 1 := ⟨(sT_2 179 rfl rfl), (sT_1 4 rfl rfl), by decide +kernel, by decide +kernel, by decide⟩
theorem vX0_isFreeAtStart : Cond.instanceMethod yX0_isFreeAtStart ∈ sT ∧ Cond.selects yX0_isFreeAtStart.cls yX0_isFreeAtStart yX0_isFreeAtStart ∈ sT := ⟨(sT_2 177 rfl rfl), (sT_2 178 rfl rfl)⟩
theorem mX0_isRight : sM yX0_isRight cX0_isRight 3 (some .boolean) 2 := ⟨(sT_2 163 rfl rfl), (sT_1 4 rfl rfl), by decide +kernel, by decide +kernel, by decide⟩
theorem vX0_isRight : Cond.instanceMethod yX0_isRight ∈ sT ∧ Cond.selects yX0_isRight.cls yX0_isRight yX0_isRight ∈ sT := ⟨(sT_2 161 rfl rfl), (sT_2 162 rfl rfl)⟩
theorem mX0_isRightAfterRide : sM yX0_isRightAfterRide cX0_isRightAfterRide 3 (some .boolean) 2 := ⟨(sT_3 43 rfl rfl), (sT_1 4 rfl rfl), by decide +kernel, by decide +kernel, by decide⟩
theorem vX0_isRightAfterRide : Cond.instanceMethod yX0_isRightAfterRide ∈ sT ∧ Cond.selects yX0_isRightAfterRide.cls yX0_isRightAfterRide yX0_isRightAfterRide ∈ sT := ⟨(sT_3 41 rfl rfl), (sT_3 42 rfl rfl)⟩
theorem mX0_mayEat : sM yX0_mayEat cX0_mayEat 3 (some .boolean) 2 := ⟨(sT_2 232 rfl rfl), (sT_1 4 rfl rfl), by decide +kernel, by decide +kernel, by decide⟩
theorem vX0_mayEat : Cond.instanceMethod yX0_mayEat ∈ sT ∧ Cond.selects yX0_mayEat.cls yX0_mayEat yX0_mayEat ∈ sT := ⟨(sT_2 230 rfl rfl), (sT_2 231 rfl rfl)⟩
theorem mX0_setAtStart : sM yX0_setAtStart cX0_setAtStart 3 none 2 := ⟨(sT_2 195 rfl rfl), (sT_1 4 rfl rfl), by decide +kernel, by decide +kernel, by decide⟩
theorem vX0_setAtStart : Cond.instanceMethod yX0_setAtStart ∈ sT ∧ Cond.selects yX0_setAtStart.cls yX0_setAtStart yX0_setAtStart ∈ sT := ⟨(sT_2 193 rfl rfl), (sT_2 194 rfl rfl)⟩
theorem mX1_bringBack : sM yX1_bringBack cX1_bringBack 2 none 1 := ⟨(sT_3 5 rfl rfl), (sT_1 5 rfl rfl), by decide +kernel, by decide +kernel, by decide⟩
theorem vX1_bringBack : Cond.instanceMethod yX1_bringBack ∈ sT ∧ Cond.selects yX1_bringBack.cls yX1_bringBack yX1_bringBack ∈ sT := ⟨(sT_3 3 rfl rfl), (sT_3 4 rfl rfl)⟩
theorem mX1_clear : sM yX1_clear cX1_clear 1 none 0 := ⟨(sT_2 84 rfl rfl), (sT_1 5 rfl rfl), by decide +kernel, by decide +kernel, by decide⟩
theorem vX1_clear : Cond.instanceMethod yX1_clear ∈ sT ∧ Cond.selects yX1_clear.cls yX1_clear yX1_clear ∈ sT := ⟨(sT_2 82 rfl rfl), (sT_2 83 rfl rfl)⟩
theorem mX1_remember : sM yX1_remember cX1_remember 2 none 1 := ⟨(sT_2 183 rfl rfl), (sT_1 5 rfl rfl), by decide +kernel, by decide +kernel, by decide⟩
theorem vX1_remember : Cond.instanceMethod yX1_remember ∈ sT ∧ Cond.selects yX1_remember.cls yX1_remember yX1_remember ∈ sT := ⟨(sT_2 181 rfl rfl), (sT_2 182 rfl rfl)⟩
theorem mX2_addGuest : sM yX2_addGuest cX2_addGuest 4 (some .boolean) 3 := ⟨(sT_2 65 rfl rfl), (sT_1 3 rfl rfl), by decide +kernel, by decide +kernel, by decide⟩
theorem vX2_addGuest : Cond.instanceMethod yX2_addGuest ∈ sT ∧ Cond.selects yX2_addGuest.cls yX2_addGuest yX2_addGuest ∈ sT := ⟨(sT_2 63 rfl rfl), (sT_2 64 rfl rfl)⟩
theorem mX2_begin : sM yX2_begin cX2_begin 1 none 0 := ⟨(sT_2 22 rfl rfl), (sT_1 3 rfl rfl), by decide +kernel, by decide +kernel, by decide⟩
theorem vX2_begin : Cond.instanceMethod yX2_begin ∈ sT ∧ Cond.selects yX2_begin.cls yX2_begin yX2_begin ∈ sT := ⟨(sT_2 20 rfl rfl), (sT_2 21 rfl rfl)⟩
theorem mX2_copyFrom : sM yX2_copyFrom cX2_copyFrom 2 none 1 := ⟨(sT_2 73 rfl rfl), (sT_1 3 rfl rfl), by decide +kernel, by decide +kernel, by decide⟩
theorem vX2_copyFrom : Cond.instanceMethod yX2_copyFrom ∈ sT ∧ Cond.selects yX2_copyFrom.cls yX2_copyFrom yX2_copyFrom ∈ sT := ⟨(sT_2 71 rfl rfl), (sT_2 72 rfl rfl)⟩
theorem mX2_setHeat : sM yX2_setHeat cX2_setHeat 3 (some .boolean) 2 := ⟨(sT_2 61 rfl rfl), (sT_1 3 rfl rfl), by decide +kernel, by decide +kernel, by decide⟩
theorem vX2_setHeat : Cond.instanceMethod yX2_setHeat ∈ sT ∧ Cond.selects yX2_setHeat.cls yX2_setHeat yX2_setHeat ∈ sT := ⟨(sT_2 59 rfl rfl), (sT_2 60 rfl rfl)⟩
theorem mX2_setKnob : sM yX2_setKnob cX2_setKnob 2 (some .boolean) 1 := ⟨(sT_2 53 rfl rfl), (sT_1 3 rfl rfl), by decide +kernel, by decide +kernel, by decide⟩
theorem vX2_setKnob : Cond.instanceMethod yX2_setKnob ∈ sT ∧ Cond.selects yX2_setKnob.cls yX2_setKnob yX2_setKnob ∈ sT := ⟨(sT_2 51 rfl rfl), (sT_2 52 rfl rfl)⟩
theorem mX2_setPlaces : sM yX2_setPlaces cX2_setPlaces 2 (some .boolean) 1 := ⟨(sT_2 48 rfl rfl), (sT_1 3 rfl rfl), by decide +kernel, by decide +kernel, by decide⟩
theorem vX2_setPlaces : Cond.instanceMethod yX2_setPlaces ∈ sT ∧ Cond.selects yX2_setPlaces.cls yX2_setPlaces yX2_setPlaces ∈ sT := ⟨(sT_2 46 rfl rfl), (sT_2 47 rfl rfl)⟩
theorem mX3_findFitting : sM yX3_findFitting cX3_findFitting 4 none 1 := ⟨(sT_3 73 rfl rfl), (sT_1 7 rfl rfl), by decide +kernel, by decide +kernel, by decide⟩
theorem vX3_findFitting : Cond.instanceMethod yX3_findFitting ∈ sT ∧ Cond.selects yX3_findFitting.cls yX3_findFitting yX3_findFitting ∈ sT := ⟨(sT_3 72 rfl rfl), (sT_p 9 rfl rfl)⟩
theorem mX3_findsOne : sM yX3_findsOne cX3_findsOne 6 (some .boolean) 3 := ⟨(sT_3 82 rfl rfl), (sT_1 7 rfl rfl), by decide +kernel, by decide +kernel, by decide⟩
theorem sX3_findsOne : Cond.static yX3_findsOne ∈ sT := (sT_3 81 rfl rfl)
theorem mX3_lowestThatServes : sM yX3_lowestThatServes cX3_lowestThatServes 6 (some .int) 3 := ⟨(sT_3 86 rfl rfl), (sT_1 7 rfl rfl), by decide +kernel, by decide +kernel, by decide⟩
theorem vX3_lowestThatServes : Cond.instanceMethod yX3_lowestThatServes ∈ sT ∧ Cond.selects yX3_lowestThatServes.cls yX3_lowestThatServes yX3_lowestThatServes ∈ sT := ⟨(sT_3 85 rfl rfl), (sT_p 11 rfl rfl)⟩
theorem mX3_mostFrom : sM yX3_mostFrom cX3_mostFrom 5 (some .int) 2 := ⟨(sT_3 79 rfl rfl), (sT_1 7 rfl rfl), by decide +kernel, by decide +kernel, by decide⟩
theorem vX3_mostFrom : Cond.instanceMethod yX3_mostFrom ∈ sT ∧ Cond.selects yX3_mostFrom.cls yX3_mostFrom yX3_mostFrom ∈ sT := ⟨(sT_3 78 rfl rfl), (sT_p 10 rfl rfl)⟩
theorem mX3_settle : sM yX3_settle cX3_settle 5 none 1 := ⟨(sT_3 69 rfl rfl), (sT_1 7 rfl rfl), by decide +kernel, by decide +kernel, by decide⟩
theorem vX3_settle : Cond.instanceMethod yX3_settle ∈ sT ∧ Cond.selects yX3_settle.cls yX3_settle yX3_settle ∈ sT := ⟨(sT_3 67 rfl rfl), (sT_3 68 rfl rfl)⟩
theorem mX4_add : sM yX4_add cX4_add 5 (some .boolean) 4 := ⟨(sT_3 98 rfl rfl), (sT_1 6 rfl rfl), by decide +kernel, by decide +kernel, by decide⟩
theorem vX4_add : Cond.instanceMethod yX4_add ∈ sT ∧ Cond.selects yX4_add.cls yX4_add yX4_add ∈ sT := ⟨(sT_3 96 rfl rfl), (sT_3 97 rfl rfl)⟩
theorem mX4_fit : sM yX4_fit cX4_fit 5 (some .boolean) 2 := ⟨(sT_3 110 rfl rfl), (sT_1 6 rfl rfl), by decide +kernel, by decide +kernel, by decide⟩
theorem vX4_fit : Cond.instanceMethod yX4_fit ∈ sT ∧ Cond.selects yX4_fit.cls yX4_fit yX4_fit ∈ sT := ⟨(sT_3 108 rfl rfl), (sT_3 109 rfl rfl)⟩
theorem mX5_add : sM yX5_add cX5_add 2 (some .boolean) 1 := ⟨(sT_2 14 rfl rfl), (sT_1 2 rfl rfl), by decide +kernel, by decide +kernel, by decide⟩
theorem vX5_add : Cond.instanceMethod yX5_add ∈ sT ∧ Cond.selects yX5_add.cls yX5_add yX5_add ∈ sT := ⟨(sT_2 12 rfl rfl), (sT_2 13 rfl rfl)⟩
theorem mX5_clear : sM yX5_clear cX5_clear 1 none 0 := ⟨(sT_2 88 rfl rfl), (sT_1 2 rfl rfl), by decide +kernel, by decide +kernel, by decide⟩
theorem vX5_clear : Cond.instanceMethod yX5_clear ∈ sT ∧ Cond.selects yX5_clear.cls yX5_clear yX5_clear ∈ sT := ⟨(sT_2 86 rfl rfl), (sT_2 87 rfl rfl)⟩
theorem mX5_length : sM yX5_length cX5_length 1 (some .int) 0 := ⟨(sT_2 131 rfl rfl), (sT_1 2 rfl rfl), by decide +kernel, by decide +kernel, by decide⟩
theorem vX5_length : Cond.instanceMethod yX5_length ∈ sT ∧ Cond.selects yX5_length.cls yX5_length yX5_length ∈ sT := ⟨(sT_2 129 rfl rfl), (sT_2 130 rfl rfl)⟩
theorem mX5_numbersBehind : sM yX5_numbersBehind cX5_numbersBehind 1 (some .int) 1 := ⟨(sT_2 29 rfl rfl), (sT_1 2 rfl rfl), by decide +kernel, by decide +kernel, by decide⟩
theorem sX5_numbersBehind : Cond.static yX5_numbersBehind ∈ sT := (sT_2 28 rfl rfl)
theorem mX5_readInto : sM yX5_readInto cX5_readInto 4 (some .int) 1 := ⟨(sT_2 18 rfl rfl), (sT_1 2 rfl rfl), by decide +kernel, by decide +kernel, by decide⟩
theorem vX5_readInto : Cond.instanceMethod yX5_readInto ∈ sT ∧ Cond.selects yX5_readInto.cls yX5_readInto yX5_readInto ∈ sT := ⟨(sT_2 16 rfl rfl), (sT_2 17 rfl rfl)⟩
theorem mX5_readItem : sM yX5_readItem cX5_readItem 5 (some .boolean) 1 := ⟨(sT_2 26 rfl rfl), (sT_1 2 rfl rfl), by decide +kernel, by decide +kernel, by decide⟩
theorem vX5_readItem : Cond.instanceMethod yX5_readItem ∈ sT ∧ Cond.selects yX5_readItem.cls yX5_readItem yX5_readItem ∈ sT := ⟨(sT_2 25 rfl rfl), (sT_p 0 rfl rfl)⟩
theorem mX5_readNumber : sM yX5_readNumber cX5_readNumber 4 (some .boolean) 1 := ⟨(sT_2 33 rfl rfl), (sT_1 2 rfl rfl), by decide +kernel, by decide +kernel, by decide⟩
theorem vX5_readNumber : Cond.instanceMethod yX5_readNumber ∈ sT ∧ Cond.selects yX5_readNumber.cls yX5_readNumber yX5_readNumber ∈ sT := ⟨(sT_2 32 rfl rfl), (sT_p 1 rfl rfl)⟩
theorem mX5_readSign : sM yX5_readSign cX5_readSign 2 (some .boolean) 1 := ⟨(sT_2 40 rfl rfl), (sT_1 2 rfl rfl), by decide +kernel, by decide +kernel, by decide⟩
theorem vX5_readSign : Cond.instanceMethod yX5_readSign ∈ sT ∧ Cond.selects yX5_readSign.cls yX5_readSign yX5_readSign ∈ sT := ⟨(sT_2 39 rfl rfl), (sT_p 2 rfl rfl)⟩
theorem mX5_tell : sM yX5_tell cX5_tell 3 (some .boolean) 2 := ⟨(sT_2 44 rfl rfl), (sT_1 2 rfl rfl), by decide +kernel, by decide +kernel, by decide⟩
theorem vX5_tell : Cond.instanceMethod yX5_tell ∈ sT ∧ Cond.selects yX5_tell.cls yX5_tell yX5_tell ∈ sT := ⟨(sT_2 43 rfl rfl), (sT_p 3 rfl rfl)⟩
theorem mX7_back : sM yX7_back cX7_back 2 (some .int) 0 := ⟨(sT_4 230 rfl rfl), (sT_1 13 rfl rfl), by decide +kernel, by decide +kernel, by decide⟩
theorem vX7_back : Cond.instanceMethod yX7_back ∈ sT ∧ Cond.selects yX7_back.cls yX7_back yX7_back ∈ sT := ⟨(sT_4 228 rfl rfl), (sT_4 229 rfl rfl)⟩
theorem mX7_browner : sM yX7_browner cX7_browner 2 (some .int) 2 := ⟨(sT_4 100 rfl rfl), (sT_1 13 rfl rfl), by decide +kernel, by decide +kernel, by decide⟩
theorem sX7_browner : Cond.static yX7_browner ∈ sT := (sT_4 99 rfl rfl)
theorem mX7_canTake : sM yX7_canTake cX7_canTake 4 (some .boolean) 3 := ⟨(sT_4 112 rfl rfl), (sT_1 13 rfl rfl), by decide +kernel, by decide +kernel, by decide⟩
theorem vX7_canTake : Cond.instanceMethod yX7_canTake ∈ sT ∧ Cond.selects yX7_canTake.cls yX7_canTake yX7_canTake ∈ sT := ⟨(sT_4 111 rfl rfl), (sT_p 27 rfl rfl)⟩
theorem mX7_content : sM yX7_content cX7_content 1 (some .int) 0 := ⟨(sT_4 144 rfl rfl), (sT_1 13 rfl rfl), by decide +kernel, by decide +kernel, by decide⟩
theorem vX7_content : Cond.instanceMethod yX7_content ∈ sT ∧ Cond.selects yX7_content.cls yX7_content yX7_content ∈ sT := ⟨(sT_4 142 rfl rfl), (sT_4 143 rfl rfl)⟩
theorem mX7_contentOf : sM yX7_contentOf cX7_contentOf 5 (some .int) 1 := ⟨(sT_4 148 rfl rfl), (sT_1 13 rfl rfl), by decide +kernel, by decide +kernel, by decide⟩
theorem vX7_contentOf : Cond.instanceMethod yX7_contentOf ∈ sT ∧ Cond.selects yX7_contentOf.cls yX7_contentOf yX7_contentOf ∈ sT := ⟨(sT_4 147 rfl rfl), (sT_p 32 rfl rfl)⟩
theorem mX7_count : sM yX7_count cX7_count 2 (some .int) 1 := ⟨(sT_4 234 rfl rfl), (sT_1 13 rfl rfl), by decide +kernel, by decide +kernel, by decide⟩
theorem vX7_count : Cond.instanceMethod yX7_count ∈ sT ∧ Cond.selects yX7_count.cls yX7_count yX7_count ∈ sT := ⟨(sT_4 232 rfl rfl), (sT_4 233 rfl rfl)⟩
theorem mX7_eat : sM yX7_eat cX7_eat 4 none 3 := ⟨(sT_4 120 rfl rfl), (sT_1 13 rfl rfl), by decide +kernel, by decide +kernel, by decide⟩
theorem vX7_eat : Cond.instanceMethod yX7_eat ∈ sT ∧ Cond.selects yX7_eat.cls yX7_eat yX7_eat ∈ sT := ⟨(sT_4 119 rfl rfl), (sT_p 29 rfl rfl)⟩
theorem mX7_falls : sM yX7_falls cX7_falls 2 (some .int) 1 := ⟨(sT_4 128 rfl rfl), (sT_1 13 rfl rfl), by decide +kernel, by decide +kernel, by decide⟩
theorem vX7_falls : Cond.instanceMethod yX7_falls ∈ sT ∧ Cond.selects yX7_falls.cls yX7_falls yX7_falls ∈ sT := ⟨(sT_4 126 rfl rfl), (sT_4 127 rfl rfl)⟩
theorem mX7_fault : sM yX7_fault cX7_fault 2 (some .int) 0 := ⟨(sT_4 25 rfl rfl), (sT_1 13 rfl rfl), by decide +kernel, by decide +kernel, by decide⟩
theorem vX7_fault : Cond.instanceMethod yX7_fault ∈ sT ∧ Cond.selects yX7_fault.cls yX7_fault yX7_fault ∈ sT := ⟨(sT_4 23 rfl rfl), (sT_4 24 rfl rfl)⟩
theorem mX7_forget : sM yX7_forget cX7_forget 2 (some .int) 0 := ⟨(sT_4 200 rfl rfl), (sT_1 13 rfl rfl), by decide +kernel, by decide +kernel, by decide⟩
theorem vX7_forget : Cond.instanceMethod yX7_forget ∈ sT ∧ Cond.selects yX7_forget.cls yX7_forget yX7_forget ∈ sT := ⟨(sT_4 198 rfl rfl), (sT_4 199 rfl rfl)⟩
theorem mX7_giveAll : sM yX7_giveAll cX7_giveAll 5 none 0 := ⟨(sT_4 180 rfl rfl), (sT_1 13 rfl rfl), by decide +kernel, by decide +kernel, by decide⟩
theorem vX7_giveAll : Cond.instanceMethod yX7_giveAll ∈ sT ∧ Cond.selects yX7_giveAll.cls yX7_giveAll yX7_giveAll ∈ sT := ⟨(sT_4 179 rfl rfl), (sT_p 35 rfl rfl)⟩
theorem mX7_goOn : sM yX7_goOn cX7_goOn 2 none 1 := ⟨(sT_4 140 rfl rfl), (sT_1 13 rfl rfl), by decide +kernel, by decide +kernel, by decide⟩
theorem vX7_goOn : Cond.instanceMethod yX7_goOn ∈ sT ∧ Cond.selects yX7_goOn.cls yX7_goOn yX7_goOn ∈ sT := ⟨(sT_4 139 rfl rfl), (sT_p 31 rfl rfl)⟩
theorem mX7_guest : sM yX7_guest cX7_guest 5 (some .int) 2 := ⟨(sT_4 50 rfl rfl), (sT_1 13 rfl rfl), by decide +kernel, by decide +kernel, by decide⟩
theorem vX7_guest : Cond.instanceMethod yX7_guest ∈ sT ∧ Cond.selects yX7_guest.cls yX7_guest yX7_guest ∈ sT := ⟨(sT_4 48 rfl rfl), (sT_4 49 rfl rfl)⟩
theorem mX7_harm : sM yX7_harm cX7_harm 2 (some .int) 1 := ⟨(sT_4 168 rfl rfl), (sT_1 13 rfl rfl), by decide +kernel, by decide +kernel, by decide⟩
theorem vX7_harm : Cond.instanceMethod yX7_harm ∈ sT ∧ Cond.selects yX7_harm.cls yX7_harm yX7_harm ∈ sT := ⟨(sT_4 166 rfl rfl), (sT_4 167 rfl rfl)⟩
theorem mX7_hasEaten : sM yX7_hasEaten cX7_hasEaten 5 (some .boolean) 2 := ⟨(sT_4 116 rfl rfl), (sT_1 13 rfl rfl), by decide +kernel, by decide +kernel, by decide⟩
theorem vX7_hasEaten : Cond.instanceMethod yX7_hasEaten ∈ sT ∧ Cond.selects yX7_hasEaten.cls yX7_hasEaten yX7_hasEaten ∈ sT := ⟨(sT_4 115 rfl rfl), (sT_p 28 rfl rfl)⟩
theorem mX7_here : sM yX7_here cX7_here 1 (some .int) 0 := ⟨(sT_4 33 rfl rfl), (sT_1 13 rfl rfl), by decide +kernel, by decide +kernel, by decide⟩
theorem vX7_here : Cond.instanceMethod yX7_here ∈ sT ∧ Cond.selects yX7_here.cls yX7_here yX7_here ∈ sT := ⟨(sT_4 32 rfl rfl), (sT_p 16 rfl rfl)⟩
theorem mX7_hot : sM yX7_hot cX7_hot 8 (some .int) 1 := ⟨(sT_4 204 rfl rfl), (sT_1 13 rfl rfl), by decide +kernel, by decide +kernel, by decide⟩
theorem vX7_hot : Cond.instanceMethod yX7_hot ∈ sT ∧ Cond.selects yX7_hot.cls yX7_hot yX7_hot ∈ sT := ⟨(sT_4 202 rfl rfl), (sT_4 203 rfl rfl)⟩
theorem mX7_in : sM yX7_in cX7_in 3 (some .boolean) 3 := ⟨(sT_4 17 rfl rfl), (sT_1 13 rfl rfl), by decide +kernel, by decide +kernel, by decide⟩
theorem sX7_in : Cond.static yX7_in ∈ sT := (sT_4 16 rfl rfl)
theorem mX7_invite : sM yX7_invite cX7_invite 5 none 4 := ⟨(sT_3 167 rfl rfl), (sT_1 13 rfl rfl), by decide +kernel, by decide +kernel, by decide⟩
theorem vX7_invite : Cond.instanceMethod yX7_invite ∈ sT ∧ Cond.selects yX7_invite.cls yX7_invite yX7_invite ∈ sT := ⟨(sT_3 166 rfl rfl), (sT_p 13 rfl rfl)⟩
theorem mX7_isFor : sM yX7_isFor cX7_isFor 3 (some .boolean) 2 := ⟨(sT_4 188 rfl rfl), (sT_1 13 rfl rfl), by decide +kernel, by decide +kernel, by decide⟩
theorem vX7_isFor : Cond.instanceMethod yX7_isFor ∈ sT ∧ Cond.selects yX7_isFor.cls yX7_isFor yX7_isFor ∈ sT := ⟨(sT_4 187 rfl rfl), (sT_p 37 rfl rfl)⟩
theorem mX7_isFree : sM yX7_isFree cX7_isFree 5 (some .boolean) 2 := ⟨(sT_4 77 rfl rfl), (sT_1 13 rfl rfl), by decide +kernel, by decide +kernel, by decide⟩
theorem vX7_isFree : Cond.instanceMethod yX7_isFree ∈ sT ∧ Cond.selects yX7_isFree.cls yX7_isFree yX7_isFree ∈ sT := ⟨(sT_4 76 rfl rfl), (sT_p 22 rfl rfl)⟩
theorem mX7_isGuest : sM yX7_isGuest cX7_isGuest 2 (some .boolean) 1 := ⟨(sT_4 54 rfl rfl), (sT_1 13 rfl rfl), by decide +kernel, by decide +kernel, by decide⟩
theorem vX7_isGuest : Cond.instanceMethod yX7_isGuest ∈ sT ∧ Cond.selects yX7_isGuest.cls yX7_isGuest yX7_isGuest ∈ sT := ⟨(sT_4 53 rfl rfl), (sT_p 19 rfl rfl)⟩
theorem mX7_isLane : sM yX7_isLane cX7_isLane 1 (some .boolean) 1 := ⟨(sT_4 69 rfl rfl), (sT_1 13 rfl rfl), by decide +kernel, by decide +kernel, by decide⟩
theorem sX7_isLane : Cond.static yX7_isLane ∈ sT := (sT_4 68 rfl rfl)
theorem mX7_isLoose : sM yX7_isLoose cX7_isLoose 2 (some .boolean) 1 := ⟨(sT_4 73 rfl rfl), (sT_1 13 rfl rfl), by decide +kernel, by decide +kernel, by decide⟩
theorem vX7_isLoose : Cond.instanceMethod yX7_isLoose ∈ sT ∧ Cond.selects yX7_isLoose.cls yX7_isLoose yX7_isLoose ∈ sT := ⟨(sT_4 72 rfl rfl), (sT_p 21 rfl rfl)⟩
theorem mX7_isRightBy : sM yX7_isRightBy cX7_isRightBy 3 (some .boolean) 2 := ⟨(sT_4 156 rfl rfl), (sT_1 13 rfl rfl), by decide +kernel, by decide +kernel, by decide⟩
theorem vX7_isRightBy : Cond.instanceMethod yX7_isRightBy ∈ sT ∧ Cond.selects yX7_isRightBy.cls yX7_isRightBy yX7_isRightBy ∈ sT := ⟨(sT_4 155 rfl rfl), (sT_p 33 rfl rfl)⟩
theorem mX7_isRightFor : sM yX7_isRightFor cX7_isRightFor 4 (some .boolean) 3 := ⟨(sT_4 62 rfl rfl), (sT_1 13 rfl rfl), by decide +kernel, by decide +kernel, by decide⟩
theorem vX7_isRightFor : Cond.instanceMethod yX7_isRightFor ∈ sT ∧ Cond.selects yX7_isRightFor.cls yX7_isRightFor yX7_isRightFor ∈ sT := ⟨(sT_4 61 rfl rfl), (sT_p 20 rfl rfl)⟩
theorem mX7_keep : sM yX7_keep cX7_keep 2 (some .int) 0 := ⟨(sT_4 226 rfl rfl), (sT_1 13 rfl rfl), by decide +kernel, by decide +kernel, by decide⟩
theorem vX7_keep : Cond.instanceMethod yX7_keep ∈ sT ∧ Cond.selects yX7_keep.cls yX7_keep yX7_keep ∈ sT := ⟨(sT_4 224 rfl rfl), (sT_4 225 rfl rfl)⟩
theorem mX7_knob : sM yX7_knob cX7_knob 3 (some .int) 1 := ⟨(sT_4 104 rfl rfl), (sT_1 13 rfl rfl), by decide +kernel, by decide +kernel, by decide⟩
theorem vX7_knob : Cond.instanceMethod yX7_knob ∈ sT ∧ Cond.selects yX7_knob.cls yX7_knob yX7_knob ∈ sT := ⟨(sT_4 102 rfl rfl), (sT_4 103 rfl rfl)⟩
theorem mX7_knobFor : sM yX7_knobFor cX7_knobFor 4 (some .int) 2 := ⟨(sT_4 152 rfl rfl), (sT_1 13 rfl rfl), by decide +kernel, by decide +kernel, by decide⟩
theorem vX7_knobFor : Cond.instanceMethod yX7_knobFor ∈ sT ∧ Cond.selects yX7_knobFor.cls yX7_knobFor yX7_knobFor ∈ sT := ⟨(sT_4 150 rfl rfl), (sT_4 151 rfl rfl)⟩
theorem mX7_know : sM yX7_know cX7_know 2 none 0 := ⟨(sT_4 81 rfl rfl), (sT_1 13 rfl rfl), by decide +kernel, by decide +kernel, by decide⟩
theorem vX7_know : Cond.instanceMethod yX7_know ∈ sT ∧ Cond.selects yX7_know.cls yX7_know yX7_know ∈ sT := ⟨(sT_4 80 rfl rfl), (sT_p 23 rfl rfl)⟩
theorem mX7_lay : sM yX7_lay cX7_lay 1 (some .int) 0 := ⟨(sT_4 45 rfl rfl), (sT_1 13 rfl rfl), by decide +kernel, by decide +kernel, by decide⟩
theorem vX7_lay : Cond.instanceMethod yX7_lay ∈ sT ∧ Cond.selects yX7_lay.cls yX7_lay yX7_lay ∈ sT := ⟨(sT_4 43 rfl rfl), (sT_4 44 rfl rfl)⟩
theorem mX7_left : sM yX7_left cX7_left 6 (some .int) 3 := ⟨(sT_4 208 rfl rfl), (sT_1 13 rfl rfl), by decide +kernel, by decide +kernel, by decide⟩
theorem vX7_left : Cond.instanceMethod yX7_left ∈ sT ∧ Cond.selects yX7_left.cls yX7_left yX7_left ∈ sT := ⟨(sT_4 206 rfl rfl), (sT_4 207 rfl rfl)⟩
theorem mX7_manyIn : sM yX7_manyIn cX7_manyIn 5 (some .int) 2 := ⟨(sT_4 89 rfl rfl), (sT_1 13 rfl rfl), by decide +kernel, by decide +kernel, by decide⟩
theorem vX7_manyIn : Cond.instanceMethod yX7_manyIn ∈ sT ∧ Cond.selects yX7_manyIn.cls yX7_manyIn yX7_manyIn ∈ sT := ⟨(sT_4 88 rfl rfl), (sT_p 25 rfl rfl)⟩
theorem mX7_measure : sM yX7_measure cX7_measure 6 none 0 := ⟨(sT_4 184 rfl rfl), (sT_1 13 rfl rfl), by decide +kernel, by decide +kernel, by decide⟩
theorem vX7_measure : Cond.instanceMethod yX7_measure ∈ sT ∧ Cond.selects yX7_measure.cls yX7_measure yX7_measure ∈ sT := ⟨(sT_4 183 rfl rfl), (sT_p 36 rfl rfl)⟩
theorem mX7_moment : sM yX7_moment cX7_moment 5 (some .int) 1 := ⟨(sT_4 97 rfl rfl), (sT_1 13 rfl rfl), by decide +kernel, by decide +kernel, by decide⟩
theorem vX7_moment : Cond.instanceMethod yX7_moment ∈ sT ∧ Cond.selects yX7_moment.cls yX7_moment yX7_moment ∈ sT := ⟨(sT_4 96 rfl rfl), (sT_p 26 rfl rfl)⟩
theorem mX7_morning : sM yX7_morning cX7_morning 10 (some .int) 3 := ⟨(sT_4 215 rfl rfl), (sT_1 13 rfl rfl), by decide +kernel, by decide +kernel, by decide⟩
theorem vX7_morning : Cond.instanceMethod yX7_morning ∈ sT ∧ Cond.selects yX7_morning.cls yX7_morning yX7_morning ∈ sT := ⟨(sT_4 213 rfl rfl), (sT_4 214 rfl rfl)⟩
theorem mX7_often : sM yX7_often cX7_often 4 (some .int) 2 := ⟨(sT_4 160 rfl rfl), (sT_1 13 rfl rfl), by decide +kernel, by decide +kernel, by decide⟩
theorem vX7_often : Cond.instanceMethod yX7_often ∈ sT ∧ Cond.selects yX7_often.cls yX7_often yX7_often ∈ sT := ⟨(sT_4 158 rfl rfl), (sT_4 159 rfl rfl)⟩
theorem mX7_part : sM yX7_part cX7_part 6 (some .int) 3 := ⟨(sT_4 211 rfl rfl), (sT_1 13 rfl rfl), by decide +kernel, by decide +kernel, by decide⟩
theorem sX7_part : Cond.static yX7_part ∈ sT := (sT_4 210 rfl rfl)
theorem mX7_pass : sM yX7_pass cX7_pass 4 (some .int) 1 := ⟨(sT_4 93 rfl rfl), (sT_1 13 rfl rfl), by decide +kernel, by decide +kernel, by decide⟩
theorem vX7_pass : Cond.instanceMethod yX7_pass ∈ sT ∧ Cond.selects yX7_pass.cls yX7_pass yX7_pass ∈ sT := ⟨(sT_4 91 rfl rfl), (sT_4 92 rfl rfl)⟩
theorem mX7_put : sM yX7_put cX7_put 4 none 3 := ⟨(sT_4 85 rfl rfl), (sT_1 13 rfl rfl), by decide +kernel, by decide +kernel, by decide⟩
theorem vX7_put : Cond.instanceMethod yX7_put ∈ sT ∧ Cond.selects yX7_put.cls yX7_put yX7_put ∈ sT := ⟨(sT_4 84 rfl rfl), (sT_p 24 rfl rfl)⟩
theorem mX7_putIn : sM yX7_putIn cX7_putIn 3 (some .int) 2 := ⟨(sT_4 66 rfl rfl), (sT_1 13 rfl rfl), by decide +kernel, by decide +kernel, by decide⟩
theorem vX7_putIn : Cond.instanceMethod yX7_putIn ∈ sT ∧ Cond.selects yX7_putIn.cls yX7_putIn yX7_putIn ∈ sT := ⟨(sT_4 64 rfl rfl), (sT_4 65 rfl rfl)⟩
theorem mX7_readItem : sM yX7_readItem cX7_readItem 2 none 0 := ⟨(sT_4 29 rfl rfl), (sT_1 13 rfl rfl), by decide +kernel, by decide +kernel, by decide⟩
theorem vX7_readItem : Cond.instanceMethod yX7_readItem ∈ sT ∧ Cond.selects yX7_readItem.cls yX7_readItem yX7_readItem ∈ sT := ⟨(sT_4 28 rfl rfl), (sT_p 15 rfl rfl)⟩
theorem mX7_readMark : sM yX7_readMark cX7_readMark 2 none 1 := ⟨(sT_4 41 rfl rfl), (sT_1 13 rfl rfl), by decide +kernel, by decide +kernel, by decide⟩
theorem vX7_readMark : Cond.instanceMethod yX7_readMark ∈ sT ∧ Cond.selects yX7_readMark.cls yX7_readMark yX7_readMark ∈ sT := ⟨(sT_4 40 rfl rfl), (sT_p 18 rfl rfl)⟩
theorem mX7_readNumber : sM yX7_readNumber cX7_readNumber 6 none 3 := ⟨(sT_4 37 rfl rfl), (sT_1 13 rfl rfl), by decide +kernel, by decide +kernel, by decide⟩
theorem vX7_readNumber : Cond.instanceMethod yX7_readNumber ∈ sT ∧ Cond.selects yX7_readNumber.cls yX7_readNumber yX7_readNumber ∈ sT := ⟨(sT_4 36 rfl rfl), (sT_p 17 rfl rfl)⟩
theorem mX7_rightBy : sM yX7_rightBy cX7_rightBy 4 (some .int) 1 := ⟨(sT_4 172 rfl rfl), (sT_1 13 rfl rfl), by decide +kernel, by decide +kernel, by decide⟩
theorem vX7_rightBy : Cond.instanceMethod yX7_rightBy ∈ sT ∧ Cond.selects yX7_rightBy.cls yX7_rightBy yX7_rightBy ∈ sT := ⟨(sT_4 171 rfl rfl), (sT_p 34 rfl rfl)⟩
theorem mX7_round : sM yX7_round cX7_round 3 (some .int) 0 := ⟨(sT_4 192 rfl rfl), (sT_1 13 rfl rfl), by decide +kernel, by decide +kernel, by decide⟩
theorem vX7_round : Cond.instanceMethod yX7_round ∈ sT ∧ Cond.selects yX7_round.cls yX7_round yX7_round ∈ sT := ⟨(sT_4 190 rfl rfl), (sT_4 191 rfl rfl)⟩
theorem mX7_seen : sM yX7_seen cX7_seen 5 (some .int) 4 := ⟨(sT_4 196 rfl rfl), (sT_1 13 rfl rfl), by decide +kernel, by decide +kernel, by decide⟩
theorem vX7_seen : Cond.instanceMethod yX7_seen ∈ sT ∧ Cond.selects yX7_seen.cls yX7_seen yX7_seen ∈ sT := ⟨(sT_4 194 rfl rfl), (sT_4 195 rfl rfl)⟩
theorem mX7_share : sM yX7_share cX7_share 2 (some .int) 1 := ⟨(sT_4 176 rfl rfl), (sT_1 13 rfl rfl), by decide +kernel, by decide +kernel, by decide⟩
theorem vX7_share : Cond.instanceMethod yX7_share ∈ sT ∧ Cond.selects yX7_share.cls yX7_share yX7_share ∈ sT := ⟨(sT_4 174 rfl rfl), (sT_4 175 rfl rfl)⟩
theorem mX7_slice : sM yX7_slice cX7_slice 4 (some .int) 2 := ⟨(sT_4 58 rfl rfl), (sT_1 13 rfl rfl), by decide +kernel, by decide +kernel, by decide⟩
theorem vX7_slice : Cond.instanceMethod yX7_slice ∈ sT ∧ Cond.selects yX7_slice.cls yX7_slice yX7_slice ∈ sT := ⟨(sT_4 56 rfl rfl), (sT_4 57 rfl rfl)⟩
theorem mX7_take : sM yX7_take cX7_take 3 (some .int) 2 := ⟨(sT_4 108 rfl rfl), (sT_1 13 rfl rfl), by decide +kernel, by decide +kernel, by decide⟩
theorem vX7_take : Cond.instanceMethod yX7_take ∈ sT ∧ Cond.selects yX7_take.cls yX7_take yX7_take ∈ sT := ⟨(sT_4 106 rfl rfl), (sT_4 107 rfl rfl)⟩
theorem mX7_takeDraft : sM yX7_takeDraft cX7_takeDraft 2 none 0 := ⟨(sT_3 171 rfl rfl), (sT_1 13 rfl rfl), by decide +kernel, by decide +kernel, by decide⟩
theorem vX7_takeDraft : Cond.instanceMethod yX7_takeDraft ∈ sT ∧ Cond.selects yX7_takeDraft.cls yX7_takeDraft yX7_takeDraft ∈ sT := ⟨(sT_3 170 rfl rfl), (sT_p 14 rfl rfl)⟩
theorem mX7_takeNow : sM yX7_takeNow cX7_takeNow 2 none 0 := ⟨(sT_4 136 rfl rfl), (sT_1 13 rfl rfl), by decide +kernel, by decide +kernel, by decide⟩
theorem vX7_takeNow : Cond.instanceMethod yX7_takeNow ∈ sT ∧ Cond.selects yX7_takeNow.cls yX7_takeNow yX7_takeNow ∈ sT := ⟨(sT_4 135 rfl rfl), (sT_p 30 rfl rfl)⟩
theorem mX7_takeRight : sM yX7_takeRight cX7_takeRight 3 none 1 := ⟨(sT_4 222 rfl rfl), (sT_1 13 rfl rfl), by decide +kernel, by decide +kernel, by decide⟩
theorem vX7_takeRight : Cond.instanceMethod yX7_takeRight ∈ sT ∧ Cond.selects yX7_takeRight.cls yX7_takeRight yX7_takeRight ∈ sT := ⟨(sT_4 221 rfl rfl), (sT_p 38 rfl rfl)⟩
theorem mX7_undo : sM yX7_undo cX7_undo 2 (some .int) 0 := ⟨(sT_4 124 rfl rfl), (sT_1 13 rfl rfl), by decide +kernel, by decide +kernel, by decide⟩
theorem vX7_undo : Cond.instanceMethod yX7_undo ∈ sT ∧ Cond.selects yX7_undo.cls yX7_undo yX7_undo ∈ sT := ⟨(sT_4 122 rfl rfl), (sT_4 123 rfl rfl)⟩
theorem mX7_waits : sM yX7_waits cX7_waits 5 (some .int) 2 := ⟨(sT_4 164 rfl rfl), (sT_1 13 rfl rfl), by decide +kernel, by decide +kernel, by decide⟩
theorem vX7_waits : Cond.instanceMethod yX7_waits ∈ sT ∧ Cond.selects yX7_waits.cls yX7_waits yX7_waits ∈ sT := ⟨(sT_4 162 rfl rfl), (sT_4 163 rfl rfl)⟩
theorem mX7_willBe : sM yX7_willBe cX7_willBe 2 (some .int) 1 := ⟨(sT_4 132 rfl rfl), (sT_1 13 rfl rfl), by decide +kernel, by decide +kernel, by decide⟩
theorem vX7_willBe : Cond.instanceMethod yX7_willBe ∈ sT ∧ Cond.selects yX7_willBe.cls yX7_willBe yX7_willBe ∈ sT := ⟨(sT_4 130 rfl rfl), (sT_4 131 rfl rfl)⟩
theorem mX7_wipe : sM yX7_wipe cX7_wipe 2 (some .int) 0 := ⟨(sT_4 21 rfl rfl), (sT_1 13 rfl rfl), by decide +kernel, by decide +kernel, by decide⟩
theorem vX7_wipe : Cond.instanceMethod yX7_wipe ∈ sT ∧ Cond.selects yX7_wipe.cls yX7_wipe yX7_wipe ∈ sT := ⟨(sT_4 19 rfl rfl), (sT_4 20 rfl rfl)⟩
theorem mX7_write : sM yX7_write cX7_write 2 (some .int) 1 := ⟨(sT_4 14 rfl rfl), (sT_1 13 rfl rfl), by decide +kernel, by decide +kernel, by decide⟩
theorem vX7_write : Cond.instanceMethod yX7_write ∈ sT ∧ Cond.selects yX7_write.cls yX7_write yX7_write ∈ sT := ⟨(sT_4 12 rfl rfl), (sT_4 13 rfl rfl)⟩
theorem kL_100r {x1 : Int32} {x2 : Int32} {x3 : Int32} {x4 : Int32} (hd : decode cc pc = .ok (.invokevirtual 100, 3)) (hy : y.cls = RL) (hsh : B.2.1[o]? = some (.inr (.inl (7, fl)))) (h2 : CS B yX7_seen cX7_seen 5 (some .int) d2 (.ref (s_ad B o) :: [.int x1, .int x2, .int x3, .int x4]) S Q2) (hd2 : d2 < d) (hst : (st.map fun v => v.category).sum ≤ 8) (k : ∀ (r : Int32) (S' : sSt), Q2 (some (.int r)) S' → WS B E y cc mL rt d (pc + 3) lv (.int r :: st) S' Q) : WS B E y cc mL rt d pc lv (.int x4 :: .int x3 :: .int x2 :: .int x1 :: .ref (s_ad B o) :: st) S Q :=
  x_V4i h2 hsh rfl mX7_seen (Nat.le_of_ble_eq_true rfl) (by rw [hy]; exact sT_4 193 rfl rfl) vX7_seen hd2 hst hd (fun r S' _ hq => k r S' hq)
theorem kL_100 {x1 : Int32} {x2 : Int32} {x3 : Int32} {x4 : Int32} {f : Int32} {S0 : sSt} (hd : decode cc pc = .ok (.invokevirtual 100, 3)) (hy : y.cls = RL) (hsh : B.2.1[o]? = some (.inr (.inl (7, fl)))) (h2 : CS B yX7_seen cX7_seen 5 (some .int) d2 (.ref (s_ad B o) :: [.int x1, .int x2, .int x3, .int x4]) S (qI f S0)) (hd2 : d2 < d) (hst : (st.map fun v => v.category).sum ≤ 8) (k : WS B E y cc mL rt d (pc + 3) lv (.int f :: st) S0 Q) : WS B E y cc mL rt d pc lv (.int x4 :: .int x3 :: .int x2 :: .int x1 :: .ref (s_ad B o) :: st) S Q :=
  kL_100r hd hy hsh h2 hd2 hst (fun r S' hq => by obtain ⟨h1, rfl⟩ := hq; cases h1; exact k)
theorem kL_101r  (hd : decode cc pc = .ok (.invokevirtual 101, 3)) (hy : y.cls = RL) (hsh : B.2.1[o]? = some (.inr (.inl (6, fl)))) (h2 : CS B yX6_forget cX6_forget 2 (some .int) d2 (.ref (s_ad B o) :: []) S Q2) (hd2 : d2 < d) (hst : (st.map fun v => v.category).sum ≤ 8) (k : ∀ (r : Int32) (S' : sSt), Q2 (some (.int r)) S' → WS B E y cc mL rt d (pc + 3) lv (.int r :: st) S' Q) : WS B E y cc mL rt d pc lv (.ref (s_ad B o) :: st) S Q :=
  x_V0i h2 hsh rfl mX6_forget (Nat.le_of_ble_eq_true rfl) (by rw [hy]; exact sT_3 99 rfl rfl) vX6_forget hd2 hst hd (fun r S' _ hq => k r S' hq)
theorem kL_101  {f : Int32} {S0 : sSt} (hd : decode cc pc = .ok (.invokevirtual 101, 3)) (hy : y.cls = RL) (hsh : B.2.1[o]? = some (.inr (.inl (6, fl)))) (h2 : CS B yX6_forget cX6_forget 2 (some .int) d2 (.ref (s_ad B o) :: []) S (qI f S0)) (hd2 : d2 < d) (hst : (st.map fun v => v.category).sum ≤ 8) (k : WS B E y cc mL rt d (pc + 3) lv (.int f :: st) S0 Q) : WS B E y cc mL rt d pc lv (.ref (s_ad B o) :: st) S Q :=
  kL_101r hd hy hsh h2 hd2 hst (fun r S' hq => by obtain ⟨h1, rfl⟩ := hq; cases h1; exact k)
theorem kL_104r  (hd : decode cc pc = .ok (.invokevirtual 104, 3)) (hy : y.cls = RL) (hsh : B.2.1[o]? = some (.inr (.inl (7, fl)))) (h2 : CS B yX7_forget cX7_forget 2 (some .int) d2 (.ref (s_ad B o) :: []) S Q2) (hd2 : d2 < d) (hst : (st.map fun v => v.category).sum ≤ 8) (k : ∀ (r : Int32) (S' : sSt), Q2 (some (.int r)) S' → WS B E y cc mL rt d (pc + 3) lv (.int r :: st) S' Q) : WS B E y cc mL rt d pc lv (.ref (s_ad B o) :: st) S Q :=
  x_V0i h2 hsh rfl mX7_forget (Nat.le_of_ble_eq_true rfl) (by rw [hy]; exact sT_4 197 rfl rfl) vX7_forget hd2 hst hd (fun r S' _ hq => k r S' hq)
theorem kL_104  {f : Int32} {S0 : sSt} (hd : decode cc pc = .ok (.invokevirtual 104, 3)) (hy : y.cls = RL) (hsh : B.2.1[o]? = some (.inr (.inl (7, fl)))) (h2 : CS B yX7_forget cX7_forget 2 (some .int) d2 (.ref (s_ad B o) :: []) S (qI f S0)) (hd2 : d2 < d) (hst : (st.map fun v => v.category).sum ≤ 8) (k : WS B E y cc mL rt d (pc + 3) lv (.int f :: st) S0 Q) : WS B E y cc mL rt d pc lv (.ref (s_ad B o) :: st) S Q :=
  kL_104r hd hy hsh h2 hd2 hst (fun r S' hq => by obtain ⟨h1, rfl⟩ := hq; cases h1; exact k)
theorem kL_105r {x1 : Int32} (hd : decode cc pc = .ok (.invokevirtual 105, 3)) (hy : y.cls = RL) (hsh : B.2.1[o]? = some (.inr (.inl (6, fl)))) (h2 : CS B yX6_hot cX6_hot 5 (some .int) d2 (.ref (s_ad B o) :: [.int x1]) S Q2) (hd2 : d2 < d) (hst : (st.map fun v => v.category).sum ≤ 8) (k : ∀ (r : Int32) (S' : sSt), Q2 (some (.int r)) S' → WS B E y cc mL rt d (pc + 3) lv (.int r :: st) S' Q) : WS B E y cc mL rt d pc lv (.int x1 :: .ref (s_ad B o) :: st) S Q :=
  x_V1i h2 hsh rfl mX6_hot (Nat.le_of_ble_eq_true rfl) (by rw [hy]; exact sT_3 103 rfl rfl) vX6_hot hd2 hst hd (fun r S' _ hq => k r S' hq)
theorem kL_105 {x1 : Int32} {f : Int32} {S0 : sSt} (hd : decode cc pc = .ok (.invokevirtual 105, 3)) (hy : y.cls = RL) (hsh : B.2.1[o]? = some (.inr (.inl (6, fl)))) (h2 : CS B yX6_hot cX6_hot 5 (some .int) d2 (.ref (s_ad B o) :: [.int x1]) S (qI f S0)) (hd2 : d2 < d) (hst : (st.map fun v => v.category).sum ≤ 8) (k : WS B E y cc mL rt d (pc + 3) lv (.int f :: st) S0 Q) : WS B E y cc mL rt d pc lv (.int x1 :: .ref (s_ad B o) :: st) S Q :=
  kL_105r hd hy hsh h2 hd2 hst (fun r S' hq => by obtain ⟨h1, rfl⟩ := hq; cases h1; exact k)
theorem kL_108r {x1 : Int32} (hd : decode cc pc = .ok (.invokevirtual 108, 3)) (hy : y.cls = RL) (hsh : B.2.1[o]? = some (.inr (.inl (7, fl)))) (h2 : CS B yX7_hot cX7_hot 8 (some .int) d2 (.ref (s_ad B o) :: [.int x1]) S Q2) (hd2 : d2 < d) (hst : (st.map fun v => v.category).sum ≤ 8) (k : ∀ (r : Int32) (S' : sSt), Q2 (some (.int r)) S' → WS B E y cc mL rt d (pc + 3) lv (.int r :: st) S' Q) : WS B E y cc mL rt d pc lv (.int x1 :: .ref (s_ad B o) :: st) S Q :=
  x_V1i h2 hsh rfl mX7_hot (Nat.le_of_ble_eq_true rfl) (by rw [hy]; exact sT_4 201 rfl rfl) vX7_hot hd2 hst hd (fun r S' _ hq => k r S' hq)
theorem kL_108 {x1 : Int32} {f : Int32} {S0 : sSt} (hd : decode cc pc = .ok (.invokevirtual 108, 3)) (hy : y.cls = RL) (hsh : B.2.1[o]? = some (.inr (.inl (7, fl)))) (h2 : CS B yX7_hot cX7_hot 8 (some .int) d2 (.ref (s_ad B o) :: [.int x1]) S (qI f S0)) (hd2 : d2 < d) (hst : (st.map fun v => v.category).sum ≤ 8) (k : WS B E y cc mL rt d (pc + 3) lv (.int f :: st) S0 Q) : WS B E y cc mL rt d pc lv (.int x1 :: .ref (s_ad B o) :: st) S Q :=
  kL_108r hd hy hsh h2 hd2 hst (fun r S' hq => by obtain ⟨h1, rfl⟩ := hq; cases h1; exact k)
theorem kL_109r {x1 : Int32} {x2 : Int32} {x3 : Int32} (hd : decode cc pc = .ok (.invokevirtual 109, 3)) (hy : y.cls = RL) (hsh : B.2.1[o]? = some (.inr (.inl (6, fl)))) (h2 : CS B yX6_left cX6_left 7 (some .int) d2 (.ref (s_ad B o) :: [.int x1, .int x2, .int x3]) S Q2) (hd2 : d2 < d) (hst : (st.map fun v => v.category).sum ≤ 8) (k : ∀ (r : Int32) (S' : sSt), Q2 (some (.int r)) S' → WS B E y cc mL rt d (pc + 3) lv (.int r :: st) S' Q) : WS B E y cc mL rt d pc lv (.int x3 :: .int x2 :: .int x1 :: .ref (s_ad B o) :: st) S Q :=
  x_V3i h2 hsh rfl mX6_left (Nat.le_of_ble_eq_true rfl) (by rw [hy]; exact sT_3 113 rfl rfl) vX6_left hd2 hst hd (fun r S' _ hq => k r S' hq)
theorem kL_109 {x1 : Int32} {x2 : Int32} {x3 : Int32} {f : Int32} {S0 : sSt} (hd : decode cc pc = .ok (.invokevirtual 109, 3)) (hy : y.cls = RL) (hsh : B.2.1[o]? = some (.inr (.inl (6, fl)))) (h2 : CS B yX6_left cX6_left 7 (some .int) d2 (.ref (s_ad B o) :: [.int x1, .int x2, .int x3]) S (qI f S0)) (hd2 : d2 < d) (hst : (st.map fun v => v.category).sum ≤ 8) (k : WS B E y cc mL rt d (pc + 3) lv (.int f :: st) S0 Q) : WS B E y cc mL rt d pc lv (.int x3 :: .int x2 :: .int x1 :: .ref (s_ad B o) :: st) S Q :=
  kL_109r hd hy hsh h2 hd2 hst (fun r S' hq => by obtain ⟨h1, rfl⟩ := hq; cases h1; exact k)
theorem kL_113r {x1 : Int32} {x2 : Int32} {x3 : Int32} (hd : decode cc pc = .ok (.invokevirtual 113, 3)) (hy : y.cls = RL) (hsh : B.2.1[o]? = some (.inr (.inl (7, fl)))) (h2 : CS B yX7_left cX7_left 6 (some .int) d2 (.ref (s_ad B o) :: [.int x1, .int x2, .int x3]) S Q2) (hd2 : d2 < d) (hst : (st.map fun v => v.category).sum ≤ 8) (k : ∀ (r : Int32) (S' : sSt), Q2 (some (.int r)) S' → WS B E y cc mL rt d (pc + 3) lv (.int r :: st) S' Q) : WS B E y cc mL rt d pc lv (.int x3 :: .int x2 :: .int x1 :: .ref (s_ad B o) :: st) S Q :=
  x_V3i h2 hsh rfl mX7_left (Nat.le_of_ble_eq_true rfl) (by rw [hy]; exact sT_4 205 rfl rfl) vX7_left hd2 hst hd (fun r S' _ hq => k r S' hq)
theorem kL_113 {x1 : Int32} {x2 : Int32} {x3 : Int32} {f : Int32} {S0 : sSt} (hd : decode cc pc = .ok (.invokevirtual 113, 3)) (hy : y.cls = RL) (hsh : B.2.1[o]? = some (.inr (.inl (7, fl)))) (h2 : CS B yX7_left cX7_left 6 (some .int) d2 (.ref (s_ad B o) :: [.int x1, .int x2, .int x3]) S (qI f S0)) (hd2 : d2 < d) (hst : (st.map fun v => v.category).sum ≤ 8) (k : WS B E y cc mL rt d (pc + 3) lv (.int f :: st) S0 Q) : WS B E y cc mL rt d pc lv (.int x3 :: .int x2 :: .int x1 :: .ref (s_ad B o) :: st) S Q :=
  kL_113r hd hy hsh h2 hd2 hst (fun r S' hq => by obtain ⟨h1, rfl⟩ := hq; cases h1; exact k)
theorem kL_114r {x1 : Int32} {x2 : Int32} {x3 : Int32} (hd : decode cc pc = .ok (.invokevirtual 114, 3)) (hy : y.cls = RL) (hsh : B.2.1[o]? = some (.inr (.inl (6, fl)))) (h2 : CS B yX6_morning cX6_morning 5 (some .int) d2 (.ref (s_ad B o) :: [.int x1, .int x2, .int x3]) S Q2) (hd2 : d2 < d) (hst : (st.map fun v => v.category).sum ≤ 8) (k : ∀ (r : Int32) (S' : sSt), Q2 (some (.int r)) S' → WS B E y cc mL rt d (pc + 3) lv (.int r :: st) S' Q) : WS B E y cc mL rt d pc lv (.int x3 :: .int x2 :: .int x1 :: .ref (s_ad B o) :: st) S Q :=
  x_V3i h2 hsh rfl mX6_morning (Nat.le_of_ble_eq_true rfl) (by rw [hy]; exact sT_3 124 rfl rfl) vX6_morning hd2 hst hd (fun r S' _ hq => k r S' hq)
theorem kL_114 {x1 : Int32} {x2 : Int32} {x3 : Int32} {f : Int32} {S0 : sSt} (hd : decode cc pc = .ok (.invokevirtual 114, 3)) (hy : y.cls = RL) (hsh : B.2.1[o]? = some (.inr (.inl (6, fl)))) (h2 : CS B yX6_morning cX6_morning 5 (some .int) d2 (.ref (s_ad B o) :: [.int x1, .int x2, .int x3]) S (qI f S0)) (hd2 : d2 < d) (hst : (st.map fun v => v.category).sum ≤ 8) (k : WS B E y cc mL rt d (pc + 3) lv (.int f :: st) S0 Q) : WS B E y cc mL rt d pc lv (.int x3 :: .int x2 :: .int x1 :: .ref (s_ad B o) :: st) S Q :=
  kL_114r hd hy hsh h2 hd2 hst (fun r S' hq => by obtain ⟨h1, rfl⟩ := hq; cases h1; exact k)
theorem kL_117r {x1 : Int32} {x2 : Int32} {x3 : Int32} (hd : decode cc pc = .ok (.invokevirtual 117, 3)) (hy : y.cls = RL) (hsh : B.2.1[o]? = some (.inr (.inl (7, fl)))) (h2 : CS B yX7_morning cX7_morning 10 (some .int) d2 (.ref (s_ad B o) :: [.int x1, .int x2, .int x3]) S Q2) (hd2 : d2 < d) (hst : (st.map fun v => v.category).sum ≤ 8) (k : ∀ (r : Int32) (S' : sSt), Q2 (some (.int r)) S' → WS B E y cc mL rt d (pc + 3) lv (.int r :: st) S' Q) : WS B E y cc mL rt d pc lv (.int x3 :: .int x2 :: .int x1 :: .ref (s_ad B o) :: st) S Q :=
  x_V3i h2 hsh rfl mX7_morning (Nat.le_of_ble_eq_true rfl) (by rw [hy]; exact sT_4 212 rfl rfl) vX7_morning hd2 hst hd (fun r S' _ hq => k r S' hq)
theorem kL_117 {x1 : Int32} {x2 : Int32} {x3 : Int32} {f : Int32} {S0 : sSt} (hd : decode cc pc = .ok (.invokevirtual 117, 3)) (hy : y.cls = RL) (hsh : B.2.1[o]? = some (.inr (.inl (7, fl)))) (h2 : CS B yX7_morning cX7_morning 10 (some .int) d2 (.ref (s_ad B o) :: [.int x1, .int x2, .int x3]) S (qI f S0)) (hd2 : d2 < d) (hst : (st.map fun v => v.category).sum ≤ 8) (k : WS B E y cc mL rt d (pc + 3) lv (.int f :: st) S0 Q) : WS B E y cc mL rt d pc lv (.int x3 :: .int x2 :: .int x1 :: .ref (s_ad B o) :: st) S Q :=
  kL_117r hd hy hsh h2 hd2 hst (fun r S' hq => by obtain ⟨h1, rfl⟩ := hq; cases h1; exact k)
theorem kL_118r  (hd : decode cc pc = .ok (.invokevirtual 118, 3)) (hy : y.cls = RL) (hsh : B.2.1[o]? = some (.inr (.inl (6, fl)))) (h2 : CS B yX6_keep cX6_keep 1 (some .int) d2 (.ref (s_ad B o) :: []) S Q2) (hd2 : d2 < d) (hst : (st.map fun v => v.category).sum ≤ 8) (k : ∀ (r : Int32) (S' : sSt), Q2 (some (.int r)) S' → WS B E y cc mL rt d (pc + 3) lv (.int r :: st) S' Q) : WS B E y cc mL rt d pc lv (.ref (s_ad B o) :: st) S Q :=
  x_V0i h2 hsh rfl mX6_keep (Nat.le_of_ble_eq_true rfl) (by rw [hy]; exact sT_3 146 rfl rfl) vX6_keep hd2 hst hd (fun r S' _ hq => k r S' hq)
theorem kL_118  {f : Int32} {S0 : sSt} (hd : decode cc pc = .ok (.invokevirtual 118, 3)) (hy : y.cls = RL) (hsh : B.2.1[o]? = some (.inr (.inl (6, fl)))) (h2 : CS B yX6_keep cX6_keep 1 (some .int) d2 (.ref (s_ad B o) :: []) S (qI f S0)) (hd2 : d2 < d) (hst : (st.map fun v => v.category).sum ≤ 8) (k : WS B E y cc mL rt d (pc + 3) lv (.int f :: st) S0 Q) : WS B E y cc mL rt d pc lv (.ref (s_ad B o) :: st) S Q :=
  kL_118r hd hy hsh h2 hd2 hst (fun r S' hq => by obtain ⟨h1, rfl⟩ := hq; cases h1; exact k)
theorem kL_121r  (hd : decode cc pc = .ok (.invokevirtual 121, 3)) (hy : y.cls = RL) (hsh : B.2.1[o]? = some (.inr (.inl (7, fl)))) (h2 : CS B yX7_keep cX7_keep 2 (some .int) d2 (.ref (s_ad B o) :: []) S Q2) (hd2 : d2 < d) (hst : (st.map fun v => v.category).sum ≤ 8) (k : ∀ (r : Int32) (S' : sSt), Q2 (some (.int r)) S' → WS B E y cc mL rt d (pc + 3) lv (.int r :: st) S' Q) : WS B E y cc mL rt d pc lv (.ref (s_ad B o) :: st) S Q :=
  x_V0i h2 hsh rfl mX7_keep (Nat.le_of_ble_eq_true rfl) (by rw [hy]; exact sT_4 223 rfl rfl) vX7_keep hd2 hst hd (fun r S' _ hq => k r S' hq)
theorem kL_121  {f : Int32} {S0 : sSt} (hd : decode cc pc = .ok (.invokevirtual 121, 3)) (hy : y.cls = RL) (hsh : B.2.1[o]? = some (.inr (.inl (7, fl)))) (h2 : CS B yX7_keep cX7_keep 2 (some .int) d2 (.ref (s_ad B o) :: []) S (qI f S0)) (hd2 : d2 < d) (hst : (st.map fun v => v.category).sum ≤ 8) (k : WS B E y cc mL rt d (pc + 3) lv (.int f :: st) S0 Q) : WS B E y cc mL rt d pc lv (.ref (s_ad B o) :: st) S Q :=
  kL_121r hd hy hsh h2 hd2 hst (fun r S' hq => by obtain ⟨h1, rfl⟩ := hq; cases h1; exact k)
theorem kL_122r  (hd : decode cc pc = .ok (.invokevirtual 122, 3)) (hy : y.cls = RL) (hsh : B.2.1[o]? = some (.inr (.inl (6, fl)))) (h2 : CS B yX6_back cX6_back 1 (some .int) d2 (.ref (s_ad B o) :: []) S Q2) (hd2 : d2 < d) (hst : (st.map fun v => v.category).sum ≤ 8) (k : ∀ (r : Int32) (S' : sSt), Q2 (some (.int r)) S' → WS B E y cc mL rt d (pc + 3) lv (.int r :: st) S' Q) : WS B E y cc mL rt d pc lv (.ref (s_ad B o) :: st) S Q :=
  x_V0i h2 hsh rfl mX6_back (Nat.le_of_ble_eq_true rfl) (by rw [hy]; exact sT_3 150 rfl rfl) vX6_back hd2 hst hd (fun r S' _ hq => k r S' hq)
theorem kL_122  {f : Int32} {S0 : sSt} (hd : decode cc pc = .ok (.invokevirtual 122, 3)) (hy : y.cls = RL) (hsh : B.2.1[o]? = some (.inr (.inl (6, fl)))) (h2 : CS B yX6_back cX6_back 1 (some .int) d2 (.ref (s_ad B o) :: []) S (qI f S0)) (hd2 : d2 < d) (hst : (st.map fun v => v.category).sum ≤ 8) (k : WS B E y cc mL rt d (pc + 3) lv (.int f :: st) S0 Q) : WS B E y cc mL rt d pc lv (.ref (s_ad B o) :: st) S Q :=
  kL_122r hd hy hsh h2 hd2 hst (fun r S' hq => by obtain ⟨h1, rfl⟩ := hq; cases h1; exact k)
theorem kL_125r  (hd : decode cc pc = .ok (.invokevirtual 125, 3)) (hy : y.cls = RL) (hsh : B.2.1[o]? = some (.inr (.inl (7, fl)))) (h2 : CS B yX7_back cX7_back 2 (some .int) d2 (.ref (s_ad B o) :: []) S Q2) (hd2 : d2 < d) (hst : (st.map fun v => v.category).sum ≤ 8) (k : ∀ (r : Int32) (S' : sSt), Q2 (some (.int r)) S' → WS B E y cc mL rt d (pc + 3) lv (.int r :: st) S' Q) : WS B E y cc mL rt d pc lv (.ref (s_ad B o) :: st) S Q :=
  x_V0i h2 hsh rfl mX7_back (Nat.le_of_ble_eq_true rfl) (by rw [hy]; exact sT_4 227 rfl rfl) vX7_back hd2 hst hd (fun r S' _ hq => k r S' hq)
theorem kL_125  {f : Int32} {S0 : sSt} (hd : decode cc pc = .ok (.invokevirtual 125, 3)) (hy : y.cls = RL) (hsh : B.2.1[o]? = some (.inr (.inl (7, fl)))) (h2 : CS B yX7_back cX7_back 2 (some .int) d2 (.ref (s_ad B o) :: []) S (qI f S0)) (hd2 : d2 < d) (hst : (st.map fun v => v.category).sum ≤ 8) (k : WS B E y cc mL rt d (pc + 3) lv (.int f :: st) S0 Q) : WS B E y cc mL rt d pc lv (.ref (s_ad B o) :: st) S Q :=
  kL_125r hd hy hsh h2 hd2 hst (fun r S' hq => by obtain ⟨h1, rfl⟩ := hq; cases h1; exact k)
theorem kL_126r {x1 : Int32} (hd : decode cc pc = .ok (.invokevirtual 126, 3)) (hy : y.cls = RL) (hsh : B.2.1[o]? = some (.inr (.inl (6, fl)))) (h2 : CS B yX6_count cX6_count 2 (some .int) d2 (.ref (s_ad B o) :: [.int x1]) S Q2) (hd2 : d2 < d) (hst : (st.map fun v => v.category).sum ≤ 8) (k : ∀ (r : Int32) (S' : sSt), Q2 (some (.int r)) S' → WS B E y cc mL rt d (pc + 3) lv (.int r :: st) S' Q) : WS B E y cc mL rt d pc lv (.int x1 :: .ref (s_ad B o) :: st) S Q :=
  x_V1i h2 hsh rfl mX6_count (Nat.le_of_ble_eq_true rfl) (by rw [hy]; exact sT_3 154 rfl rfl) vX6_count hd2 hst hd (fun r S' _ hq => k r S' hq)
theorem kL_126 {x1 : Int32} {f : Int32} {S0 : sSt} (hd : decode cc pc = .ok (.invokevirtual 126, 3)) (hy : y.cls = RL) (hsh : B.2.1[o]? = some (.inr (.inl (6, fl)))) (h2 : CS B yX6_count cX6_count 2 (some .int) d2 (.ref (s_ad B o) :: [.int x1]) S (qI f S0)) (hd2 : d2 < d) (hst : (st.map fun v => v.category).sum ≤ 8) (k : WS B E y cc mL rt d (pc + 3) lv (.int f :: st) S0 Q) : WS B E y cc mL rt d pc lv (.int x1 :: .ref (s_ad B o) :: st) S Q :=
  kL_126r hd hy hsh h2 hd2 hst (fun r S' hq => by obtain ⟨h1, rfl⟩ := hq; cases h1; exact k)
theorem kL_129r {x1 : Int32} (hd : decode cc pc = .ok (.invokevirtual 129, 3)) (hy : y.cls = RL) (hsh : B.2.1[o]? = some (.inr (.inl (7, fl)))) (h2 : CS B yX7_count cX7_count 2 (some .int) d2 (.ref (s_ad B o) :: [.int x1]) S Q2) (hd2 : d2 < d) (hst : (st.map fun v => v.category).sum ≤ 8) (k : ∀ (r : Int32) (S' : sSt), Q2 (some (.int r)) S' → WS B E y cc mL rt d (pc + 3) lv (.int r :: st) S' Q) : WS B E y cc mL rt d pc lv (.int x1 :: .ref (s_ad B o) :: st) S Q :=
  x_V1i h2 hsh rfl mX7_count (Nat.le_of_ble_eq_true rfl) (by rw [hy]; exact sT_4 231 rfl rfl) vX7_count hd2 hst hd (fun r S' _ hq => k r S' hq)
theorem kL_129 {x1 : Int32} {f : Int32} {S0 : sSt} (hd : decode cc pc = .ok (.invokevirtual 129, 3)) (hy : y.cls = RL) (hsh : B.2.1[o]? = some (.inr (.inl (7, fl)))) (h2 : CS B yX7_count cX7_count 2 (some .int) d2 (.ref (s_ad B o) :: [.int x1]) S (qI f S0)) (hd2 : d2 < d) (hst : (st.map fun v => v.category).sum ≤ 8) (k : WS B E y cc mL rt d (pc + 3) lv (.int f :: st) S0 Q) : WS B E y cc mL rt d pc lv (.int x1 :: .ref (s_ad B o) :: st) S Q :=
  kL_129r hd hy hsh h2 hd2 hst (fun r S' hq => by obtain ⟨h1, rfl⟩ := hq; cases h1; exact k)
theorem kL_13r {x1 : Int32} (hd : decode cc pc = .ok (.invokevirtual 13, 3)) (hy : y.cls = RL) (hsh : B.2.1[o]? = some (.inr (.inl (6, fl)))) (h2 : CS B yX6_write cX6_write 2 (some .int) d2 (.ref (s_ad B o) :: [.int x1]) S Q2) (hd2 : d2 < d) (hst : (st.map fun v => v.category).sum ≤ 8) (k : ∀ (r : Int32) (S' : sSt), Q2 (some (.int r)) S' → WS B E y cc mL rt d (pc + 3) lv (.int r :: st) S' Q) : WS B E y cc mL rt d pc lv (.int x1 :: .ref (s_ad B o) :: st) S Q :=
  x_V1i h2 hsh rfl mX6_write (Nat.le_of_ble_eq_true rfl) (by rw [hy]; exact sT_2 124 rfl rfl) vX6_write hd2 hst hd (fun r S' _ hq => k r S' hq)
theorem kL_13 {x1 : Int32} {f : Int32} {S0 : sSt} (hd : decode cc pc = .ok (.invokevirtual 13, 3)) (hy : y.cls = RL) (hsh : B.2.1[o]? = some (.inr (.inl (6, fl)))) (h2 : CS B yX6_write cX6_write 2 (some .int) d2 (.ref (s_ad B o) :: [.int x1]) S (qI f S0)) (hd2 : d2 < d) (hst : (st.map fun v => v.category).sum ≤ 8) (k : WS B E y cc mL rt d (pc + 3) lv (.int f :: st) S0 Q) : WS B E y cc mL rt d pc lv (.int x1 :: .ref (s_ad B o) :: st) S Q :=
  kL_13r hd hy hsh h2 hd2 hst (fun r S' hq => by obtain ⟨h1, rfl⟩ := hq; cases h1; exact k)
theorem kL_17r {x1 : Int32} (hd : decode cc pc = .ok (.invokevirtual 17, 3)) (hy : y.cls = RL) (hsh : B.2.1[o]? = some (.inr (.inl (7, fl)))) (h2 : CS B yX7_write cX7_write 2 (some .int) d2 (.ref (s_ad B o) :: [.int x1]) S Q2) (hd2 : d2 < d) (hst : (st.map fun v => v.category).sum ≤ 8) (k : ∀ (r : Int32) (S' : sSt), Q2 (some (.int r)) S' → WS B E y cc mL rt d (pc + 3) lv (.int r :: st) S' Q) : WS B E y cc mL rt d pc lv (.int x1 :: .ref (s_ad B o) :: st) S Q :=
  x_V1i h2 hsh rfl mX7_write (Nat.le_of_ble_eq_true rfl) (by rw [hy]; exact sT_4 11 rfl rfl) vX7_write hd2 hst hd (fun r S' _ hq => k r S' hq)
theorem kL_17 {x1 : Int32} {f : Int32} {S0 : sSt} (hd : decode cc pc = .ok (.invokevirtual 17, 3)) (hy : y.cls = RL) (hsh : B.2.1[o]? = some (.inr (.inl (7, fl)))) (h2 : CS B yX7_write cX7_write 2 (some .int) d2 (.ref (s_ad B o) :: [.int x1]) S (qI f S0)) (hd2 : d2 < d) (hst : (st.map fun v => v.category).sum ≤ 8) (k : WS B E y cc mL rt d (pc + 3) lv (.int f :: st) S0 Q) : WS B E y cc mL rt d pc lv (.int x1 :: .ref (s_ad B o) :: st) S Q :=
  kL_17r hd hy hsh h2 hd2 hst (fun r S' hq => by obtain ⟨h1, rfl⟩ := hq; cases h1; exact k)
theorem kL_18r  (hd : decode cc pc = .ok (.invokevirtual 18, 3)) (hy : y.cls = RL) (hsh : B.2.1[o]? = some (.inr (.inl (6, fl)))) (h2 : CS B yX6_wipe cX6_wipe 2 (some .int) d2 (.ref (s_ad B o) :: []) S Q2) (hd2 : d2 < d) (hst : (st.map fun v => v.category).sum ≤ 8) (k : ∀ (r : Int32) (S' : sSt), Q2 (some (.int r)) S' → WS B E y cc mL rt d (pc + 3) lv (.int r :: st) S' Q) : WS B E y cc mL rt d pc lv (.ref (s_ad B o) :: st) S Q :=
  x_V0i h2 hsh rfl mX6_wipe (Nat.le_of_ble_eq_true rfl) (by rw [hy]; exact sT_2 132 rfl rfl) vX6_wipe hd2 hst hd (fun r S' _ hq => k r S' hq)
theorem kL_18  {f : Int32} {S0 : sSt} (hd : decode cc pc = .ok (.invokevirtual 18, 3)) (hy : y.cls = RL) (hsh : B.2.1[o]? = some (.inr (.inl (6, fl)))) (h2 : CS B yX6_wipe cX6_wipe 2 (some .int) d2 (.ref (s_ad B o) :: []) S (qI f S0)) (hd2 : d2 < d) (hst : (st.map fun v => v.category).sum ≤ 8) (k : WS B E y cc mL rt d (pc + 3) lv (.int f :: st) S0 Q) : WS B E y cc mL rt d pc lv (.ref (s_ad B o) :: st) S Q :=
  kL_18r hd hy hsh h2 hd2 hst (fun r S' hq => by obtain ⟨h1, rfl⟩ := hq; cases h1; exact k)
theorem kL_22r  (hd : decode cc pc = .ok (.invokevirtual 22, 3)) (hy : y.cls = RL) (hsh : B.2.1[o]? = some (.inr (.inl (7, fl)))) (h2 : CS B yX7_wipe cX7_wipe 2 (some .int) d2 (.ref (s_ad B o) :: []) S Q2) (hd2 : d2 < d) (hst : (st.map fun v => v.category).sum ≤ 8) (k : ∀ (r : Int32) (S' : sSt), Q2 (some (.int r)) S' → WS B E y cc mL rt d (pc + 3) lv (.int r :: st) S' Q) : WS B E y cc mL rt d pc lv (.ref (s_ad B o) :: st) S Q :=
  x_V0i h2 hsh rfl mX7_wipe (Nat.le_of_ble_eq_true rfl) (by rw [hy]; exact sT_4 18 rfl rfl) vX7_wipe hd2 hst hd (fun r S' _ hq => k r S' hq)
theorem kL_22  {f : Int32} {S0 : sSt} (hd : decode cc pc = .ok (.invokevirtual 22, 3)) (hy : y.cls = RL) (hsh : B.2.1[o]? = some (.inr (.inl (7, fl)))) (h2 : CS B yX7_wipe cX7_wipe 2 (some .int) d2 (.ref (s_ad B o) :: []) S (qI f S0)) (hd2 : d2 < d) (hst : (st.map fun v => v.category).sum ≤ 8) (k : WS B E y cc mL rt d (pc + 3) lv (.int f :: st) S0 Q) : WS B E y cc mL rt d pc lv (.ref (s_ad B o) :: st) S Q :=
  kL_22r hd hy hsh h2 hd2 hst (fun r S' hq => by obtain ⟨h1, rfl⟩ := hq; cases h1; exact k)
theorem kL_23r  (hd : decode cc pc = .ok (.invokevirtual 23, 3)) (hy : y.cls = RL) (hsh : B.2.1[o]? = some (.inr (.inl (6, fl)))) (h2 : CS B yX6_fault cX6_fault 1 (some .int) d2 (.ref (s_ad B o) :: []) S Q2) (hd2 : d2 < d) (hst : (st.map fun v => v.category).sum ≤ 8) (k : ∀ (r : Int32) (S' : sSt), Q2 (some (.int r)) S' → WS B E y cc mL rt d (pc + 3) lv (.int r :: st) S' Q) : WS B E y cc mL rt d pc lv (.ref (s_ad B o) :: st) S Q :=
  x_V0i h2 hsh rfl mX6_fault (Nat.le_of_ble_eq_true rfl) (by rw [hy]; exact sT_2 136 rfl rfl) vX6_fault hd2 hst hd (fun r S' _ hq => k r S' hq)
theorem kL_23  {f : Int32} {S0 : sSt} (hd : decode cc pc = .ok (.invokevirtual 23, 3)) (hy : y.cls = RL) (hsh : B.2.1[o]? = some (.inr (.inl (6, fl)))) (h2 : CS B yX6_fault cX6_fault 1 (some .int) d2 (.ref (s_ad B o) :: []) S (qI f S0)) (hd2 : d2 < d) (hst : (st.map fun v => v.category).sum ≤ 8) (k : WS B E y cc mL rt d (pc + 3) lv (.int f :: st) S0 Q) : WS B E y cc mL rt d pc lv (.ref (s_ad B o) :: st) S Q :=
  kL_23r hd hy hsh h2 hd2 hst (fun r S' hq => by obtain ⟨h1, rfl⟩ := hq; cases h1; exact k)
theorem kL_26r  (hd : decode cc pc = .ok (.invokevirtual 26, 3)) (hy : y.cls = RL) (hsh : B.2.1[o]? = some (.inr (.inl (7, fl)))) (h2 : CS B yX7_fault cX7_fault 2 (some .int) d2 (.ref (s_ad B o) :: []) S Q2) (hd2 : d2 < d) (hst : (st.map fun v => v.category).sum ≤ 8) (k : ∀ (r : Int32) (S' : sSt), Q2 (some (.int r)) S' → WS B E y cc mL rt d (pc + 3) lv (.int r :: st) S' Q) : WS B E y cc mL rt d pc lv (.ref (s_ad B o) :: st) S Q :=
  x_V0i h2 hsh rfl mX7_fault (Nat.le_of_ble_eq_true rfl) (by rw [hy]; exact sT_4 22 rfl rfl) vX7_fault hd2 hst hd (fun r S' _ hq => k r S' hq)
theorem kL_26  {f : Int32} {S0 : sSt} (hd : decode cc pc = .ok (.invokevirtual 26, 3)) (hy : y.cls = RL) (hsh : B.2.1[o]? = some (.inr (.inl (7, fl)))) (h2 : CS B yX7_fault cX7_fault 2 (some .int) d2 (.ref (s_ad B o) :: []) S (qI f S0)) (hd2 : d2 < d) (hst : (st.map fun v => v.category).sum ≤ 8) (k : WS B E y cc mL rt d (pc + 3) lv (.int f :: st) S0 Q) : WS B E y cc mL rt d pc lv (.ref (s_ad B o) :: st) S Q :=
  kL_26r hd hy hsh h2 hd2 hst (fun r S' hq => by obtain ⟨h1, rfl⟩ := hq; cases h1; exact k)
theorem kL_27r  (hd : decode cc pc = .ok (.invokevirtual 27, 3)) (hy : y.cls = RL) (hsh : B.2.1[o]? = some (.inr (.inl (6, fl)))) (h2 : CS B yX6_lay cX6_lay 1 (some .int) d2 (.ref (s_ad B o) :: []) S Q2) (hd2 : d2 < d) (hst : (st.map fun v => v.category).sum ≤ 8) (k : ∀ (r : Int32) (S' : sSt), Q2 (some (.int r)) S' → WS B E y cc mL rt d (pc + 3) lv (.int r :: st) S' Q) : WS B E y cc mL rt d pc lv (.ref (s_ad B o) :: st) S Q :=
  x_V0i h2 hsh rfl mX6_lay (Nat.le_of_ble_eq_true rfl) (by rw [hy]; exact sT_2 140 rfl rfl) vX6_lay hd2 hst hd (fun r S' _ hq => k r S' hq)
theorem kL_27  {f : Int32} {S0 : sSt} (hd : decode cc pc = .ok (.invokevirtual 27, 3)) (hy : y.cls = RL) (hsh : B.2.1[o]? = some (.inr (.inl (6, fl)))) (h2 : CS B yX6_lay cX6_lay 1 (some .int) d2 (.ref (s_ad B o) :: []) S (qI f S0)) (hd2 : d2 < d) (hst : (st.map fun v => v.category).sum ≤ 8) (k : WS B E y cc mL rt d (pc + 3) lv (.int f :: st) S0 Q) : WS B E y cc mL rt d pc lv (.ref (s_ad B o) :: st) S Q :=
  kL_27r hd hy hsh h2 hd2 hst (fun r S' hq => by obtain ⟨h1, rfl⟩ := hq; cases h1; exact k)
theorem kL_30r  (hd : decode cc pc = .ok (.invokevirtual 30, 3)) (hy : y.cls = RL) (hsh : B.2.1[o]? = some (.inr (.inl (7, fl)))) (h2 : CS B yX7_lay cX7_lay 1 (some .int) d2 (.ref (s_ad B o) :: []) S Q2) (hd2 : d2 < d) (hst : (st.map fun v => v.category).sum ≤ 8) (k : ∀ (r : Int32) (S' : sSt), Q2 (some (.int r)) S' → WS B E y cc mL rt d (pc + 3) lv (.int r :: st) S' Q) : WS B E y cc mL rt d pc lv (.ref (s_ad B o) :: st) S Q :=
  x_V0i h2 hsh rfl mX7_lay (Nat.le_of_ble_eq_true rfl) (by rw [hy]; exact sT_4 42 rfl rfl) vX7_lay hd2 hst hd (fun r S' _ hq => k r S' hq)
theorem kL_30  {f : Int32} {S0 : sSt} (hd : decode cc pc = .ok (.invokevirtual 30, 3)) (hy : y.cls = RL) (hsh : B.2.1[o]? = some (.inr (.inl (7, fl)))) (h2 : CS B yX7_lay cX7_lay 1 (some .int) d2 (.ref (s_ad B o) :: []) S (qI f S0)) (hd2 : d2 < d) (hst : (st.map fun v => v.category).sum ≤ 8) (k : WS B E y cc mL rt d (pc + 3) lv (.int f :: st) S0 Q) : WS B E y cc mL rt d pc lv (.ref (s_ad B o) :: st) S Q :=
  kL_30r hd hy hsh h2 hd2 hst (fun r S' hq => by obtain ⟨h1, rfl⟩ := hq; cases h1; exact k)
theorem kL_31r {x1 : Int32} {x2 : Int32} (hd : decode cc pc = .ok (.invokevirtual 31, 3)) (hy : y.cls = RL) (hsh : B.2.1[o]? = some (.inr (.inl (6, fl)))) (h2 : CS B yX6_guest cX6_guest 3 (some .int) d2 (.ref (s_ad B o) :: [.int x1, .int x2]) S Q2) (hd2 : d2 < d) (hst : (st.map fun v => v.category).sum ≤ 8) (k : ∀ (r : Int32) (S' : sSt), Q2 (some (.int r)) S' → WS B E y cc mL rt d (pc + 3) lv (.int r :: st) S' Q) : WS B E y cc mL rt d pc lv (.int x2 :: .int x1 :: .ref (s_ad B o) :: st) S Q :=
  x_V2i h2 hsh rfl mX6_guest (Nat.le_of_ble_eq_true rfl) (by rw [hy]; exact sT_2 144 rfl rfl) vX6_guest hd2 hst hd (fun r S' _ hq => k r S' hq)
theorem kL_31 {x1 : Int32} {x2 : Int32} {f : Int32} {S0 : sSt} (hd : decode cc pc = .ok (.invokevirtual 31, 3)) (hy : y.cls = RL) (hsh : B.2.1[o]? = some (.inr (.inl (6, fl)))) (h2 : CS B yX6_guest cX6_guest 3 (some .int) d2 (.ref (s_ad B o) :: [.int x1, .int x2]) S (qI f S0)) (hd2 : d2 < d) (hst : (st.map fun v => v.category).sum ≤ 8) (k : WS B E y cc mL rt d (pc + 3) lv (.int f :: st) S0 Q) : WS B E y cc mL rt d pc lv (.int x2 :: .int x1 :: .ref (s_ad B o) :: st) S Q :=
  kL_31r hd hy hsh h2 hd2 hst (fun r S' hq => by obtain ⟨h1, rfl⟩ := hq; cases h1; exact k)
theorem kL_35r {x1 : Int32} {x2 : Int32} (hd : decode cc pc = .ok (.invokevirtual 35, 3)) (hy : y.cls = RL) (hsh : B.2.1[o]? = some (.inr (.inl (7, fl)))) (h2 : CS B yX7_guest cX7_guest 5 (some .int) d2 (.ref (s_ad B o) :: [.int x1, .int x2]) S Q2) (hd2 : d2 < d) (hst : (st.map fun v => v.category).sum ≤ 8) (k : ∀ (r : Int32) (S' : sSt), Q2 (some (.int r)) S' → WS B E y cc mL rt d (pc + 3) lv (.int r :: st) S' Q) : WS B E y cc mL rt d pc lv (.int x2 :: .int x1 :: .ref (s_ad B o) :: st) S Q :=
  x_V2i h2 hsh rfl mX7_guest (Nat.le_of_ble_eq_true rfl) (by rw [hy]; exact sT_4 47 rfl rfl) vX7_guest hd2 hst hd (fun r S' _ hq => k r S' hq)
theorem kL_35 {x1 : Int32} {x2 : Int32} {f : Int32} {S0 : sSt} (hd : decode cc pc = .ok (.invokevirtual 35, 3)) (hy : y.cls = RL) (hsh : B.2.1[o]? = some (.inr (.inl (7, fl)))) (h2 : CS B yX7_guest cX7_guest 5 (some .int) d2 (.ref (s_ad B o) :: [.int x1, .int x2]) S (qI f S0)) (hd2 : d2 < d) (hst : (st.map fun v => v.category).sum ≤ 8) (k : WS B E y cc mL rt d (pc + 3) lv (.int f :: st) S0 Q) : WS B E y cc mL rt d pc lv (.int x2 :: .int x1 :: .ref (s_ad B o) :: st) S Q :=
  kL_35r hd hy hsh h2 hd2 hst (fun r S' hq => by obtain ⟨h1, rfl⟩ := hq; cases h1; exact k)
theorem kL_36r {x1 : Int32} {x2 : Int32} (hd : decode cc pc = .ok (.invokevirtual 36, 3)) (hy : y.cls = RL) (hsh : B.2.1[o]? = some (.inr (.inl (6, fl)))) (h2 : CS B yX6_slice cX6_slice 4 (some .int) d2 (.ref (s_ad B o) :: [.int x1, .int x2]) S Q2) (hd2 : d2 < d) (hst : (st.map fun v => v.category).sum ≤ 8) (k : ∀ (r : Int32) (S' : sSt), Q2 (some (.int r)) S' → WS B E y cc mL rt d (pc + 3) lv (.int r :: st) S' Q) : WS B E y cc mL rt d pc lv (.int x2 :: .int x1 :: .ref (s_ad B o) :: st) S Q :=
  x_V2i h2 hsh rfl mX6_slice (Nat.le_of_ble_eq_true rfl) (by rw [hy]; exact sT_2 156 rfl rfl) vX6_slice hd2 hst hd (fun r S' _ hq => k r S' hq)
theorem kL_36 {x1 : Int32} {x2 : Int32} {f : Int32} {S0 : sSt} (hd : decode cc pc = .ok (.invokevirtual 36, 3)) (hy : y.cls = RL) (hsh : B.2.1[o]? = some (.inr (.inl (6, fl)))) (h2 : CS B yX6_slice cX6_slice 4 (some .int) d2 (.ref (s_ad B o) :: [.int x1, .int x2]) S (qI f S0)) (hd2 : d2 < d) (hst : (st.map fun v => v.category).sum ≤ 8) (k : WS B E y cc mL rt d (pc + 3) lv (.int f :: st) S0 Q) : WS B E y cc mL rt d pc lv (.int x2 :: .int x1 :: .ref (s_ad B o) :: st) S Q :=
  kL_36r hd hy hsh h2 hd2 hst (fun r S' hq => by obtain ⟨h1, rfl⟩ := hq; cases h1; exact k)
theorem kL_39r {x1 : Int32} {x2 : Int32} (hd : decode cc pc = .ok (.invokevirtual 39, 3)) (hy : y.cls = RL) (hsh : B.2.1[o]? = some (.inr (.inl (7, fl)))) (h2 : CS B yX7_slice cX7_slice 4 (some .int) d2 (.ref (s_ad B o) :: [.int x1, .int x2]) S Q2) (hd2 : d2 < d) (hst : (st.map fun v => v.category).sum ≤ 8) (k : ∀ (r : Int32) (S' : sSt), Q2 (some (.int r)) S' → WS B E y cc mL rt d (pc + 3) lv (.int r :: st) S' Q) : WS B E y cc mL rt d pc lv (.int x2 :: .int x1 :: .ref (s_ad B o) :: st) S Q :=
  x_V2i h2 hsh rfl mX7_slice (Nat.le_of_ble_eq_true rfl) (by rw [hy]; exact sT_4 55 rfl rfl) vX7_slice hd2 hst hd (fun r S' _ hq => k r S' hq)
theorem kL_39 {x1 : Int32} {x2 : Int32} {f : Int32} {S0 : sSt} (hd : decode cc pc = .ok (.invokevirtual 39, 3)) (hy : y.cls = RL) (hsh : B.2.1[o]? = some (.inr (.inl (7, fl)))) (h2 : CS B yX7_slice cX7_slice 4 (some .int) d2 (.ref (s_ad B o) :: [.int x1, .int x2]) S (qI f S0)) (hd2 : d2 < d) (hst : (st.map fun v => v.category).sum ≤ 8) (k : WS B E y cc mL rt d (pc + 3) lv (.int f :: st) S0 Q) : WS B E y cc mL rt d pc lv (.int x2 :: .int x1 :: .ref (s_ad B o) :: st) S Q :=
  kL_39r hd hy hsh h2 hd2 hst (fun r S' hq => by obtain ⟨h1, rfl⟩ := hq; cases h1; exact k)
theorem kL_40r {x1 : Int32} {x2 : Int32} (hd : decode cc pc = .ok (.invokevirtual 40, 3)) (hy : y.cls = RL) (hsh : B.2.1[o]? = some (.inr (.inl (6, fl)))) (h2 : CS B yX6_putIn cX6_putIn 3 (some .int) d2 (.ref (s_ad B o) :: [.int x1, .int x2]) S Q2) (hd2 : d2 < d) (hst : (st.map fun v => v.category).sum ≤ 8) (k : ∀ (r : Int32) (S' : sSt), Q2 (some (.int r)) S' → WS B E y cc mL rt d (pc + 3) lv (.int r :: st) S' Q) : WS B E y cc mL rt d pc lv (.int x2 :: .int x1 :: .ref (s_ad B o) :: st) S Q :=
  x_V2i h2 hsh rfl mX6_putIn (Nat.le_of_ble_eq_true rfl) (by rw [hy]; exact sT_2 165 rfl rfl) vX6_putIn hd2 hst hd (fun r S' _ hq => k r S' hq)
theorem kL_40 {x1 : Int32} {x2 : Int32} {f : Int32} {S0 : sSt} (hd : decode cc pc = .ok (.invokevirtual 40, 3)) (hy : y.cls = RL) (hsh : B.2.1[o]? = some (.inr (.inl (6, fl)))) (h2 : CS B yX6_putIn cX6_putIn 3 (some .int) d2 (.ref (s_ad B o) :: [.int x1, .int x2]) S (qI f S0)) (hd2 : d2 < d) (hst : (st.map fun v => v.category).sum ≤ 8) (k : WS B E y cc mL rt d (pc + 3) lv (.int f :: st) S0 Q) : WS B E y cc mL rt d pc lv (.int x2 :: .int x1 :: .ref (s_ad B o) :: st) S Q :=
  kL_40r hd hy hsh h2 hd2 hst (fun r S' hq => by obtain ⟨h1, rfl⟩ := hq; cases h1; exact k)
theorem kL_43r {x1 : Int32} {x2 : Int32} (hd : decode cc pc = .ok (.invokevirtual 43, 3)) (hy : y.cls = RL) (hsh : B.2.1[o]? = some (.inr (.inl (7, fl)))) (h2 : CS B yX7_putIn cX7_putIn 3 (some .int) d2 (.ref (s_ad B o) :: [.int x1, .int x2]) S Q2) (hd2 : d2 < d) (hst : (st.map fun v => v.category).sum ≤ 8) (k : ∀ (r : Int32) (S' : sSt), Q2 (some (.int r)) S' → WS B E y cc mL rt d (pc + 3) lv (.int r :: st) S' Q) : WS B E y cc mL rt d pc lv (.int x2 :: .int x1 :: .ref (s_ad B o) :: st) S Q :=
  x_V2i h2 hsh rfl mX7_putIn (Nat.le_of_ble_eq_true rfl) (by rw [hy]; exact sT_4 63 rfl rfl) vX7_putIn hd2 hst hd (fun r S' _ hq => k r S' hq)
theorem kL_43 {x1 : Int32} {x2 : Int32} {f : Int32} {S0 : sSt} (hd : decode cc pc = .ok (.invokevirtual 43, 3)) (hy : y.cls = RL) (hsh : B.2.1[o]? = some (.inr (.inl (7, fl)))) (h2 : CS B yX7_putIn cX7_putIn 3 (some .int) d2 (.ref (s_ad B o) :: [.int x1, .int x2]) S (qI f S0)) (hd2 : d2 < d) (hst : (st.map fun v => v.category).sum ≤ 8) (k : WS B E y cc mL rt d (pc + 3) lv (.int f :: st) S0 Q) : WS B E y cc mL rt d pc lv (.int x2 :: .int x1 :: .ref (s_ad B o) :: st) S Q :=
  kL_43r hd hy hsh h2 hd2 hst (fun r S' hq => by obtain ⟨h1, rfl⟩ := hq; cases h1; exact k)
theorem kL_44r {x1 : Int32} (hd : decode cc pc = .ok (.invokevirtual 44, 3)) (hy : y.cls = RL) (hsh : B.2.1[o]? = some (.inr (.inl (6, fl)))) (h2 : CS B yX6_pass cX6_pass 4 (some .int) d2 (.ref (s_ad B o) :: [.int x1]) S Q2) (hd2 : d2 < d) (hst : (st.map fun v => v.category).sum ≤ 8) (k : ∀ (r : Int32) (S' : sSt), Q2 (some (.int r)) S' → WS B E y cc mL rt d (pc + 3) lv (.int r :: st) S' Q) : WS B E y cc mL rt d pc lv (.int x1 :: .ref (s_ad B o) :: st) S Q :=
  x_V1i h2 hsh rfl mX6_pass (Nat.le_of_ble_eq_true rfl) (by rw [hy]; exact sT_2 200 rfl rfl) vX6_pass hd2 hst hd (fun r S' _ hq => k r S' hq)
theorem kL_44 {x1 : Int32} {f : Int32} {S0 : sSt} (hd : decode cc pc = .ok (.invokevirtual 44, 3)) (hy : y.cls = RL) (hsh : B.2.1[o]? = some (.inr (.inl (6, fl)))) (h2 : CS B yX6_pass cX6_pass 4 (some .int) d2 (.ref (s_ad B o) :: [.int x1]) S (qI f S0)) (hd2 : d2 < d) (hst : (st.map fun v => v.category).sum ≤ 8) (k : WS B E y cc mL rt d (pc + 3) lv (.int f :: st) S0 Q) : WS B E y cc mL rt d pc lv (.int x1 :: .ref (s_ad B o) :: st) S Q :=
  kL_44r hd hy hsh h2 hd2 hst (fun r S' hq => by obtain ⟨h1, rfl⟩ := hq; cases h1; exact k)
theorem kL_47r {x1 : Int32} (hd : decode cc pc = .ok (.invokevirtual 47, 3)) (hy : y.cls = RL) (hsh : B.2.1[o]? = some (.inr (.inl (7, fl)))) (h2 : CS B yX7_pass cX7_pass 4 (some .int) d2 (.ref (s_ad B o) :: [.int x1]) S Q2) (hd2 : d2 < d) (hst : (st.map fun v => v.category).sum ≤ 8) (k : ∀ (r : Int32) (S' : sSt), Q2 (some (.int r)) S' → WS B E y cc mL rt d (pc + 3) lv (.int r :: st) S' Q) : WS B E y cc mL rt d pc lv (.int x1 :: .ref (s_ad B o) :: st) S Q :=
  x_V1i h2 hsh rfl mX7_pass (Nat.le_of_ble_eq_true rfl) (by rw [hy]; exact sT_4 90 rfl rfl) vX7_pass hd2 hst hd (fun r S' _ hq => k r S' hq)
theorem kL_47 {x1 : Int32} {f : Int32} {S0 : sSt} (hd : decode cc pc = .ok (.invokevirtual 47, 3)) (hy : y.cls = RL) (hsh : B.2.1[o]? = some (.inr (.inl (7, fl)))) (h2 : CS B yX7_pass cX7_pass 4 (some .int) d2 (.ref (s_ad B o) :: [.int x1]) S (qI f S0)) (hd2 : d2 < d) (hst : (st.map fun v => v.category).sum ≤ 8) (k : WS B E y cc mL rt d (pc + 3) lv (.int f :: st) S0 Q) : WS B E y cc mL rt d pc lv (.int x1 :: .ref (s_ad B o) :: st) S Q :=
  kL_47r hd hy hsh h2 hd2 hst (fun r S' hq => by obtain ⟨h1, rfl⟩ := hq; cases h1; exact k)
theorem kL_48r {x1 : Int32} (hd : decode cc pc = .ok (.invokevirtual 48, 3)) (hy : y.cls = RL) (hsh : B.2.1[o]? = some (.inr (.inl (6, fl)))) (h2 : CS B yX6_knob cX6_knob 3 (some .int) d2 (.ref (s_ad B o) :: [.int x1]) S Q2) (hd2 : d2 < d) (hst : (st.map fun v => v.category).sum ≤ 8) (k : ∀ (r : Int32) (S' : sSt), Q2 (some (.int r)) S' → WS B E y cc mL rt d (pc + 3) lv (.int r :: st) S' Q) : WS B E y cc mL rt d pc lv (.int x1 :: .ref (s_ad B o) :: st) S Q :=
  x_V1i h2 hsh rfl mX6_knob (Nat.le_of_ble_eq_true rfl) (by rw [hy]; exact sT_2 220 rfl rfl) vX6_knob hd2 hst hd (fun r S' _ hq => k r S' hq)
theorem kL_48 {x1 : Int32} {f : Int32} {S0 : sSt} (hd : decode cc pc = .ok (.invokevirtual 48, 3)) (hy : y.cls = RL) (hsh : B.2.1[o]? = some (.inr (.inl (6, fl)))) (h2 : CS B yX6_knob cX6_knob 3 (some .int) d2 (.ref (s_ad B o) :: [.int x1]) S (qI f S0)) (hd2 : d2 < d) (hst : (st.map fun v => v.category).sum ≤ 8) (k : WS B E y cc mL rt d (pc + 3) lv (.int f :: st) S0 Q) : WS B E y cc mL rt d pc lv (.int x1 :: .ref (s_ad B o) :: st) S Q :=
  kL_48r hd hy hsh h2 hd2 hst (fun r S' hq => by obtain ⟨h1, rfl⟩ := hq; cases h1; exact k)
theorem kL_51r {x1 : Int32} (hd : decode cc pc = .ok (.invokevirtual 51, 3)) (hy : y.cls = RL) (hsh : B.2.1[o]? = some (.inr (.inl (7, fl)))) (h2 : CS B yX7_knob cX7_knob 3 (some .int) d2 (.ref (s_ad B o) :: [.int x1]) S Q2) (hd2 : d2 < d) (hst : (st.map fun v => v.category).sum ≤ 8) (k : ∀ (r : Int32) (S' : sSt), Q2 (some (.int r)) S' → WS B E y cc mL rt d (pc + 3) lv (.int r :: st) S' Q) : WS B E y cc mL rt d pc lv (.int x1 :: .ref (s_ad B o) :: st) S Q :=
  x_V1i h2 hsh rfl mX7_knob (Nat.le_of_ble_eq_true rfl) (by rw [hy]; exact sT_4 101 rfl rfl) vX7_knob hd2 hst hd (fun r S' _ hq => k r S' hq)
theorem kL_51 {x1 : Int32} {f : Int32} {S0 : sSt} (hd : decode cc pc = .ok (.invokevirtual 51, 3)) (hy : y.cls = RL) (hsh : B.2.1[o]? = some (.inr (.inl (7, fl)))) (h2 : CS B yX7_knob cX7_knob 3 (some .int) d2 (.ref (s_ad B o) :: [.int x1]) S (qI f S0)) (hd2 : d2 < d) (hst : (st.map fun v => v.category).sum ≤ 8) (k : WS B E y cc mL rt d (pc + 3) lv (.int f :: st) S0 Q) : WS B E y cc mL rt d pc lv (.int x1 :: .ref (s_ad B o) :: st) S Q :=
  kL_51r hd hy hsh h2 hd2 hst (fun r S' hq => by obtain ⟨h1, rfl⟩ := hq; cases h1; exact k)
theorem kL_52r {x1 : Int32} {x2 : Int32} (hd : decode cc pc = .ok (.invokevirtual 52, 3)) (hy : y.cls = RL) (hsh : B.2.1[o]? = some (.inr (.inl (6, fl)))) (h2 : CS B yX6_take cX6_take 3 (some .int) d2 (.ref (s_ad B o) :: [.int x1, .int x2]) S Q2) (hd2 : d2 < d) (hst : (st.map fun v => v.category).sum ≤ 8) (k : ∀ (r : Int32) (S' : sSt), Q2 (some (.int r)) S' → WS B E y cc mL rt d (pc + 3) lv (.int r :: st) S' Q) : WS B E y cc mL rt d pc lv (.int x2 :: .int x1 :: .ref (s_ad B o) :: st) S Q :=
  x_V2i h2 hsh rfl mX6_take (Nat.le_of_ble_eq_true rfl) (by rw [hy]; exact sT_2 225 rfl rfl) vX6_take hd2 hst hd (fun r S' _ hq => k r S' hq)
theorem kL_52 {x1 : Int32} {x2 : Int32} {f : Int32} {S0 : sSt} (hd : decode cc pc = .ok (.invokevirtual 52, 3)) (hy : y.cls = RL) (hsh : B.2.1[o]? = some (.inr (.inl (6, fl)))) (h2 : CS B yX6_take cX6_take 3 (some .int) d2 (.ref (s_ad B o) :: [.int x1, .int x2]) S (qI f S0)) (hd2 : d2 < d) (hst : (st.map fun v => v.category).sum ≤ 8) (k : WS B E y cc mL rt d (pc + 3) lv (.int f :: st) S0 Q) : WS B E y cc mL rt d pc lv (.int x2 :: .int x1 :: .ref (s_ad B o) :: st) S Q :=
  kL_52r hd hy hsh h2 hd2 hst (fun r S' hq => by obtain ⟨h1, rfl⟩ := hq; cases h1; exact k)
theorem kL_55r {x1 : Int32} {x2 : Int32} (hd : decode cc pc = .ok (.invokevirtual 55, 3)) (hy : y.cls = RL) (hsh : B.2.1[o]? = some (.inr (.inl (7, fl)))) (h2 : CS B yX7_take cX7_take 3 (some .int) d2 (.ref (s_ad B o) :: [.int x1, .int x2]) S Q2) (hd2 : d2 < d) (hst : (st.map fun v => v.category).sum ≤ 8) (k : ∀ (r : Int32) (S' : sSt), Q2 (some (.int r)) S' → WS B E y cc mL rt d (pc + 3) lv (.int r :: st) S' Q) : WS B E y cc mL rt d pc lv (.int x2 :: .int x1 :: .ref (s_ad B o) :: st) S Q :=
  x_V2i h2 hsh rfl mX7_take (Nat.le_of_ble_eq_true rfl) (by rw [hy]; exact sT_4 105 rfl rfl) vX7_take hd2 hst hd (fun r S' _ hq => k r S' hq)
theorem kL_55 {x1 : Int32} {x2 : Int32} {f : Int32} {S0 : sSt} (hd : decode cc pc = .ok (.invokevirtual 55, 3)) (hy : y.cls = RL) (hsh : B.2.1[o]? = some (.inr (.inl (7, fl)))) (h2 : CS B yX7_take cX7_take 3 (some .int) d2 (.ref (s_ad B o) :: [.int x1, .int x2]) S (qI f S0)) (hd2 : d2 < d) (hst : (st.map fun v => v.category).sum ≤ 8) (k : WS B E y cc mL rt d (pc + 3) lv (.int f :: st) S0 Q) : WS B E y cc mL rt d pc lv (.int x2 :: .int x1 :: .ref (s_ad B o) :: st) S Q :=
  kL_55r hd hy hsh h2 hd2 hst (fun r S' hq => by obtain ⟨h1, rfl⟩ := hq; cases h1; exact k)
theorem kL_56r  (hd : decode cc pc = .ok (.invokevirtual 56, 3)) (hy : y.cls = RL) (hsh : B.2.1[o]? = some (.inr (.inl (6, fl)))) (h2 : CS B yX6_undo cX6_undo 1 (some .int) d2 (.ref (s_ad B o) :: []) S Q2) (hd2 : d2 < d) (hst : (st.map fun v => v.category).sum ≤ 8) (k : ∀ (r : Int32) (S' : sSt), Q2 (some (.int r)) S' → WS B E y cc mL rt d (pc + 3) lv (.int r :: st) S' Q) : WS B E y cc mL rt d pc lv (.ref (s_ad B o) :: st) S Q :=
  x_V0i h2 hsh rfl mX6_undo (Nat.le_of_ble_eq_true rfl) (by rw [hy]; exact sT_2 238 rfl rfl) vX6_undo hd2 hst hd (fun r S' _ hq => k r S' hq)
theorem kL_56  {f : Int32} {S0 : sSt} (hd : decode cc pc = .ok (.invokevirtual 56, 3)) (hy : y.cls = RL) (hsh : B.2.1[o]? = some (.inr (.inl (6, fl)))) (h2 : CS B yX6_undo cX6_undo 1 (some .int) d2 (.ref (s_ad B o) :: []) S (qI f S0)) (hd2 : d2 < d) (hst : (st.map fun v => v.category).sum ≤ 8) (k : WS B E y cc mL rt d (pc + 3) lv (.int f :: st) S0 Q) : WS B E y cc mL rt d pc lv (.ref (s_ad B o) :: st) S Q :=
  kL_56r hd hy hsh h2 hd2 hst (fun r S' hq => by obtain ⟨h1, rfl⟩ := hq; cases h1; exact k)
theorem kL_59r  (hd : decode cc pc = .ok (.invokevirtual 59, 3)) (hy : y.cls = RL) (hsh : B.2.1[o]? = some (.inr (.inl (7, fl)))) (h2 : CS B yX7_undo cX7_undo 2 (some .int) d2 (.ref (s_ad B o) :: []) S Q2) (hd2 : d2 < d) (hst : (st.map fun v => v.category).sum ≤ 8) (k : ∀ (r : Int32) (S' : sSt), Q2 (some (.int r)) S' → WS B E y cc mL rt d (pc + 3) lv (.int r :: st) S' Q) : WS B E y cc mL rt d pc lv (.ref (s_ad B o) :: st) S Q :=
  x_V0i h2 hsh rfl mX7_undo (Nat.le_of_ble_eq_true rfl) (by rw [hy]; exact sT_4 121 rfl rfl) vX7_undo hd2 hst hd (fun r S' _ hq => k r S' hq)
theorem kL_59  {f : Int32} {S0 : sSt} (hd : decode cc pc = .ok (.invokevirtual 59, 3)) (hy : y.cls = RL) (hsh : B.2.1[o]? = some (.inr (.inl (7, fl)))) (h2 : CS B yX7_undo cX7_undo 2 (some .int) d2 (.ref (s_ad B o) :: []) S (qI f S0)) (hd2 : d2 < d) (hst : (st.map fun v => v.category).sum ≤ 8) (k : WS B E y cc mL rt d (pc + 3) lv (.int f :: st) S0 Q) : WS B E y cc mL rt d pc lv (.ref (s_ad B o) :: st) S Q :=
  kL_59r hd hy hsh h2 hd2 hst (fun r S' hq => by obtain ⟨h1, rfl⟩ := hq; cases h1; exact k)
theorem kL_60r {x1 : Int32} (hd : decode cc pc = .ok (.invokevirtual 60, 3)) (hy : y.cls = RL) (hsh : B.2.1[o]? = some (.inr (.inl (6, fl)))) (h2 : CS B yX6_falls cX6_falls 2 (some .int) d2 (.ref (s_ad B o) :: [.int x1]) S Q2) (hd2 : d2 < d) (hst : (st.map fun v => v.category).sum ≤ 8) (k : ∀ (r : Int32) (S' : sSt), Q2 (some (.int r)) S' → WS B E y cc mL rt d (pc + 3) lv (.int r :: st) S' Q) : WS B E y cc mL rt d pc lv (.int x1 :: .ref (s_ad B o) :: st) S Q :=
  x_V1i h2 hsh rfl mX6_falls (Nat.le_of_ble_eq_true rfl) (by rw [hy]; exact sT_3 6 rfl rfl) vX6_falls hd2 hst hd (fun r S' _ hq => k r S' hq)
theorem kL_60 {x1 : Int32} {f : Int32} {S0 : sSt} (hd : decode cc pc = .ok (.invokevirtual 60, 3)) (hy : y.cls = RL) (hsh : B.2.1[o]? = some (.inr (.inl (6, fl)))) (h2 : CS B yX6_falls cX6_falls 2 (some .int) d2 (.ref (s_ad B o) :: [.int x1]) S (qI f S0)) (hd2 : d2 < d) (hst : (st.map fun v => v.category).sum ≤ 8) (k : WS B E y cc mL rt d (pc + 3) lv (.int f :: st) S0 Q) : WS B E y cc mL rt d pc lv (.int x1 :: .ref (s_ad B o) :: st) S Q :=
  kL_60r hd hy hsh h2 hd2 hst (fun r S' hq => by obtain ⟨h1, rfl⟩ := hq; cases h1; exact k)
theorem kL_63r {x1 : Int32} (hd : decode cc pc = .ok (.invokevirtual 63, 3)) (hy : y.cls = RL) (hsh : B.2.1[o]? = some (.inr (.inl (7, fl)))) (h2 : CS B yX7_falls cX7_falls 2 (some .int) d2 (.ref (s_ad B o) :: [.int x1]) S Q2) (hd2 : d2 < d) (hst : (st.map fun v => v.category).sum ≤ 8) (k : ∀ (r : Int32) (S' : sSt), Q2 (some (.int r)) S' → WS B E y cc mL rt d (pc + 3) lv (.int r :: st) S' Q) : WS B E y cc mL rt d pc lv (.int x1 :: .ref (s_ad B o) :: st) S Q :=
  x_V1i h2 hsh rfl mX7_falls (Nat.le_of_ble_eq_true rfl) (by rw [hy]; exact sT_4 125 rfl rfl) vX7_falls hd2 hst hd (fun r S' _ hq => k r S' hq)
theorem kL_63 {x1 : Int32} {f : Int32} {S0 : sSt} (hd : decode cc pc = .ok (.invokevirtual 63, 3)) (hy : y.cls = RL) (hsh : B.2.1[o]? = some (.inr (.inl (7, fl)))) (h2 : CS B yX7_falls cX7_falls 2 (some .int) d2 (.ref (s_ad B o) :: [.int x1]) S (qI f S0)) (hd2 : d2 < d) (hst : (st.map fun v => v.category).sum ≤ 8) (k : WS B E y cc mL rt d (pc + 3) lv (.int f :: st) S0 Q) : WS B E y cc mL rt d pc lv (.int x1 :: .ref (s_ad B o) :: st) S Q :=
  kL_63r hd hy hsh h2 hd2 hst (fun r S' hq => by obtain ⟨h1, rfl⟩ := hq; cases h1; exact k)
theorem kL_64r {x1 : Int32} (hd : decode cc pc = .ok (.invokevirtual 64, 3)) (hy : y.cls = RL) (hsh : B.2.1[o]? = some (.inr (.inl (6, fl)))) (h2 : CS B yX6_willBe cX6_willBe 2 (some .int) d2 (.ref (s_ad B o) :: [.int x1]) S Q2) (hd2 : d2 < d) (hst : (st.map fun v => v.category).sum ≤ 8) (k : ∀ (r : Int32) (S' : sSt), Q2 (some (.int r)) S' → WS B E y cc mL rt d (pc + 3) lv (.int r :: st) S' Q) : WS B E y cc mL rt d pc lv (.int x1 :: .ref (s_ad B o) :: st) S Q :=
  x_V1i h2 hsh rfl mX6_willBe (Nat.le_of_ble_eq_true rfl) (by rw [hy]; exact sT_3 13 rfl rfl) vX6_willBe hd2 hst hd (fun r S' _ hq => k r S' hq)
theorem kL_64 {x1 : Int32} {f : Int32} {S0 : sSt} (hd : decode cc pc = .ok (.invokevirtual 64, 3)) (hy : y.cls = RL) (hsh : B.2.1[o]? = some (.inr (.inl (6, fl)))) (h2 : CS B yX6_willBe cX6_willBe 2 (some .int) d2 (.ref (s_ad B o) :: [.int x1]) S (qI f S0)) (hd2 : d2 < d) (hst : (st.map fun v => v.category).sum ≤ 8) (k : WS B E y cc mL rt d (pc + 3) lv (.int f :: st) S0 Q) : WS B E y cc mL rt d pc lv (.int x1 :: .ref (s_ad B o) :: st) S Q :=
  kL_64r hd hy hsh h2 hd2 hst (fun r S' hq => by obtain ⟨h1, rfl⟩ := hq; cases h1; exact k)
theorem kL_67r {x1 : Int32} (hd : decode cc pc = .ok (.invokevirtual 67, 3)) (hy : y.cls = RL) (hsh : B.2.1[o]? = some (.inr (.inl (7, fl)))) (h2 : CS B yX7_willBe cX7_willBe 2 (some .int) d2 (.ref (s_ad B o) :: [.int x1]) S Q2) (hd2 : d2 < d) (hst : (st.map fun v => v.category).sum ≤ 8) (k : ∀ (r : Int32) (S' : sSt), Q2 (some (.int r)) S' → WS B E y cc mL rt d (pc + 3) lv (.int r :: st) S' Q) : WS B E y cc mL rt d pc lv (.int x1 :: .ref (s_ad B o) :: st) S Q :=
  x_V1i h2 hsh rfl mX7_willBe (Nat.le_of_ble_eq_true rfl) (by rw [hy]; exact sT_4 129 rfl rfl) vX7_willBe hd2 hst hd (fun r S' _ hq => k r S' hq)
theorem kL_67 {x1 : Int32} {f : Int32} {S0 : sSt} (hd : decode cc pc = .ok (.invokevirtual 67, 3)) (hy : y.cls = RL) (hsh : B.2.1[o]? = some (.inr (.inl (7, fl)))) (h2 : CS B yX7_willBe cX7_willBe 2 (some .int) d2 (.ref (s_ad B o) :: [.int x1]) S (qI f S0)) (hd2 : d2 < d) (hst : (st.map fun v => v.category).sum ≤ 8) (k : WS B E y cc mL rt d (pc + 3) lv (.int f :: st) S0 Q) : WS B E y cc mL rt d pc lv (.int x1 :: .ref (s_ad B o) :: st) S Q :=
  kL_67r hd hy hsh h2 hd2 hst (fun r S' hq => by obtain ⟨h1, rfl⟩ := hq; cases h1; exact k)
theorem kL_68r  (hd : decode cc pc = .ok (.invokevirtual 68, 3)) (hy : y.cls = RL) (hsh : B.2.1[o]? = some (.inr (.inl (6, fl)))) (h2 : CS B yX6_content cX6_content 1 (some .int) d2 (.ref (s_ad B o) :: []) S Q2) (hd2 : d2 < d) (hst : (st.map fun v => v.category).sum ≤ 8) (k : ∀ (r : Int32) (S' : sSt), Q2 (some (.int r)) S' → WS B E y cc mL rt d (pc + 3) lv (.int r :: st) S' Q) : WS B E y cc mL rt d pc lv (.ref (s_ad B o) :: st) S Q :=
  x_V0i h2 hsh rfl mX6_content (Nat.le_of_ble_eq_true rfl) (by rw [hy]; exact sT_3 23 rfl rfl) vX6_content hd2 hst hd (fun r S' _ hq => k r S' hq)
theorem kL_68  {f : Int32} {S0 : sSt} (hd : decode cc pc = .ok (.invokevirtual 68, 3)) (hy : y.cls = RL) (hsh : B.2.1[o]? = some (.inr (.inl (6, fl)))) (h2 : CS B yX6_content cX6_content 1 (some .int) d2 (.ref (s_ad B o) :: []) S (qI f S0)) (hd2 : d2 < d) (hst : (st.map fun v => v.category).sum ≤ 8) (k : WS B E y cc mL rt d (pc + 3) lv (.int f :: st) S0 Q) : WS B E y cc mL rt d pc lv (.ref (s_ad B o) :: st) S Q :=
  kL_68r hd hy hsh h2 hd2 hst (fun r S' hq => by obtain ⟨h1, rfl⟩ := hq; cases h1; exact k)
theorem kL_71r  (hd : decode cc pc = .ok (.invokevirtual 71, 3)) (hy : y.cls = RL) (hsh : B.2.1[o]? = some (.inr (.inl (7, fl)))) (h2 : CS B yX7_content cX7_content 1 (some .int) d2 (.ref (s_ad B o) :: []) S Q2) (hd2 : d2 < d) (hst : (st.map fun v => v.category).sum ≤ 8) (k : ∀ (r : Int32) (S' : sSt), Q2 (some (.int r)) S' → WS B E y cc mL rt d (pc + 3) lv (.int r :: st) S' Q) : WS B E y cc mL rt d pc lv (.ref (s_ad B o) :: st) S Q :=
  x_V0i h2 hsh rfl mX7_content (Nat.le_of_ble_eq_true rfl) (by rw [hy]; exact sT_4 141 rfl rfl) vX7_content hd2 hst hd (fun r S' _ hq => k r S' hq)
theorem kL_71  {f : Int32} {S0 : sSt} (hd : decode cc pc = .ok (.invokevirtual 71, 3)) (hy : y.cls = RL) (hsh : B.2.1[o]? = some (.inr (.inl (7, fl)))) (h2 : CS B yX7_content cX7_content 1 (some .int) d2 (.ref (s_ad B o) :: []) S (qI f S0)) (hd2 : d2 < d) (hst : (st.map fun v => v.category).sum ≤ 8) (k : WS B E y cc mL rt d (pc + 3) lv (.int f :: st) S0 Q) : WS B E y cc mL rt d pc lv (.ref (s_ad B o) :: st) S Q :=
  kL_71r hd hy hsh h2 hd2 hst (fun r S' hq => by obtain ⟨h1, rfl⟩ := hq; cases h1; exact k)
theorem kL_72r {x1 : Int32} {x2 : Int32} (hd : decode cc pc = .ok (.invokevirtual 72, 3)) (hy : y.cls = RL) (hsh : B.2.1[o]? = some (.inr (.inl (6, fl)))) (h2 : CS B yX6_knobFor cX6_knobFor 5 (some .int) d2 (.ref (s_ad B o) :: [.int x1, .int x2]) S Q2) (hd2 : d2 < d) (hst : (st.map fun v => v.category).sum ≤ 8) (k : ∀ (r : Int32) (S' : sSt), Q2 (some (.int r)) S' → WS B E y cc mL rt d (pc + 3) lv (.int r :: st) S' Q) : WS B E y cc mL rt d pc lv (.int x2 :: .int x1 :: .ref (s_ad B o) :: st) S Q :=
  x_V2i h2 hsh rfl mX6_knobFor (Nat.le_of_ble_eq_true rfl) (by rw [hy]; exact sT_3 32 rfl rfl) vX6_knobFor hd2 hst hd (fun r S' _ hq => k r S' hq)
theorem kL_72 {x1 : Int32} {x2 : Int32} {f : Int32} {S0 : sSt} (hd : decode cc pc = .ok (.invokevirtual 72, 3)) (hy : y.cls = RL) (hsh : B.2.1[o]? = some (.inr (.inl (6, fl)))) (h2 : CS B yX6_knobFor cX6_knobFor 5 (some .int) d2 (.ref (s_ad B o) :: [.int x1, .int x2]) S (qI f S0)) (hd2 : d2 < d) (hst : (st.map fun v => v.category).sum ≤ 8) (k : WS B E y cc mL rt d (pc + 3) lv (.int f :: st) S0 Q) : WS B E y cc mL rt d pc lv (.int x2 :: .int x1 :: .ref (s_ad B o) :: st) S Q :=
  kL_72r hd hy hsh h2 hd2 hst (fun r S' hq => by obtain ⟨h1, rfl⟩ := hq; cases h1; exact k)
theorem kL_75r {x1 : Int32} {x2 : Int32} (hd : decode cc pc = .ok (.invokevirtual 75, 3)) (hy : y.cls = RL) (hsh : B.2.1[o]? = some (.inr (.inl (7, fl)))) (h2 : CS B yX7_knobFor cX7_knobFor 4 (some .int) d2 (.ref (s_ad B o) :: [.int x1, .int x2]) S Q2) (hd2 : d2 < d) (hst : (st.map fun v => v.category).sum ≤ 8) (k : ∀ (r : Int32) (S' : sSt), Q2 (some (.int r)) S' → WS B E y cc mL rt d (pc + 3) lv (.int r :: st) S' Q) : WS B E y cc mL rt d pc lv (.int x2 :: .int x1 :: .ref (s_ad B o) :: st) S Q :=
  x_V2i h2 hsh rfl mX7_knobFor (Nat.le_of_ble_eq_true rfl) (by rw [hy]; exact sT_4 149 rfl rfl) vX7_knobFor hd2 hst hd (fun r S' _ hq => k r S' hq)
theorem kL_75 {x1 : Int32} {x2 : Int32} {f : Int32} {S0 : sSt} (hd : decode cc pc = .ok (.invokevirtual 75, 3)) (hy : y.cls = RL) (hsh : B.2.1[o]? = some (.inr (.inl (7, fl)))) (h2 : CS B yX7_knobFor cX7_knobFor 4 (some .int) d2 (.ref (s_ad B o) :: [.int x1, .int x2]) S (qI f S0)) (hd2 : d2 < d) (hst : (st.map fun v => v.category).sum ≤ 8) (k : WS B E y cc mL rt d (pc + 3) lv (.int f :: st) S0 Q) : WS B E y cc mL rt d pc lv (.int x2 :: .int x1 :: .ref (s_ad B o) :: st) S Q :=
  kL_75r hd hy hsh h2 hd2 hst (fun r S' hq => by obtain ⟨h1, rfl⟩ := hq; cases h1; exact k)
theorem kL_76r {x1 : Int32} {x2 : Int32} (hd : decode cc pc = .ok (.invokevirtual 76, 3)) (hy : y.cls = RL) (hsh : B.2.1[o]? = some (.inr (.inl (6, fl)))) (h2 : CS B yX6_often cX6_often 5 (some .int) d2 (.ref (s_ad B o) :: [.int x1, .int x2]) S Q2) (hd2 : d2 < d) (hst : (st.map fun v => v.category).sum ≤ 8) (k : ∀ (r : Int32) (S' : sSt), Q2 (some (.int r)) S' → WS B E y cc mL rt d (pc + 3) lv (.int r :: st) S' Q) : WS B E y cc mL rt d pc lv (.int x2 :: .int x1 :: .ref (s_ad B o) :: st) S Q :=
  x_V2i h2 hsh rfl mX6_often (Nat.le_of_ble_eq_true rfl) (by rw [hy]; exact sT_3 46 rfl rfl) vX6_often hd2 hst hd (fun r S' _ hq => k r S' hq)
theorem kL_76 {x1 : Int32} {x2 : Int32} {f : Int32} {S0 : sSt} (hd : decode cc pc = .ok (.invokevirtual 76, 3)) (hy : y.cls = RL) (hsh : B.2.1[o]? = some (.inr (.inl (6, fl)))) (h2 : CS B yX6_often cX6_often 5 (some .int) d2 (.ref (s_ad B o) :: [.int x1, .int x2]) S (qI f S0)) (hd2 : d2 < d) (hst : (st.map fun v => v.category).sum ≤ 8) (k : WS B E y cc mL rt d (pc + 3) lv (.int f :: st) S0 Q) : WS B E y cc mL rt d pc lv (.int x2 :: .int x1 :: .ref (s_ad B o) :: st) S Q :=
  kL_76r hd hy hsh h2 hd2 hst (fun r S' hq => by obtain ⟨h1, rfl⟩ := hq; cases h1; exact k)
theorem kL_79r {x1 : Int32} {x2 : Int32} (hd : decode cc pc = .ok (.invokevirtual 79, 3)) (hy : y.cls = RL) (hsh : B.2.1[o]? = some (.inr (.inl (7, fl)))) (h2 : CS B yX7_often cX7_often 4 (some .int) d2 (.ref (s_ad B o) :: [.int x1, .int x2]) S Q2) (hd2 : d2 < d) (hst : (st.map fun v => v.category).sum ≤ 8) (k : ∀ (r : Int32) (S' : sSt), Q2 (some (.int r)) S' → WS B E y cc mL rt d (pc + 3) lv (.int r :: st) S' Q) : WS B E y cc mL rt d pc lv (.int x2 :: .int x1 :: .ref (s_ad B o) :: st) S Q :=
  x_V2i h2 hsh rfl mX7_often (Nat.le_of_ble_eq_true rfl) (by rw [hy]; exact sT_4 157 rfl rfl) vX7_often hd2 hst hd (fun r S' _ hq => k r S' hq)
theorem kL_79 {x1 : Int32} {x2 : Int32} {f : Int32} {S0 : sSt} (hd : decode cc pc = .ok (.invokevirtual 79, 3)) (hy : y.cls = RL) (hsh : B.2.1[o]? = some (.inr (.inl (7, fl)))) (h2 : CS B yX7_often cX7_often 4 (some .int) d2 (.ref (s_ad B o) :: [.int x1, .int x2]) S (qI f S0)) (hd2 : d2 < d) (hst : (st.map fun v => v.category).sum ≤ 8) (k : WS B E y cc mL rt d (pc + 3) lv (.int f :: st) S0 Q) : WS B E y cc mL rt d pc lv (.int x2 :: .int x1 :: .ref (s_ad B o) :: st) S Q :=
  kL_79r hd hy hsh h2 hd2 hst (fun r S' hq => by obtain ⟨h1, rfl⟩ := hq; cases h1; exact k)
theorem kL_80r {x1 : Int32} {x2 : Int32} (hd : decode cc pc = .ok (.invokevirtual 80, 3)) (hy : y.cls = RL) (hsh : B.2.1[o]? = some (.inr (.inl (6, fl)))) (h2 : CS B yX6_waits cX6_waits 5 (some .int) d2 (.ref (s_ad B o) :: [.int x1, .int x2]) S Q2) (hd2 : d2 < d) (hst : (st.map fun v => v.category).sum ≤ 8) (k : ∀ (r : Int32) (S' : sSt), Q2 (some (.int r)) S' → WS B E y cc mL rt d (pc + 3) lv (.int r :: st) S' Q) : WS B E y cc mL rt d pc lv (.int x2 :: .int x1 :: .ref (s_ad B o) :: st) S Q :=
  x_V2i h2 hsh rfl mX6_waits (Nat.le_of_ble_eq_true rfl) (by rw [hy]; exact sT_3 50 rfl rfl) vX6_waits hd2 hst hd (fun r S' _ hq => k r S' hq)
theorem kL_80 {x1 : Int32} {x2 : Int32} {f : Int32} {S0 : sSt} (hd : decode cc pc = .ok (.invokevirtual 80, 3)) (hy : y.cls = RL) (hsh : B.2.1[o]? = some (.inr (.inl (6, fl)))) (h2 : CS B yX6_waits cX6_waits 5 (some .int) d2 (.ref (s_ad B o) :: [.int x1, .int x2]) S (qI f S0)) (hd2 : d2 < d) (hst : (st.map fun v => v.category).sum ≤ 8) (k : WS B E y cc mL rt d (pc + 3) lv (.int f :: st) S0 Q) : WS B E y cc mL rt d pc lv (.int x2 :: .int x1 :: .ref (s_ad B o) :: st) S Q :=
  kL_80r hd hy hsh h2 hd2 hst (fun r S' hq => by obtain ⟨h1, rfl⟩ := hq; cases h1; exact k)
theorem kL_83r {x1 : Int32} {x2 : Int32} (hd : decode cc pc = .ok (.invokevirtual 83, 3)) (hy : y.cls = RL) (hsh : B.2.1[o]? = some (.inr (.inl (7, fl)))) (h2 : CS B yX7_waits cX7_waits 5 (some .int) d2 (.ref (s_ad B o) :: [.int x1, .int x2]) S Q2) (hd2 : d2 < d) (hst : (st.map fun v => v.category).sum ≤ 8) (k : ∀ (r : Int32) (S' : sSt), Q2 (some (.int r)) S' → WS B E y cc mL rt d (pc + 3) lv (.int r :: st) S' Q) : WS B E y cc mL rt d pc lv (.int x2 :: .int x1 :: .ref (s_ad B o) :: st) S Q :=
  x_V2i h2 hsh rfl mX7_waits (Nat.le_of_ble_eq_true rfl) (by rw [hy]; exact sT_4 161 rfl rfl) vX7_waits hd2 hst hd (fun r S' _ hq => k r S' hq)
theorem kL_83 {x1 : Int32} {x2 : Int32} {f : Int32} {S0 : sSt} (hd : decode cc pc = .ok (.invokevirtual 83, 3)) (hy : y.cls = RL) (hsh : B.2.1[o]? = some (.inr (.inl (7, fl)))) (h2 : CS B yX7_waits cX7_waits 5 (some .int) d2 (.ref (s_ad B o) :: [.int x1, .int x2]) S (qI f S0)) (hd2 : d2 < d) (hst : (st.map fun v => v.category).sum ≤ 8) (k : WS B E y cc mL rt d (pc + 3) lv (.int f :: st) S0 Q) : WS B E y cc mL rt d pc lv (.int x2 :: .int x1 :: .ref (s_ad B o) :: st) S Q :=
  kL_83r hd hy hsh h2 hd2 hst (fun r S' hq => by obtain ⟨h1, rfl⟩ := hq; cases h1; exact k)
theorem kL_84r {x1 : Int32} (hd : decode cc pc = .ok (.invokevirtual 84, 3)) (hy : y.cls = RL) (hsh : B.2.1[o]? = some (.inr (.inl (6, fl)))) (h2 : CS B yX6_harm cX6_harm 2 (some .int) d2 (.ref (s_ad B o) :: [.int x1]) S Q2) (hd2 : d2 < d) (hst : (st.map fun v => v.category).sum ≤ 8) (k : ∀ (r : Int32) (S' : sSt), Q2 (some (.int r)) S' → WS B E y cc mL rt d (pc + 3) lv (.int r :: st) S' Q) : WS B E y cc mL rt d pc lv (.int x1 :: .ref (s_ad B o) :: st) S Q :=
  x_V1i h2 hsh rfl mX6_harm (Nat.le_of_ble_eq_true rfl) (by rw [hy]; exact sT_3 54 rfl rfl) vX6_harm hd2 hst hd (fun r S' _ hq => k r S' hq)
theorem kL_84 {x1 : Int32} {f : Int32} {S0 : sSt} (hd : decode cc pc = .ok (.invokevirtual 84, 3)) (hy : y.cls = RL) (hsh : B.2.1[o]? = some (.inr (.inl (6, fl)))) (h2 : CS B yX6_harm cX6_harm 2 (some .int) d2 (.ref (s_ad B o) :: [.int x1]) S (qI f S0)) (hd2 : d2 < d) (hst : (st.map fun v => v.category).sum ≤ 8) (k : WS B E y cc mL rt d (pc + 3) lv (.int f :: st) S0 Q) : WS B E y cc mL rt d pc lv (.int x1 :: .ref (s_ad B o) :: st) S Q :=
  kL_84r hd hy hsh h2 hd2 hst (fun r S' hq => by obtain ⟨h1, rfl⟩ := hq; cases h1; exact k)
theorem kL_87r {x1 : Int32} (hd : decode cc pc = .ok (.invokevirtual 87, 3)) (hy : y.cls = RL) (hsh : B.2.1[o]? = some (.inr (.inl (7, fl)))) (h2 : CS B yX7_harm cX7_harm 2 (some .int) d2 (.ref (s_ad B o) :: [.int x1]) S Q2) (hd2 : d2 < d) (hst : (st.map fun v => v.category).sum ≤ 8) (k : ∀ (r : Int32) (S' : sSt), Q2 (some (.int r)) S' → WS B E y cc mL rt d (pc + 3) lv (.int r :: st) S' Q) : WS B E y cc mL rt d pc lv (.int x1 :: .ref (s_ad B o) :: st) S Q :=
  x_V1i h2 hsh rfl mX7_harm (Nat.le_of_ble_eq_true rfl) (by rw [hy]; exact sT_4 165 rfl rfl) vX7_harm hd2 hst hd (fun r S' _ hq => k r S' hq)
theorem kL_87 {x1 : Int32} {f : Int32} {S0 : sSt} (hd : decode cc pc = .ok (.invokevirtual 87, 3)) (hy : y.cls = RL) (hsh : B.2.1[o]? = some (.inr (.inl (7, fl)))) (h2 : CS B yX7_harm cX7_harm 2 (some .int) d2 (.ref (s_ad B o) :: [.int x1]) S (qI f S0)) (hd2 : d2 < d) (hst : (st.map fun v => v.category).sum ≤ 8) (k : WS B E y cc mL rt d (pc + 3) lv (.int f :: st) S0 Q) : WS B E y cc mL rt d pc lv (.int x1 :: .ref (s_ad B o) :: st) S Q :=
  kL_87r hd hy hsh h2 hd2 hst (fun r S' hq => by obtain ⟨h1, rfl⟩ := hq; cases h1; exact k)
theorem kL_88r {x1 : Int32} (hd : decode cc pc = .ok (.invokevirtual 88, 3)) (hy : y.cls = RL) (hsh : B.2.1[o]? = some (.inr (.inl (6, fl)))) (h2 : CS B yX6_share cX6_share 2 (some .int) d2 (.ref (s_ad B o) :: [.int x1]) S Q2) (hd2 : d2 < d) (hst : (st.map fun v => v.category).sum ≤ 8) (k : ∀ (r : Int32) (S' : sSt), Q2 (some (.int r)) S' → WS B E y cc mL rt d (pc + 3) lv (.int r :: st) S' Q) : WS B E y cc mL rt d pc lv (.int x1 :: .ref (s_ad B o) :: st) S Q :=
  x_V1i h2 hsh rfl mX6_share (Nat.le_of_ble_eq_true rfl) (by rw [hy]; exact sT_3 62 rfl rfl) vX6_share hd2 hst hd (fun r S' _ hq => k r S' hq)
theorem kL_88 {x1 : Int32} {f : Int32} {S0 : sSt} (hd : decode cc pc = .ok (.invokevirtual 88, 3)) (hy : y.cls = RL) (hsh : B.2.1[o]? = some (.inr (.inl (6, fl)))) (h2 : CS B yX6_share cX6_share 2 (some .int) d2 (.ref (s_ad B o) :: [.int x1]) S (qI f S0)) (hd2 : d2 < d) (hst : (st.map fun v => v.category).sum ≤ 8) (k : WS B E y cc mL rt d (pc + 3) lv (.int f :: st) S0 Q) : WS B E y cc mL rt d pc lv (.int x1 :: .ref (s_ad B o) :: st) S Q :=
  kL_88r hd hy hsh h2 hd2 hst (fun r S' hq => by obtain ⟨h1, rfl⟩ := hq; cases h1; exact k)
theorem kL_91r {x1 : Int32} (hd : decode cc pc = .ok (.invokevirtual 91, 3)) (hy : y.cls = RL) (hsh : B.2.1[o]? = some (.inr (.inl (7, fl)))) (h2 : CS B yX7_share cX7_share 2 (some .int) d2 (.ref (s_ad B o) :: [.int x1]) S Q2) (hd2 : d2 < d) (hst : (st.map fun v => v.category).sum ≤ 8) (k : ∀ (r : Int32) (S' : sSt), Q2 (some (.int r)) S' → WS B E y cc mL rt d (pc + 3) lv (.int r :: st) S' Q) : WS B E y cc mL rt d pc lv (.int x1 :: .ref (s_ad B o) :: st) S Q :=
  x_V1i h2 hsh rfl mX7_share (Nat.le_of_ble_eq_true rfl) (by rw [hy]; exact sT_4 173 rfl rfl) vX7_share hd2 hst hd (fun r S' _ hq => k r S' hq)
theorem kL_91 {x1 : Int32} {f : Int32} {S0 : sSt} (hd : decode cc pc = .ok (.invokevirtual 91, 3)) (hy : y.cls = RL) (hsh : B.2.1[o]? = some (.inr (.inl (7, fl)))) (h2 : CS B yX7_share cX7_share 2 (some .int) d2 (.ref (s_ad B o) :: [.int x1]) S (qI f S0)) (hd2 : d2 < d) (hst : (st.map fun v => v.category).sum ≤ 8) (k : WS B E y cc mL rt d (pc + 3) lv (.int f :: st) S0 Q) : WS B E y cc mL rt d pc lv (.int x1 :: .ref (s_ad B o) :: st) S Q :=
  kL_91r hd hy hsh h2 hd2 hst (fun r S' hq => by obtain ⟨h1, rfl⟩ := hq; cases h1; exact k)
theorem kL_92r  (hd : decode cc pc = .ok (.invokevirtual 92, 3)) (hy : y.cls = RL) (hsh : B.2.1[o]? = some (.inr (.inl (6, fl)))) (h2 : CS B yX6_round cX6_round 3 (some .int) d2 (.ref (s_ad B o) :: []) S Q2) (hd2 : d2 < d) (hst : (st.map fun v => v.category).sum ≤ 8) (k : ∀ (r : Int32) (S' : sSt), Q2 (some (.int r)) S' → WS B E y cc mL rt d (pc + 3) lv (.int r :: st) S' Q) : WS B E y cc mL rt d pc lv (.ref (s_ad B o) :: st) S Q :=
  x_V0i h2 hsh rfl mX6_round (Nat.le_of_ble_eq_true rfl) (by rw [hy]; exact sT_3 87 rfl rfl) vX6_round hd2 hst hd (fun r S' _ hq => k r S' hq)
theorem kL_92  {f : Int32} {S0 : sSt} (hd : decode cc pc = .ok (.invokevirtual 92, 3)) (hy : y.cls = RL) (hsh : B.2.1[o]? = some (.inr (.inl (6, fl)))) (h2 : CS B yX6_round cX6_round 3 (some .int) d2 (.ref (s_ad B o) :: []) S (qI f S0)) (hd2 : d2 < d) (hst : (st.map fun v => v.category).sum ≤ 8) (k : WS B E y cc mL rt d (pc + 3) lv (.int f :: st) S0 Q) : WS B E y cc mL rt d pc lv (.ref (s_ad B o) :: st) S Q :=
  kL_92r hd hy hsh h2 hd2 hst (fun r S' hq => by obtain ⟨h1, rfl⟩ := hq; cases h1; exact k)
theorem kL_95r  (hd : decode cc pc = .ok (.invokevirtual 95, 3)) (hy : y.cls = RL) (hsh : B.2.1[o]? = some (.inr (.inl (7, fl)))) (h2 : CS B yX7_round cX7_round 3 (some .int) d2 (.ref (s_ad B o) :: []) S Q2) (hd2 : d2 < d) (hst : (st.map fun v => v.category).sum ≤ 8) (k : ∀ (r : Int32) (S' : sSt), Q2 (some (.int r)) S' → WS B E y cc mL rt d (pc + 3) lv (.int r :: st) S' Q) : WS B E y cc mL rt d pc lv (.ref (s_ad B o) :: st) S Q :=
  x_V0i h2 hsh rfl mX7_round (Nat.le_of_ble_eq_true rfl) (by rw [hy]; exact sT_4 189 rfl rfl) vX7_round hd2 hst hd (fun r S' _ hq => k r S' hq)
theorem kL_95  {f : Int32} {S0 : sSt} (hd : decode cc pc = .ok (.invokevirtual 95, 3)) (hy : y.cls = RL) (hsh : B.2.1[o]? = some (.inr (.inl (7, fl)))) (h2 : CS B yX7_round cX7_round 3 (some .int) d2 (.ref (s_ad B o) :: []) S (qI f S0)) (hd2 : d2 < d) (hst : (st.map fun v => v.category).sum ≤ 8) (k : WS B E y cc mL rt d (pc + 3) lv (.int f :: st) S0 Q) : WS B E y cc mL rt d pc lv (.ref (s_ad B o) :: st) S Q :=
  kL_95r hd hy hsh h2 hd2 hst (fun r S' hq => by obtain ⟨h1, rfl⟩ := hq; cases h1; exact k)
theorem kL_96r {x1 : Int32} {x2 : Int32} {x3 : Int32} {x4 : Int32} (hd : decode cc pc = .ok (.invokevirtual 96, 3)) (hy : y.cls = RL) (hsh : B.2.1[o]? = some (.inr (.inl (6, fl)))) (h2 : CS B yX6_seen cX6_seen 5 (some .int) d2 (.ref (s_ad B o) :: [.int x1, .int x2, .int x3, .int x4]) S Q2) (hd2 : d2 < d) (hst : (st.map fun v => v.category).sum ≤ 8) (k : ∀ (r : Int32) (S' : sSt), Q2 (some (.int r)) S' → WS B E y cc mL rt d (pc + 3) lv (.int r :: st) S' Q) : WS B E y cc mL rt d pc lv (.int x4 :: .int x3 :: .int x2 :: .int x1 :: .ref (s_ad B o) :: st) S Q :=
  x_V4i h2 hsh rfl mX6_seen (Nat.le_of_ble_eq_true rfl) (by rw [hy]; exact sT_3 91 rfl rfl) vX6_seen hd2 hst hd (fun r S' _ hq => k r S' hq)
theorem kL_96 {x1 : Int32} {x2 : Int32} {x3 : Int32} {x4 : Int32} {f : Int32} {S0 : sSt} (hd : decode cc pc = .ok (.invokevirtual 96, 3)) (hy : y.cls = RL) (hsh : B.2.1[o]? = some (.inr (.inl (6, fl)))) (h2 : CS B yX6_seen cX6_seen 5 (some .int) d2 (.ref (s_ad B o) :: [.int x1, .int x2, .int x3, .int x4]) S (qI f S0)) (hd2 : d2 < d) (hst : (st.map fun v => v.category).sum ≤ 8) (k : WS B E y cc mL rt d (pc + 3) lv (.int f :: st) S0 Q) : WS B E y cc mL rt d pc lv (.int x4 :: .int x3 :: .int x2 :: .int x1 :: .ref (s_ad B o) :: st) S Q :=
  kL_96r hd hy hsh h2 hd2 hst (fun r S' hq => by obtain ⟨h1, rfl⟩ := hq; cases h1; exact k)
theorem kX0_100r {x1 : Int32} (hd : decode cc pc = .ok (.invokevirtual 100, 3)) (hy : y.cls = RX0) (hsh : B.2.1[o]? = some (.inr (.inl (0, fl)))) (h2 : CS B yX0_goOnTillFallen cX0_goOnTillFallen 3 none d2 (.ref (s_ad B o) :: [.int x1]) S Q2) (hd2 : d2 < d) (hst : (st.map fun v => v.category).sum ≤ 8) (k : ∀ (S' : sSt), Q2 none S' → WS B E y cc mL rt d (pc + 3) lv st S' Q) : WS B E y cc mL rt d pc lv (.int x1 :: .ref (s_ad B o) :: st) S Q :=
  x_V1v h2 hsh rfl mX0_goOnTillFallen (Nat.le_of_ble_eq_true rfl) (by rw [hy]; exact sT_3 45 rfl rfl) vX0_goOnTillFallen hd2 hst hd k
theorem kX0_100 {x1 : Int32} {S0 : sSt} (hd : decode cc pc = .ok (.invokevirtual 100, 3)) (hy : y.cls = RX0) (hsh : B.2.1[o]? = some (.inr (.inl (0, fl)))) (h2 : CS B yX0_goOnTillFallen cX0_goOnTillFallen 3 none d2 (.ref (s_ad B o) :: [.int x1]) S (qV S0)) (hd2 : d2 < d) (hst : (st.map fun v => v.category).sum ≤ 8) (k : WS B E y cc mL rt d (pc + 3) lv st S0 Q) : WS B E y cc mL rt d pc lv (.int x1 :: .ref (s_ad B o) :: st) S Q :=
  kX0_100r hd hy hsh h2 hd2 hst (fun S' hq => by obtain ⟨-, rfl⟩ := hq; exact k)
theorem kX0_103r {x1 : Int32} {x2 : Int32} (hd : decode cc pc = .ok (.invokevirtual 103, 3)) (hy : y.cls = RX0) (hsh : B.2.1[o]? = some (.inr (.inl (0, fl)))) (h2 : CS B yX0_isRight cX0_isRight 3 (some .boolean) d2 (.ref (s_ad B o) :: [.int x1, .int x2]) S Q2) (hd2 : d2 < d) (hst : (st.map fun v => v.category).sum ≤ 8) (k : ∀ (r : Int32) (S' : sSt), Q2 (some (.int r)) S' → WS B E y cc mL rt d (pc + 3) lv (.int r :: st) S' Q) : WS B E y cc mL rt d pc lv (.int x2 :: .int x1 :: .ref (s_ad B o) :: st) S Q :=
  x_V2i h2 hsh rfl mX0_isRight (Nat.le_of_ble_eq_true rfl) (by rw [hy]; exact sT_3 31 rfl rfl) vX0_isRight hd2 hst hd (fun r S' _ hq => k r S' hq)
theorem kX0_103 {x1 : Int32} {x2 : Int32} {f : Int32} {S0 : sSt} (hd : decode cc pc = .ok (.invokevirtual 103, 3)) (hy : y.cls = RX0) (hsh : B.2.1[o]? = some (.inr (.inl (0, fl)))) (h2 : CS B yX0_isRight cX0_isRight 3 (some .boolean) d2 (.ref (s_ad B o) :: [.int x1, .int x2]) S (qI f S0)) (hd2 : d2 < d) (hst : (st.map fun v => v.category).sum ≤ 8) (k : WS B E y cc mL rt d (pc + 3) lv (.int f :: st) S0 Q) : WS B E y cc mL rt d pc lv (.int x2 :: .int x1 :: .ref (s_ad B o) :: st) S Q :=
  kX0_103r hd hy hsh h2 hd2 hst (fun r S' hq => by obtain ⟨h1, rfl⟩ := hq; cases h1; exact k)
theorem kX0_107r {x1 : Int32} (hd : decode cc pc = .ok (.invokevirtual 107, 3)) (hy : y.cls = RX0) (hsh : B.2.1[o]? = some (.inr (.inl (0, fl)))) (h2 : CS B yX0_isFreeAtStart cX0_isFreeAtStart 3 (some .boolean) d2 (.ref (s_ad B o) :: [.int x1]) S Q2) (hd2 : d2 < d) (hst : (st.map fun v => v.category).sum ≤ 8) (k : ∀ (r : Int32) (S' : sSt), Q2 (some (.int r)) S' → WS B E y cc mL rt d (pc + 3) lv (.int r :: st) S' Q) : WS B E y cc mL rt d pc lv (.int x1 :: .ref (s_ad B o) :: st) S Q :=
  x_V1i h2 hsh rfl mX0_isFreeAtStart (Nat.le_of_ble_eq_true rfl) (by rw [hy]; exact sT_3 139 rfl rfl) vX0_isFreeAtStart hd2 hst hd (fun r S' _ hq => k r S' hq)
theorem kX0_107 {x1 : Int32} {f : Int32} {S0 : sSt} (hd : decode cc pc = .ok (.invokevirtual 107, 3)) (hy : y.cls = RX0) (hsh : B.2.1[o]? = some (.inr (.inl (0, fl)))) (h2 : CS B yX0_isFreeAtStart cX0_isFreeAtStart 3 (some .boolean) d2 (.ref (s_ad B o) :: [.int x1]) S (qI f S0)) (hd2 : d2 < d) (hst : (st.map fun v => v.category).sum ≤ 8) (k : WS B E y cc mL rt d (pc + 3) lv (.int f :: st) S0 Q) : WS B E y cc mL rt d pc lv (.int x1 :: .ref (s_ad B o) :: st) S Q :=
  kX0_107r hd hy hsh h2 hd2 hst (fun r S' hq => by obtain ⟨h1, rfl⟩ := hq; cases h1; exact k)
theorem kX0_111r {x1 : Int32} (hd : decode cc pc = .ok (.invokevirtual 111, 3)) (hy : y.cls = RX0) (hsh : B.2.1[o]? = some (.inr (.inl (0, fl)))) (h2 : CS B yX0_eatLowestRight cX0_eatLowestRight 3 none d2 (.ref (s_ad B o) :: [.int x1]) S Q2) (hd2 : d2 < d) (hst : (st.map fun v => v.category).sum ≤ 8) (k : ∀ (S' : sSt), Q2 none S' → WS B E y cc mL rt d (pc + 3) lv st S' Q) : WS B E y cc mL rt d pc lv (.int x1 :: .ref (s_ad B o) :: st) S Q :=
  x_V1v h2 hsh rfl mX0_eatLowestRight (Nat.le_of_ble_eq_true rfl) (by rw [hy]; exact sT_3 140 rfl rfl) vX0_eatLowestRight hd2 hst hd k
theorem kX0_111 {x1 : Int32} {S0 : sSt} (hd : decode cc pc = .ok (.invokevirtual 111, 3)) (hy : y.cls = RX0) (hsh : B.2.1[o]? = some (.inr (.inl (0, fl)))) (h2 : CS B yX0_eatLowestRight cX0_eatLowestRight 3 none d2 (.ref (s_ad B o) :: [.int x1]) S (qV S0)) (hd2 : d2 < d) (hst : (st.map fun v => v.category).sum ≤ 8) (k : WS B E y cc mL rt d (pc + 3) lv st S0 Q) : WS B E y cc mL rt d pc lv (.int x1 :: .ref (s_ad B o) :: st) S Q :=
  kX0_111r hd hy hsh h2 hd2 hst (fun S' hq => by obtain ⟨-, rfl⟩ := hq; exact k)
theorem kX0_114r {x1 : Int32} {x2 : Int32} (hd : decode cc pc = .ok (.invokevirtual 114, 3)) (hy : y.cls = RX0) (hsh : B.2.1[o]? = some (.inr (.inl (0, fl)))) (h2 : CS B yX0_mayEat cX0_mayEat 3 (some .boolean) d2 (.ref (s_ad B o) :: [.int x1, .int x2]) S Q2) (hd2 : d2 < d) (hst : (st.map fun v => v.category).sum ≤ 8) (k : ∀ (r : Int32) (S' : sSt), Q2 (some (.int r)) S' → WS B E y cc mL rt d (pc + 3) lv (.int r :: st) S' Q) : WS B E y cc mL rt d pc lv (.int x2 :: .int x1 :: .ref (s_ad B o) :: st) S Q :=
  x_V2i h2 hsh rfl mX0_mayEat (Nat.le_of_ble_eq_true rfl) (by rw [hy]; exact sT_3 144 rfl rfl) vX0_mayEat hd2 hst hd (fun r S' _ hq => k r S' hq)
theorem kX0_114 {x1 : Int32} {x2 : Int32} {f : Int32} {S0 : sSt} (hd : decode cc pc = .ok (.invokevirtual 114, 3)) (hy : y.cls = RX0) (hsh : B.2.1[o]? = some (.inr (.inl (0, fl)))) (h2 : CS B yX0_mayEat cX0_mayEat 3 (some .boolean) d2 (.ref (s_ad B o) :: [.int x1, .int x2]) S (qI f S0)) (hd2 : d2 < d) (hst : (st.map fun v => v.category).sum ≤ 8) (k : WS B E y cc mL rt d (pc + 3) lv (.int f :: st) S0 Q) : WS B E y cc mL rt d pc lv (.int x2 :: .int x1 :: .ref (s_ad B o) :: st) S Q :=
  kX0_114r hd hy hsh h2 hd2 hst (fun r S' hq => by obtain ⟨h1, rfl⟩ := hq; cases h1; exact k)
theorem kX0_117r {x1 : Int32} {x2 : Int32} (hd : decode cc pc = .ok (.invokevirtual 117, 3)) (hy : y.cls = RX0) (hsh : B.2.1[o]? = some (.inr (.inl (0, fl)))) (h2 : CS B yX0_eat cX0_eat 3 none d2 (.ref (s_ad B o) :: [.int x1, .int x2]) S Q2) (hd2 : d2 < d) (hst : (st.map fun v => v.category).sum ≤ 8) (k : ∀ (S' : sSt), Q2 none S' → WS B E y cc mL rt d (pc + 3) lv st S' Q) : WS B E y cc mL rt d pc lv (.int x2 :: .int x1 :: .ref (s_ad B o) :: st) S Q :=
  x_V2v h2 hsh rfl mX0_eat (Nat.le_of_ble_eq_true rfl) (by rw [hy]; exact sT_3 145 rfl rfl) vX0_eat hd2 hst hd k
theorem kX0_117 {x1 : Int32} {x2 : Int32} {S0 : sSt} (hd : decode cc pc = .ok (.invokevirtual 117, 3)) (hy : y.cls = RX0) (hsh : B.2.1[o]? = some (.inr (.inl (0, fl)))) (h2 : CS B yX0_eat cX0_eat 3 none d2 (.ref (s_ad B o) :: [.int x1, .int x2]) S (qV S0)) (hd2 : d2 < d) (hst : (st.map fun v => v.category).sum ≤ 8) (k : WS B E y cc mL rt d (pc + 3) lv st S0 Q) : WS B E y cc mL rt d pc lv (.int x2 :: .int x1 :: .ref (s_ad B o) :: st) S Q :=
  kX0_117r hd hy hsh h2 hd2 hst (fun S' hq => by obtain ⟨-, rfl⟩ := hq; exact k)
theorem kX0_63r {x1 : Int32} {x2 : Int32} {x3 : Int32} (hd : decode cc pc = .ok (.invokestatic 63, 3)) (hy : y.cls = RX0) (h2 : CS B yX6_within cX6_within 3 (some .boolean) d2 [.int x1, .int x2, .int x3] S Q2) (hd2 : d2 < d) (hst : (st.map fun v => v.category).sum ≤ 8) (k : ∀ (r : Int32) (S' : sSt), Q2 (some (.int r)) S' → WS B E y cc mL rt d (pc + 3) lv (.int r :: st) S' Q) : WS B E y cc mL rt d pc lv (.int x3 :: .int x2 :: .int x1 :: st) S Q :=
  x_SN3i (host := "ToastBelt") h2 mX6_within (Nat.le_of_ble_eq_true rfl) (by rw [hy]; decide +kernel) sX6_within hd2 hst hd (fun r S' _ hq => k r S' hq)
theorem kX0_63 {x1 : Int32} {x2 : Int32} {x3 : Int32} {f : Int32} {S0 : sSt} (hd : decode cc pc = .ok (.invokestatic 63, 3)) (hy : y.cls = RX0) (h2 : CS B yX6_within cX6_within 3 (some .boolean) d2 [.int x1, .int x2, .int x3] S (qI f S0)) (hd2 : d2 < d) (hst : (st.map fun v => v.category).sum ≤ 8) (k : WS B E y cc mL rt d (pc + 3) lv (.int f :: st) S0 Q) : WS B E y cc mL rt d pc lv (.int x3 :: .int x2 :: .int x1 :: st) S Q :=
  kX0_63r hd hy h2 hd2 hst (fun r S' hq => by obtain ⟨h1, rfl⟩ := hq; cases h1; exact k)
theorem kX0_67r {x1 : Int32} (hd : decode cc pc = .ok (.invokevirtual 67, 3)) (hy : y.cls = RX0) (hsh : B.2.1[o]? = some (.inr (.inl (0, fl)))) (h2 : CS B yX0_eatenBy cX0_eatenBy 3 (some .int) d2 (.ref (s_ad B o) :: [.int x1]) S Q2) (hd2 : d2 < d) (hst : (st.map fun v => v.category).sum ≤ 8) (k : ∀ (r : Int32) (S' : sSt), Q2 (some (.int r)) S' → WS B E y cc mL rt d (pc + 3) lv (.int r :: st) S' Q) : WS B E y cc mL rt d pc lv (.int x1 :: .ref (s_ad B o) :: st) S Q :=
  x_V1i h2 hsh rfl mX0_eatenBy (Nat.le_of_ble_eq_true rfl) (by rw [hy]; exact sT_2 233 rfl rfl) vX0_eatenBy hd2 hst hd (fun r S' _ hq => k r S' hq)
theorem kX0_67 {x1 : Int32} {f : Int32} {S0 : sSt} (hd : decode cc pc = .ok (.invokevirtual 67, 3)) (hy : y.cls = RX0) (hsh : B.2.1[o]? = some (.inr (.inl (0, fl)))) (h2 : CS B yX0_eatenBy cX0_eatenBy 3 (some .int) d2 (.ref (s_ad B o) :: [.int x1]) S (qI f S0)) (hd2 : d2 < d) (hst : (st.map fun v => v.category).sum ≤ 8) (k : WS B E y cc mL rt d (pc + 3) lv (.int f :: st) S0 Q) : WS B E y cc mL rt d pc lv (.int x1 :: .ref (s_ad B o) :: st) S Q :=
  kX0_67r hd hy hsh h2 hd2 hst (fun r S' hq => by obtain ⟨h1, rfl⟩ := hq; cases h1; exact k)
theorem kX0_71r {x1 : Int32} (hd : decode cc pc = .ok (.invokevirtual 71, 3)) (hy : y.cls = RX0) (hsh : B.2.1[o]? = some (.inr (.inl (0, fl)))) (h2 : CS B yX0_howMany cX0_howMany 4 (some .int) d2 (.ref (s_ad B o) :: [.int x1]) S Q2) (hd2 : d2 < d) (hst : (st.map fun v => v.category).sum ≤ 8) (k : ∀ (r : Int32) (S' : sSt), Q2 (some (.int r)) S' → WS B E y cc mL rt d (pc + 3) lv (.int r :: st) S' Q) : WS B E y cc mL rt d pc lv (.int x1 :: .ref (s_ad B o) :: st) S Q :=
  x_V1i h2 hsh rfl mX0_howMany (Nat.le_of_ble_eq_true rfl) (by rw [hy]; exact sT_2 208 rfl rfl) vX0_howMany hd2 hst hd (fun r S' _ hq => k r S' hq)
theorem kX0_71 {x1 : Int32} {f : Int32} {S0 : sSt} (hd : decode cc pc = .ok (.invokevirtual 71, 3)) (hy : y.cls = RX0) (hsh : B.2.1[o]? = some (.inr (.inl (0, fl)))) (h2 : CS B yX0_howMany cX0_howMany 4 (some .int) d2 (.ref (s_ad B o) :: [.int x1]) S (qI f S0)) (hd2 : d2 < d) (hst : (st.map fun v => v.category).sum ≤ 8) (k : WS B E y cc mL rt d (pc + 3) lv (.int f :: st) S0 Q) : WS B E y cc mL rt d pc lv (.int x1 :: .ref (s_ad B o) :: st) S Q :=
  kX0_71r hd hy hsh h2 hd2 hst (fun r S' hq => by obtain ⟨h1, rfl⟩ := hq; cases h1; exact k)
theorem kX0_74r {x1 : Int32} (hd : decode cc pc = .ok (.invokevirtual 74, 3)) (hy : y.cls = RX0) (hsh : B.2.1[o]? = some (.inr (.inl (0, fl)))) (h2 : CS B yX0_carry cX0_carry 2 none d2 (.ref (s_ad B o) :: [.int x1]) S Q2) (hd2 : d2 < d) (hst : (st.map fun v => v.category).sum ≤ 8) (k : ∀ (S' : sSt), Q2 none S' → WS B E y cc mL rt d (pc + 3) lv st S' Q) : WS B E y cc mL rt d pc lv (.int x1 :: .ref (s_ad B o) :: st) S Q :=
  x_V1v h2 hsh rfl mX0_carry (Nat.le_of_ble_eq_true rfl) (by rw [hy]; exact sT_2 209 rfl rfl) vX0_carry hd2 hst hd k
theorem kX0_74 {x1 : Int32} {S0 : sSt} (hd : decode cc pc = .ok (.invokevirtual 74, 3)) (hy : y.cls = RX0) (hsh : B.2.1[o]? = some (.inr (.inl (0, fl)))) (h2 : CS B yX0_carry cX0_carry 2 none d2 (.ref (s_ad B o) :: [.int x1]) S (qV S0)) (hd2 : d2 < d) (hst : (st.map fun v => v.category).sum ≤ 8) (k : WS B E y cc mL rt d (pc + 3) lv st S0 Q) : WS B E y cc mL rt d pc lv (.int x1 :: .ref (s_ad B o) :: st) S Q :=
  kX0_74r hd hy hsh h2 hd2 hst (fun S' hq => by obtain ⟨-, rfl⟩ := hq; exact k)
theorem kX0_87r {x1 : Int32} {x2 : Int32} {x3 : Int32} (hd : decode cc pc = .ok (.invokestatic 87, 3)) (hy : y.cls = RX0) (h2 : CS B yX6_browning cX6_browning 4 (some .int) d2 [.int x1, .int x2, .int x3] S Q2) (hd2 : d2 < d) (hst : (st.map fun v => v.category).sum ≤ 8) (k : ∀ (r : Int32) (S' : sSt), Q2 (some (.int r)) S' → WS B E y cc mL rt d (pc + 3) lv (.int r :: st) S' Q) : WS B E y cc mL rt d pc lv (.int x3 :: .int x2 :: .int x1 :: st) S Q :=
  x_SN3i (host := "ToastBelt") h2 mX6_browning (Nat.le_of_ble_eq_true rfl) (by rw [hy]; decide +kernel) sX6_browning hd2 hst hd (fun r S' _ hq => k r S' hq)
theorem kX0_87 {x1 : Int32} {x2 : Int32} {x3 : Int32} {f : Int32} {S0 : sSt} (hd : decode cc pc = .ok (.invokestatic 87, 3)) (hy : y.cls = RX0) (h2 : CS B yX6_browning cX6_browning 4 (some .int) d2 [.int x1, .int x2, .int x3] S (qI f S0)) (hd2 : d2 < d) (hst : (st.map fun v => v.category).sum ≤ 8) (k : WS B E y cc mL rt d (pc + 3) lv (.int f :: st) S0 Q) : WS B E y cc mL rt d pc lv (.int x3 :: .int x2 :: .int x1 :: st) S Q :=
  kX0_87r hd hy h2 hd2 hst (fun r S' hq => by obtain ⟨h1, rfl⟩ := hq; cases h1; exact k)
theorem kX0_93r  (hd : decode cc pc = .ok (.invokevirtual 93, 3)) (hy : y.cls = RX0) (hsh : B.2.1[o]? = some (.inr (.inl (0, fl)))) (h2 : CS B yX0_goOn cX0_goOn 3 none d2 (.ref (s_ad B o) :: []) S Q2) (hd2 : d2 < d) (hst : (st.map fun v => v.category).sum ≤ 8) (k : ∀ (S' : sSt), Q2 none S' → WS B E y cc mL rt d (pc + 3) lv st S' Q) : WS B E y cc mL rt d pc lv (.ref (s_ad B o) :: st) S Q :=
  x_V0v h2 hsh rfl mX0_goOn (Nat.le_of_ble_eq_true rfl) (by rw [hy]; exact sT_3 22 rfl rfl) vX0_goOn hd2 hst hd k
theorem kX0_93  {S0 : sSt} (hd : decode cc pc = .ok (.invokevirtual 93, 3)) (hy : y.cls = RX0) (hsh : B.2.1[o]? = some (.inr (.inl (0, fl)))) (h2 : CS B yX0_goOn cX0_goOn 3 none d2 (.ref (s_ad B o) :: []) S (qV S0)) (hd2 : d2 < d) (hst : (st.map fun v => v.category).sum ≤ 8) (k : WS B E y cc mL rt d (pc + 3) lv st S0 Q) : WS B E y cc mL rt d pc lv (.ref (s_ad B o) :: st) S Q :=
  kX0_93r hd hy hsh h2 hd2 hst (fun S' hq => by obtain ⟨-, rfl⟩ := hq; exact k)
theorem kX0_96r {x1 : Int32} {x2 : Int32} (hd : decode cc pc = .ok (.invokevirtual 96, 3)) (hy : y.cls = RX0) (hsh : B.2.1[o]? = some (.inr (.inl (0, fl)))) (h2 : CS B yX0_setAtStart cX0_setAtStart 3 none d2 (.ref (s_ad B o) :: [.int x1, .int x2]) S Q2) (hd2 : d2 < d) (hst : (st.map fun v => v.category).sum ≤ 8) (k : ∀ (S' : sSt), Q2 none S' → WS B E y cc mL rt d (pc + 3) lv st S' Q) : WS B E y cc mL rt d pc lv (.int x2 :: .int x1 :: .ref (s_ad B o) :: st) S Q :=
  x_V2v h2 hsh rfl mX0_setAtStart (Nat.le_of_ble_eq_true rfl) (by rw [hy]; exact sT_3 44 rfl rfl) vX0_setAtStart hd2 hst hd k
theorem kX0_96 {x1 : Int32} {x2 : Int32} {S0 : sSt} (hd : decode cc pc = .ok (.invokevirtual 96, 3)) (hy : y.cls = RX0) (hsh : B.2.1[o]? = some (.inr (.inl (0, fl)))) (h2 : CS B yX0_setAtStart cX0_setAtStart 3 none d2 (.ref (s_ad B o) :: [.int x1, .int x2]) S (qV S0)) (hd2 : d2 < d) (hst : (st.map fun v => v.category).sum ≤ 8) (k : WS B E y cc mL rt d (pc + 3) lv st S0 Q) : WS B E y cc mL rt d pc lv (.int x2 :: .int x1 :: .ref (s_ad B o) :: st) S Q :=
  kX0_96r hd hy hsh h2 hd2 hst (fun S' hq => by obtain ⟨-, rfl⟩ := hq; exact k)
theorem kX1_27r {r1 : Nat} (hd : decode cc pc = .ok (.invokevirtual 27, 3)) (hy : y.cls = RX1) (hsh : B.2.1[o]? = some (.inr (.inl (0, fl)))) (h2 : CS B yX0_copyFrom cX0_copyFrom 2 none d2 (.ref (s_ad B o) :: [.ref r1]) S Q2) (hd2 : d2 < d) (hst : (st.map fun v => v.category).sum ≤ 8) (k : ∀ (S' : sSt), Q2 none S' → WS B E y cc mL rt d (pc + 3) lv st S' Q) : WS B E y cc mL rt d pc lv (.ref r1 :: .ref (s_ad B o) :: st) S Q :=
  x_V1v h2 hsh rfl mX0_copyFrom (Nat.le_of_ble_eq_true rfl) (by rw [hy]; exact sT_2 184 rfl rfl) vX0_copyFrom hd2 hst hd k
theorem kX1_27 {r1 : Nat} {S0 : sSt} (hd : decode cc pc = .ok (.invokevirtual 27, 3)) (hy : y.cls = RX1) (hsh : B.2.1[o]? = some (.inr (.inl (0, fl)))) (h2 : CS B yX0_copyFrom cX0_copyFrom 2 none d2 (.ref (s_ad B o) :: [.ref r1]) S (qV S0)) (hd2 : d2 < d) (hst : (st.map fun v => v.category).sum ≤ 8) (k : WS B E y cc mL rt d (pc + 3) lv st S0 Q) : WS B E y cc mL rt d pc lv (.ref r1 :: .ref (s_ad B o) :: st) S Q :=
  kX1_27r hd hy hsh h2 hd2 hst (fun S' hq => by obtain ⟨-, rfl⟩ := hq; exact k)
theorem kX2_43r {x1 : Int32} {x2 : Int32} {x3 : Int32} (hd : decode cc pc = .ok (.invokestatic 43, 3)) (hy : y.cls = RX2) (h2 : CS B yX6_within cX6_within 3 (some .boolean) d2 [.int x1, .int x2, .int x3] S Q2) (hd2 : d2 < d) (hst : (st.map fun v => v.category).sum ≤ 8) (k : ∀ (r : Int32) (S' : sSt), Q2 (some (.int r)) S' → WS B E y cc mL rt d (pc + 3) lv (.int r :: st) S' Q) : WS B E y cc mL rt d pc lv (.int x3 :: .int x2 :: .int x1 :: st) S Q :=
  x_SN3i (host := "ToastBelt") h2 mX6_within (Nat.le_of_ble_eq_true rfl) (by rw [hy]; decide +kernel) sX6_within hd2 hst hd (fun r S' _ hq => k r S' hq)
theorem kX2_43 {x1 : Int32} {x2 : Int32} {x3 : Int32} {f : Int32} {S0 : sSt} (hd : decode cc pc = .ok (.invokestatic 43, 3)) (hy : y.cls = RX2) (h2 : CS B yX6_within cX6_within 3 (some .boolean) d2 [.int x1, .int x2, .int x3] S (qI f S0)) (hd2 : d2 < d) (hst : (st.map fun v => v.category).sum ≤ 8) (k : WS B E y cc mL rt d (pc + 3) lv (.int f :: st) S0 Q) : WS B E y cc mL rt d pc lv (.int x3 :: .int x2 :: .int x1 :: st) S Q :=
  kX2_43r hd hy h2 hd2 hst (fun r S' hq => by obtain ⟨h1, rfl⟩ := hq; cases h1; exact k)
theorem kX2_47r {x1 : Int32} (hd : decode cc pc = .ok (.invokestatic 47, 3)) (hy : y.cls = RX2) (h2 : CS B yX6_isKnob cX6_isKnob 1 (some .boolean) d2 [.int x1] S Q2) (hd2 : d2 < d) (hst : (st.map fun v => v.category).sum ≤ 8) (k : ∀ (r : Int32) (S' : sSt), Q2 (some (.int r)) S' → WS B E y cc mL rt d (pc + 3) lv (.int r :: st) S' Q) : WS B E y cc mL rt d pc lv (.int x1 :: st) S Q :=
  x_SN1i (host := "ToastBelt") h2 mX6_isKnob (Nat.le_of_ble_eq_true rfl) (by rw [hy]; decide +kernel) sX6_isKnob hd2 hst hd (fun r S' _ hq => k r S' hq)
theorem kX2_47 {x1 : Int32} {f : Int32} {S0 : sSt} (hd : decode cc pc = .ok (.invokestatic 47, 3)) (hy : y.cls = RX2) (h2 : CS B yX6_isKnob cX6_isKnob 1 (some .boolean) d2 [.int x1] S (qI f S0)) (hd2 : d2 < d) (hst : (st.map fun v => v.category).sum ≤ 8) (k : WS B E y cc mL rt d (pc + 3) lv (.int f :: st) S0 Q) : WS B E y cc mL rt d pc lv (.int x1 :: st) S Q :=
  kX2_47r hd hy h2 hd2 hst (fun r S' hq => by obtain ⟨h1, rfl⟩ := hq; cases h1; exact k)
theorem kX3_21r {r1 : Nat} (hd : decode cc pc = .ok (.invokevirtual 21, 3)) (hy : y.cls = RX3) (hsh : B.2.1[o]? = some (.inr (.inl (3, fl)))) (h2 : CS B yX3_findFitting cX3_findFitting 4 none d2 (.ref (s_ad B o) :: [.ref r1]) S Q2) (hd2 : d2 < d) (hst : (st.map fun v => v.category).sum ≤ 8) (k : ∀ (S' : sSt), Q2 none S' → WS B E y cc mL rt d (pc + 3) lv st S' Q) : WS B E y cc mL rt d pc lv (.ref r1 :: .ref (s_ad B o) :: st) S Q :=
  x_V1v h2 hsh rfl mX3_findFitting (Nat.le_of_ble_eq_true rfl) (by rw [hy]; exact sT_3 70 rfl rfl) vX3_findFitting hd2 hst hd k
theorem kX3_21 {r1 : Nat} {S0 : sSt} (hd : decode cc pc = .ok (.invokevirtual 21, 3)) (hy : y.cls = RX3) (hsh : B.2.1[o]? = some (.inr (.inl (3, fl)))) (h2 : CS B yX3_findFitting cX3_findFitting 4 none d2 (.ref (s_ad B o) :: [.ref r1]) S (qV S0)) (hd2 : d2 < d) (hst : (st.map fun v => v.category).sum ≤ 8) (k : WS B E y cc mL rt d (pc + 3) lv st S0 Q) : WS B E y cc mL rt d pc lv (.ref r1 :: .ref (s_ad B o) :: st) S Q :=
  kX3_21r hd hy hsh h2 hd2 hst (fun S' hq => by obtain ⟨-, rfl⟩ := hq; exact k)
theorem kX3_25r {x1 : Int32} {x2 : Int32} (hd : decode cc pc = .ok (.invokevirtual 25, 3)) (hy : y.cls = RX3) (hsh : B.2.1[o]? = some (.inr (.inl (3, fl)))) (h2 : CS B yX3_mostFrom cX3_mostFrom 5 (some .int) d2 (.ref (s_ad B o) :: [.int x1, .int x2]) S Q2) (hd2 : d2 < d) (hst : (st.map fun v => v.category).sum ≤ 8) (k : ∀ (r : Int32) (S' : sSt), Q2 (some (.int r)) S' → WS B E y cc mL rt d (pc + 3) lv (.int r :: st) S' Q) : WS B E y cc mL rt d pc lv (.int x2 :: .int x1 :: .ref (s_ad B o) :: st) S Q :=
  x_V2i h2 hsh rfl mX3_mostFrom (Nat.le_of_ble_eq_true rfl) (by rw [hy]; exact sT_3 76 rfl rfl) vX3_mostFrom hd2 hst hd (fun r S' _ hq => k r S' hq)
theorem kX3_25 {x1 : Int32} {x2 : Int32} {f : Int32} {S0 : sSt} (hd : decode cc pc = .ok (.invokevirtual 25, 3)) (hy : y.cls = RX3) (hsh : B.2.1[o]? = some (.inr (.inl (3, fl)))) (h2 : CS B yX3_mostFrom cX3_mostFrom 5 (some .int) d2 (.ref (s_ad B o) :: [.int x1, .int x2]) S (qI f S0)) (hd2 : d2 < d) (hst : (st.map fun v => v.category).sum ≤ 8) (k : WS B E y cc mL rt d (pc + 3) lv (.int f :: st) S0 Q) : WS B E y cc mL rt d pc lv (.int x2 :: .int x1 :: .ref (s_ad B o) :: st) S Q :=
  kX3_25r hd hy hsh h2 hd2 hst (fun r S' hq => by obtain ⟨h1, rfl⟩ := hq; cases h1; exact k)
theorem kX3_36r {x1 : Int32} {x2 : Int32} {x3 : Int32} (hd : decode cc pc = .ok (.invokevirtual 36, 3)) (hy : y.cls = RX3) (hsh : B.2.1[o]? = some (.inr (.inl (3, fl)))) (h2 : CS B yX3_lowestThatServes cX3_lowestThatServes 6 (some .int) d2 (.ref (s_ad B o) :: [.int x1, .int x2, .int x3]) S Q2) (hd2 : d2 < d) (hst : (st.map fun v => v.category).sum ≤ 8) (k : ∀ (r : Int32) (S' : sSt), Q2 (some (.int r)) S' → WS B E y cc mL rt d (pc + 3) lv (.int r :: st) S' Q) : WS B E y cc mL rt d pc lv (.int x3 :: .int x2 :: .int x1 :: .ref (s_ad B o) :: st) S Q :=
  x_V3i h2 hsh rfl mX3_lowestThatServes (Nat.le_of_ble_eq_true rfl) (by rw [hy]; exact sT_3 83 rfl rfl) vX3_lowestThatServes hd2 hst hd (fun r S' _ hq => k r S' hq)
theorem kX3_36 {x1 : Int32} {x2 : Int32} {x3 : Int32} {f : Int32} {S0 : sSt} (hd : decode cc pc = .ok (.invokevirtual 36, 3)) (hy : y.cls = RX3) (hsh : B.2.1[o]? = some (.inr (.inl (3, fl)))) (h2 : CS B yX3_lowestThatServes cX3_lowestThatServes 6 (some .int) d2 (.ref (s_ad B o) :: [.int x1, .int x2, .int x3]) S (qI f S0)) (hd2 : d2 < d) (hst : (st.map fun v => v.category).sum ≤ 8) (k : WS B E y cc mL rt d (pc + 3) lv (.int f :: st) S0 Q) : WS B E y cc mL rt d pc lv (.int x3 :: .int x2 :: .int x1 :: .ref (s_ad B o) :: st) S Q :=
  kX3_36r hd hy hsh h2 hd2 hst (fun r S' hq => by obtain ⟨h1, rfl⟩ := hq; cases h1; exact k)
theorem kX3_49r {x1 : Int32} {x2 : Int32} (hd : decode cc pc = .ok (.invokevirtual 49, 3)) (hy : y.cls = RX3) (hsh : B.2.1[o]? = some (.inr (.inl (0, fl)))) (h2 : CS B yX0_mayEat cX0_mayEat 3 (some .boolean) d2 (.ref (s_ad B o) :: [.int x1, .int x2]) S Q2) (hd2 : d2 < d) (hst : (st.map fun v => v.category).sum ≤ 8) (k : ∀ (r : Int32) (S' : sSt), Q2 (some (.int r)) S' → WS B E y cc mL rt d (pc + 3) lv (.int r :: st) S' Q) : WS B E y cc mL rt d pc lv (.int x2 :: .int x1 :: .ref (s_ad B o) :: st) S Q :=
  x_V2i h2 hsh rfl mX0_mayEat (Nat.le_of_ble_eq_true rfl) (by rw [hy]; exact sT_3 74 rfl rfl) vX0_mayEat hd2 hst hd (fun r S' _ hq => k r S' hq)
theorem kX3_49 {x1 : Int32} {x2 : Int32} {f : Int32} {S0 : sSt} (hd : decode cc pc = .ok (.invokevirtual 49, 3)) (hy : y.cls = RX3) (hsh : B.2.1[o]? = some (.inr (.inl (0, fl)))) (h2 : CS B yX0_mayEat cX0_mayEat 3 (some .boolean) d2 (.ref (s_ad B o) :: [.int x1, .int x2]) S (qI f S0)) (hd2 : d2 < d) (hst : (st.map fun v => v.category).sum ≤ 8) (k : WS B E y cc mL rt d (pc + 3) lv (.int f :: st) S0 Q) : WS B E y cc mL rt d pc lv (.int x2 :: .int x1 :: .ref (s_ad B o) :: st) S Q :=
  kX3_49r hd hy hsh h2 hd2 hst (fun r S' hq => by obtain ⟨h1, rfl⟩ := hq; cases h1; exact k)
theorem kX3_53r {x1 : Int32} {x2 : Int32} (hd : decode cc pc = .ok (.invokevirtual 53, 3)) (hy : y.cls = RX3) (hsh : B.2.1[o]? = some (.inr (.inl (0, fl)))) (h2 : CS B yX0_isRight cX0_isRight 3 (some .boolean) d2 (.ref (s_ad B o) :: [.int x1, .int x2]) S Q2) (hd2 : d2 < d) (hst : (st.map fun v => v.category).sum ≤ 8) (k : ∀ (r : Int32) (S' : sSt), Q2 (some (.int r)) S' → WS B E y cc mL rt d (pc + 3) lv (.int r :: st) S' Q) : WS B E y cc mL rt d pc lv (.int x2 :: .int x1 :: .ref (s_ad B o) :: st) S Q :=
  x_V2i h2 hsh rfl mX0_isRight (Nat.le_of_ble_eq_true rfl) (by rw [hy]; exact sT_3 75 rfl rfl) vX0_isRight hd2 hst hd (fun r S' _ hq => k r S' hq)
theorem kX3_53 {x1 : Int32} {x2 : Int32} {f : Int32} {S0 : sSt} (hd : decode cc pc = .ok (.invokevirtual 53, 3)) (hy : y.cls = RX3) (hsh : B.2.1[o]? = some (.inr (.inl (0, fl)))) (h2 : CS B yX0_isRight cX0_isRight 3 (some .boolean) d2 (.ref (s_ad B o) :: [.int x1, .int x2]) S (qI f S0)) (hd2 : d2 < d) (hst : (st.map fun v => v.category).sum ≤ 8) (k : WS B E y cc mL rt d (pc + 3) lv (.int f :: st) S0 Q) : WS B E y cc mL rt d pc lv (.int x2 :: .int x1 :: .ref (s_ad B o) :: st) S Q :=
  kX3_53r hd hy hsh h2 hd2 hst (fun r S' hq => by obtain ⟨h1, rfl⟩ := hq; cases h1; exact k)
theorem kX3_59r {r1 : Nat} {x2 : Int32} {x3 : Int32} (hd : decode cc pc = .ok (.invokestatic 59, 3)) (hy : y.cls = RX3) (h2 : CS B yX3_findsOne cX3_findsOne 6 (some .boolean) d2 [.ref r1, .int x2, .int x3] S Q2) (hd2 : d2 < d) (hst : (st.map fun v => v.category).sum ≤ 8) (k : ∀ (r : Int32) (S' : sSt), Q2 (some (.int r)) S' → WS B E y cc mL rt d (pc + 3) lv (.int r :: st) S' Q) : WS B E y cc mL rt d pc lv (.int x3 :: .int x2 :: .ref r1 :: st) S Q :=
  x_S3i h2 mX3_findsOne (Nat.le_of_ble_eq_true rfl) (by rw [hy]; exact sT_3 80 rfl rfl) sX3_findsOne hd2 hst hd (fun r S' _ hq => k r S' hq)
theorem kX3_59 {r1 : Nat} {x2 : Int32} {x3 : Int32} {f : Int32} {S0 : sSt} (hd : decode cc pc = .ok (.invokestatic 59, 3)) (hy : y.cls = RX3) (h2 : CS B yX3_findsOne cX3_findsOne 6 (some .boolean) d2 [.ref r1, .int x2, .int x3] S (qI f S0)) (hd2 : d2 < d) (hst : (st.map fun v => v.category).sum ≤ 8) (k : WS B E y cc mL rt d (pc + 3) lv (.int f :: st) S0 Q) : WS B E y cc mL rt d pc lv (.int x3 :: .int x2 :: .ref r1 :: st) S Q :=
  kX3_59r hd hy h2 hd2 hst (fun r S' hq => by obtain ⟨h1, rfl⟩ := hq; cases h1; exact k)
theorem kX4_28r {x1 : Int32} {x2 : Int32} (hd : decode cc pc = .ok (.invokestatic 28, 3)) (hy : y.cls = RX4) (h2 : CS B yX6_momentsThrough cX6_momentsThrough 2 (some .int) d2 [.int x1, .int x2] S Q2) (hd2 : d2 < d) (hst : (st.map fun v => v.category).sum ≤ 8) (k : ∀ (r : Int32) (S' : sSt), Q2 (some (.int r)) S' → WS B E y cc mL rt d (pc + 3) lv (.int r :: st) S' Q) : WS B E y cc mL rt d pc lv (.int x2 :: .int x1 :: st) S Q :=
  x_SN2i (host := "ToastBelt") h2 mX6_momentsThrough (Nat.le_of_ble_eq_true rfl) (by rw [hy]; decide +kernel) sX6_momentsThrough hd2 hst hd (fun r S' _ hq => k r S' hq)
theorem kX4_28 {x1 : Int32} {x2 : Int32} {f : Int32} {S0 : sSt} (hd : decode cc pc = .ok (.invokestatic 28, 3)) (hy : y.cls = RX4) (h2 : CS B yX6_momentsThrough cX6_momentsThrough 2 (some .int) d2 [.int x1, .int x2] S (qI f S0)) (hd2 : d2 < d) (hst : (st.map fun v => v.category).sum ≤ 8) (k : WS B E y cc mL rt d (pc + 3) lv (.int f :: st) S0 Q) : WS B E y cc mL rt d pc lv (.int x2 :: .int x1 :: st) S Q :=
  kX4_28r hd hy h2 hd2 hst (fun r S' hq => by obtain ⟨h1, rfl⟩ := hq; cases h1; exact k)
theorem kX4_32r {x1 : Int32} {x2 : Int32} {x3 : Int32} (hd : decode cc pc = .ok (.invokestatic 32, 3)) (hy : y.cls = RX4) (h2 : CS B yX6_browning cX6_browning 4 (some .int) d2 [.int x1, .int x2, .int x3] S Q2) (hd2 : d2 < d) (hst : (st.map fun v => v.category).sum ≤ 8) (k : ∀ (r : Int32) (S' : sSt), Q2 (some (.int r)) S' → WS B E y cc mL rt d (pc + 3) lv (.int r :: st) S' Q) : WS B E y cc mL rt d pc lv (.int x3 :: .int x2 :: .int x1 :: st) S Q :=
  x_SN3i (host := "ToastBelt") h2 mX6_browning (Nat.le_of_ble_eq_true rfl) (by rw [hy]; decide +kernel) sX6_browning hd2 hst hd (fun r S' _ hq => k r S' hq)
theorem kX4_32 {x1 : Int32} {x2 : Int32} {x3 : Int32} {f : Int32} {S0 : sSt} (hd : decode cc pc = .ok (.invokestatic 32, 3)) (hy : y.cls = RX4) (h2 : CS B yX6_browning cX6_browning 4 (some .int) d2 [.int x1, .int x2, .int x3] S (qI f S0)) (hd2 : d2 < d) (hst : (st.map fun v => v.category).sum ≤ 8) (k : WS B E y cc mL rt d (pc + 3) lv (.int f :: st) S0 Q) : WS B E y cc mL rt d pc lv (.int x3 :: .int x2 :: .int x1 :: st) S Q :=
  kX4_32r hd hy h2 hd2 hst (fun r S' hq => by obtain ⟨h1, rfl⟩ := hq; cases h1; exact k)
theorem kX5_23r  (hd : decode cc pc = .ok (.invokevirtual 23, 3)) (hy : y.cls = RX5) (hsh : B.2.1[o]? = some (.inr (.inl (2, fl)))) (h2 : CS B yX2_begin cX2_begin 1 none d2 (.ref (s_ad B o) :: []) S Q2) (hd2 : d2 < d) (hst : (st.map fun v => v.category).sum ≤ 8) (k : ∀ (S' : sSt), Q2 none S' → WS B E y cc mL rt d (pc + 3) lv st S' Q) : WS B E y cc mL rt d pc lv (.ref (s_ad B o) :: st) S Q :=
  x_V0v h2 hsh rfl mX2_begin (Nat.le_of_ble_eq_true rfl) (by rw [hy]; exact sT_2 19 rfl rfl) vX2_begin hd2 hst hd k
theorem kX5_23  {S0 : sSt} (hd : decode cc pc = .ok (.invokevirtual 23, 3)) (hy : y.cls = RX5) (hsh : B.2.1[o]? = some (.inr (.inl (2, fl)))) (h2 : CS B yX2_begin cX2_begin 1 none d2 (.ref (s_ad B o) :: []) S (qV S0)) (hd2 : d2 < d) (hst : (st.map fun v => v.category).sum ≤ 8) (k : WS B E y cc mL rt d (pc + 3) lv st S0 Q) : WS B E y cc mL rt d pc lv (.ref (s_ad B o) :: st) S Q :=
  kX5_23r hd hy hsh h2 hd2 hst (fun S' hq => by obtain ⟨-, rfl⟩ := hq; exact k)
theorem kX5_31r {r1 : Nat} (hd : decode cc pc = .ok (.invokevirtual 31, 3)) (hy : y.cls = RX5) (hsh : B.2.1[o]? = some (.inr (.inl (5, fl)))) (h2 : CS B yX5_readItem cX5_readItem 5 (some .boolean) d2 (.ref (s_ad B o) :: [.ref r1]) S Q2) (hd2 : d2 < d) (hst : (st.map fun v => v.category).sum ≤ 8) (k : ∀ (r : Int32) (S' : sSt), Q2 (some (.int r)) S' → WS B E y cc mL rt d (pc + 3) lv (.int r :: st) S' Q) : WS B E y cc mL rt d pc lv (.ref r1 :: .ref (s_ad B o) :: st) S Q :=
  x_V1i h2 hsh rfl mX5_readItem (Nat.le_of_ble_eq_true rfl) (by rw [hy]; exact sT_2 23 rfl rfl) vX5_readItem hd2 hst hd (fun r S' _ hq => k r S' hq)
theorem kX5_31 {r1 : Nat} {f : Int32} {S0 : sSt} (hd : decode cc pc = .ok (.invokevirtual 31, 3)) (hy : y.cls = RX5) (hsh : B.2.1[o]? = some (.inr (.inl (5, fl)))) (h2 : CS B yX5_readItem cX5_readItem 5 (some .boolean) d2 (.ref (s_ad B o) :: [.ref r1]) S (qI f S0)) (hd2 : d2 < d) (hst : (st.map fun v => v.category).sum ≤ 8) (k : WS B E y cc mL rt d (pc + 3) lv (.int f :: st) S0 Q) : WS B E y cc mL rt d pc lv (.ref r1 :: .ref (s_ad B o) :: st) S Q :=
  kX5_31r hd hy hsh h2 hd2 hst (fun r S' hq => by obtain ⟨h1, rfl⟩ := hq; cases h1; exact k)
theorem kX5_35r {x1 : Int32} (hd : decode cc pc = .ok (.invokestatic 35, 3)) (hy : y.cls = RX5) (h2 : CS B yX5_numbersBehind cX5_numbersBehind 1 (some .int) d2 [.int x1] S Q2) (hd2 : d2 < d) (hst : (st.map fun v => v.category).sum ≤ 8) (k : ∀ (r : Int32) (S' : sSt), Q2 (some (.int r)) S' → WS B E y cc mL rt d (pc + 3) lv (.int r :: st) S' Q) : WS B E y cc mL rt d pc lv (.int x1 :: st) S Q :=
  x_S1i h2 mX5_numbersBehind (Nat.le_of_ble_eq_true rfl) (by rw [hy]; exact sT_2 27 rfl rfl) sX5_numbersBehind hd2 hst hd (fun r S' _ hq => k r S' hq)
theorem kX5_35 {x1 : Int32} {f : Int32} {S0 : sSt} (hd : decode cc pc = .ok (.invokestatic 35, 3)) (hy : y.cls = RX5) (h2 : CS B yX5_numbersBehind cX5_numbersBehind 1 (some .int) d2 [.int x1] S (qI f S0)) (hd2 : d2 < d) (hst : (st.map fun v => v.category).sum ≤ 8) (k : WS B E y cc mL rt d (pc + 3) lv (.int f :: st) S0 Q) : WS B E y cc mL rt d pc lv (.int x1 :: st) S Q :=
  kX5_35r hd hy h2 hd2 hst (fun r S' hq => by obtain ⟨h1, rfl⟩ := hq; cases h1; exact k)
theorem kX5_39r {x1 : Int32} (hd : decode cc pc = .ok (.invokevirtual 39, 3)) (hy : y.cls = RX5) (hsh : B.2.1[o]? = some (.inr (.inl (5, fl)))) (h2 : CS B yX5_readNumber cX5_readNumber 4 (some .boolean) d2 (.ref (s_ad B o) :: [.int x1]) S Q2) (hd2 : d2 < d) (hst : (st.map fun v => v.category).sum ≤ 8) (k : ∀ (r : Int32) (S' : sSt), Q2 (some (.int r)) S' → WS B E y cc mL rt d (pc + 3) lv (.int r :: st) S' Q) : WS B E y cc mL rt d pc lv (.int x1 :: .ref (s_ad B o) :: st) S Q :=
  x_V1i h2 hsh rfl mX5_readNumber (Nat.le_of_ble_eq_true rfl) (by rw [hy]; exact sT_2 30 rfl rfl) vX5_readNumber hd2 hst hd (fun r S' _ hq => k r S' hq)
theorem kX5_39 {x1 : Int32} {f : Int32} {S0 : sSt} (hd : decode cc pc = .ok (.invokevirtual 39, 3)) (hy : y.cls = RX5) (hsh : B.2.1[o]? = some (.inr (.inl (5, fl)))) (h2 : CS B yX5_readNumber cX5_readNumber 4 (some .boolean) d2 (.ref (s_ad B o) :: [.int x1]) S (qI f S0)) (hd2 : d2 < d) (hst : (st.map fun v => v.category).sum ≤ 8) (k : WS B E y cc mL rt d (pc + 3) lv (.int f :: st) S0 Q) : WS B E y cc mL rt d pc lv (.int x1 :: .ref (s_ad B o) :: st) S Q :=
  kX5_39r hd hy hsh h2 hd2 hst (fun r S' hq => by obtain ⟨h1, rfl⟩ := hq; cases h1; exact k)
theorem kX5_43r {x1 : Int32} (hd : decode cc pc = .ok (.invokevirtual 43, 3)) (hy : y.cls = RX5) (hsh : B.2.1[o]? = some (.inr (.inl (5, fl)))) (h2 : CS B yX5_readSign cX5_readSign 2 (some .boolean) d2 (.ref (s_ad B o) :: [.int x1]) S Q2) (hd2 : d2 < d) (hst : (st.map fun v => v.category).sum ≤ 8) (k : ∀ (r : Int32) (S' : sSt), Q2 (some (.int r)) S' → WS B E y cc mL rt d (pc + 3) lv (.int r :: st) S' Q) : WS B E y cc mL rt d pc lv (.int x1 :: .ref (s_ad B o) :: st) S Q :=
  x_V1i h2 hsh rfl mX5_readSign (Nat.le_of_ble_eq_true rfl) (by rw [hy]; exact sT_2 37 rfl rfl) vX5_readSign hd2 hst hd (fun r S' _ hq => k r S' hq)
theorem kX5_43 {x1 : Int32} {f : Int32} {S0 : sSt} (hd : decode cc pc = .ok (.invokevirtual 43, 3)) (hy : y.cls = RX5) (hsh : B.2.1[o]? = some (.inr (.inl (5, fl)))) (h2 : CS B yX5_readSign cX5_readSign 2 (some .boolean) d2 (.ref (s_ad B o) :: [.int x1]) S (qI f S0)) (hd2 : d2 < d) (hst : (st.map fun v => v.category).sum ≤ 8) (k : WS B E y cc mL rt d (pc + 3) lv (.int f :: st) S0 Q) : WS B E y cc mL rt d pc lv (.int x1 :: .ref (s_ad B o) :: st) S Q :=
  kX5_43r hd hy hsh h2 hd2 hst (fun r S' hq => by obtain ⟨h1, rfl⟩ := hq; cases h1; exact k)
theorem kX5_47r {r1 : Nat} {x2 : Int32} (hd : decode cc pc = .ok (.invokevirtual 47, 3)) (hy : y.cls = RX5) (hsh : B.2.1[o]? = some (.inr (.inl (5, fl)))) (h2 : CS B yX5_tell cX5_tell 3 (some .boolean) d2 (.ref (s_ad B o) :: [.ref r1, .int x2]) S Q2) (hd2 : d2 < d) (hst : (st.map fun v => v.category).sum ≤ 8) (k : ∀ (r : Int32) (S' : sSt), Q2 (some (.int r)) S' → WS B E y cc mL rt d (pc + 3) lv (.int r :: st) S' Q) : WS B E y cc mL rt d pc lv (.int x2 :: .ref r1 :: .ref (s_ad B o) :: st) S Q :=
  x_V2i h2 hsh rfl mX5_tell (Nat.le_of_ble_eq_true rfl) (by rw [hy]; exact sT_2 41 rfl rfl) vX5_tell hd2 hst hd (fun r S' _ hq => k r S' hq)
theorem kX5_47 {r1 : Nat} {x2 : Int32} {f : Int32} {S0 : sSt} (hd : decode cc pc = .ok (.invokevirtual 47, 3)) (hy : y.cls = RX5) (hsh : B.2.1[o]? = some (.inr (.inl (5, fl)))) (h2 : CS B yX5_tell cX5_tell 3 (some .boolean) d2 (.ref (s_ad B o) :: [.ref r1, .int x2]) S (qI f S0)) (hd2 : d2 < d) (hst : (st.map fun v => v.category).sum ≤ 8) (k : WS B E y cc mL rt d (pc + 3) lv (.int f :: st) S0 Q) : WS B E y cc mL rt d pc lv (.int x2 :: .ref r1 :: .ref (s_ad B o) :: st) S Q :=
  kX5_47r hd hy hsh h2 hd2 hst (fun r S' hq => by obtain ⟨h1, rfl⟩ := hq; cases h1; exact k)
theorem kX5_51r {x1 : Int32} {x2 : Int32} {x3 : Int32} (hd : decode cc pc = .ok (.invokestatic 51, 3)) (hy : y.cls = RX5) (h2 : CS B yX6_within cX6_within 3 (some .boolean) d2 [.int x1, .int x2, .int x3] S Q2) (hd2 : d2 < d) (hst : (st.map fun v => v.category).sum ≤ 8) (k : ∀ (r : Int32) (S' : sSt), Q2 (some (.int r)) S' → WS B E y cc mL rt d (pc + 3) lv (.int r :: st) S' Q) : WS B E y cc mL rt d pc lv (.int x3 :: .int x2 :: .int x1 :: st) S Q :=
  x_SN3i (host := "ToastBelt") h2 mX6_within (Nat.le_of_ble_eq_true rfl) (by rw [hy]; decide +kernel) sX6_within hd2 hst hd (fun r S' _ hq => k r S' hq)
theorem kX5_51 {x1 : Int32} {x2 : Int32} {x3 : Int32} {f : Int32} {S0 : sSt} (hd : decode cc pc = .ok (.invokestatic 51, 3)) (hy : y.cls = RX5) (h2 : CS B yX6_within cX6_within 3 (some .boolean) d2 [.int x1, .int x2, .int x3] S (qI f S0)) (hd2 : d2 < d) (hst : (st.map fun v => v.category).sum ≤ 8) (k : WS B E y cc mL rt d (pc + 3) lv (.int f :: st) S0 Q) : WS B E y cc mL rt d pc lv (.int x3 :: .int x2 :: .int x1 :: st) S Q :=
  kX5_51r hd hy h2 hd2 hst (fun r S' hq => by obtain ⟨h1, rfl⟩ := hq; cases h1; exact k)
theorem kX5_55r {x1 : Int32} (hd : decode cc pc = .ok (.invokevirtual 55, 3)) (hy : y.cls = RX5) (hsh : B.2.1[o]? = some (.inr (.inl (2, fl)))) (h2 : CS B yX2_setPlaces cX2_setPlaces 2 (some .boolean) d2 (.ref (s_ad B o) :: [.int x1]) S Q2) (hd2 : d2 < d) (hst : (st.map fun v => v.category).sum ≤ 8) (k : ∀ (r : Int32) (S' : sSt), Q2 (some (.int r)) S' → WS B E y cc mL rt d (pc + 3) lv (.int r :: st) S' Q) : WS B E y cc mL rt d pc lv (.int x1 :: .ref (s_ad B o) :: st) S Q :=
  x_V1i h2 hsh rfl mX2_setPlaces (Nat.le_of_ble_eq_true rfl) (by rw [hy]; exact sT_2 45 rfl rfl) vX2_setPlaces hd2 hst hd (fun r S' _ hq => k r S' hq)
theorem kX5_55 {x1 : Int32} {f : Int32} {S0 : sSt} (hd : decode cc pc = .ok (.invokevirtual 55, 3)) (hy : y.cls = RX5) (hsh : B.2.1[o]? = some (.inr (.inl (2, fl)))) (h2 : CS B yX2_setPlaces cX2_setPlaces 2 (some .boolean) d2 (.ref (s_ad B o) :: [.int x1]) S (qI f S0)) (hd2 : d2 < d) (hst : (st.map fun v => v.category).sum ≤ 8) (k : WS B E y cc mL rt d (pc + 3) lv (.int f :: st) S0 Q) : WS B E y cc mL rt d pc lv (.int x1 :: .ref (s_ad B o) :: st) S Q :=
  kX5_55r hd hy hsh h2 hd2 hst (fun r S' hq => by obtain ⟨h1, rfl⟩ := hq; cases h1; exact k)
theorem kX5_58r {x1 : Int32} (hd : decode cc pc = .ok (.invokevirtual 58, 3)) (hy : y.cls = RX5) (hsh : B.2.1[o]? = some (.inr (.inl (2, fl)))) (h2 : CS B yX2_setKnob cX2_setKnob 2 (some .boolean) d2 (.ref (s_ad B o) :: [.int x1]) S Q2) (hd2 : d2 < d) (hst : (st.map fun v => v.category).sum ≤ 8) (k : ∀ (r : Int32) (S' : sSt), Q2 (some (.int r)) S' → WS B E y cc mL rt d (pc + 3) lv (.int r :: st) S' Q) : WS B E y cc mL rt d pc lv (.int x1 :: .ref (s_ad B o) :: st) S Q :=
  x_V1i h2 hsh rfl mX2_setKnob (Nat.le_of_ble_eq_true rfl) (by rw [hy]; exact sT_2 50 rfl rfl) vX2_setKnob hd2 hst hd (fun r S' _ hq => k r S' hq)
theorem kX5_58 {x1 : Int32} {f : Int32} {S0 : sSt} (hd : decode cc pc = .ok (.invokevirtual 58, 3)) (hy : y.cls = RX5) (hsh : B.2.1[o]? = some (.inr (.inl (2, fl)))) (h2 : CS B yX2_setKnob cX2_setKnob 2 (some .boolean) d2 (.ref (s_ad B o) :: [.int x1]) S (qI f S0)) (hd2 : d2 < d) (hst : (st.map fun v => v.category).sum ≤ 8) (k : WS B E y cc mL rt d (pc + 3) lv (.int f :: st) S0 Q) : WS B E y cc mL rt d pc lv (.int x1 :: .ref (s_ad B o) :: st) S Q :=
  kX5_58r hd hy hsh h2 hd2 hst (fun r S' hq => by obtain ⟨h1, rfl⟩ := hq; cases h1; exact k)
theorem kX5_61r {x1 : Int32} {x2 : Int32} (hd : decode cc pc = .ok (.invokevirtual 61, 3)) (hy : y.cls = RX5) (hsh : B.2.1[o]? = some (.inr (.inl (2, fl)))) (h2 : CS B yX2_setHeat cX2_setHeat 3 (some .boolean) d2 (.ref (s_ad B o) :: [.int x1, .int x2]) S Q2) (hd2 : d2 < d) (hst : (st.map fun v => v.category).sum ≤ 8) (k : ∀ (r : Int32) (S' : sSt), Q2 (some (.int r)) S' → WS B E y cc mL rt d (pc + 3) lv (.int r :: st) S' Q) : WS B E y cc mL rt d pc lv (.int x2 :: .int x1 :: .ref (s_ad B o) :: st) S Q :=
  x_V2i h2 hsh rfl mX2_setHeat (Nat.le_of_ble_eq_true rfl) (by rw [hy]; exact sT_2 58 rfl rfl) vX2_setHeat hd2 hst hd (fun r S' _ hq => k r S' hq)
theorem kX5_61 {x1 : Int32} {x2 : Int32} {f : Int32} {S0 : sSt} (hd : decode cc pc = .ok (.invokevirtual 61, 3)) (hy : y.cls = RX5) (hsh : B.2.1[o]? = some (.inr (.inl (2, fl)))) (h2 : CS B yX2_setHeat cX2_setHeat 3 (some .boolean) d2 (.ref (s_ad B o) :: [.int x1, .int x2]) S (qI f S0)) (hd2 : d2 < d) (hst : (st.map fun v => v.category).sum ≤ 8) (k : WS B E y cc mL rt d (pc + 3) lv (.int f :: st) S0 Q) : WS B E y cc mL rt d pc lv (.int x2 :: .int x1 :: .ref (s_ad B o) :: st) S Q :=
  kX5_61r hd hy hsh h2 hd2 hst (fun r S' hq => by obtain ⟨h1, rfl⟩ := hq; cases h1; exact k)
theorem kX5_65r {x1 : Int32} {x2 : Int32} {x3 : Int32} (hd : decode cc pc = .ok (.invokevirtual 65, 3)) (hy : y.cls = RX5) (hsh : B.2.1[o]? = some (.inr (.inl (2, fl)))) (h2 : CS B yX2_addGuest cX2_addGuest 4 (some .boolean) d2 (.ref (s_ad B o) :: [.int x1, .int x2, .int x3]) S Q2) (hd2 : d2 < d) (hst : (st.map fun v => v.category).sum ≤ 8) (k : ∀ (r : Int32) (S' : sSt), Q2 (some (.int r)) S' → WS B E y cc mL rt d (pc + 3) lv (.int r :: st) S' Q) : WS B E y cc mL rt d pc lv (.int x3 :: .int x2 :: .int x1 :: .ref (s_ad B o) :: st) S Q :=
  x_V3i h2 hsh rfl mX2_addGuest (Nat.le_of_ble_eq_true rfl) (by rw [hy]; exact sT_2 62 rfl rfl) vX2_addGuest hd2 hst hd (fun r S' _ hq => k r S' hq)
theorem kX5_65 {x1 : Int32} {x2 : Int32} {x3 : Int32} {f : Int32} {S0 : sSt} (hd : decode cc pc = .ok (.invokevirtual 65, 3)) (hy : y.cls = RX5) (hsh : B.2.1[o]? = some (.inr (.inl (2, fl)))) (h2 : CS B yX2_addGuest cX2_addGuest 4 (some .boolean) d2 (.ref (s_ad B o) :: [.int x1, .int x2, .int x3]) S (qI f S0)) (hd2 : d2 < d) (hst : (st.map fun v => v.category).sum ≤ 8) (k : WS B E y cc mL rt d (pc + 3) lv (.int f :: st) S0 Q) : WS B E y cc mL rt d pc lv (.int x3 :: .int x2 :: .int x1 :: .ref (s_ad B o) :: st) S Q :=
  kX5_65r hd hy hsh h2 hd2 hst (fun r S' hq => by obtain ⟨h1, rfl⟩ := hq; cases h1; exact k)
theorem kX6_101r {x1 : Int32} (hd : decode cc pc = .ok (.invokevirtual 101, 3)) (hy : y.cls = RX6) (hsh : B.2.1[o]? = some (.inr (.inl (6, fl)))) (h2 : CS B yX6_isGuest cX6_isGuest 2 (some .boolean) d2 (.ref (s_ad B o) :: [.int x1]) S Q2) (hd2 : d2 < d) (hst : (st.map fun v => v.category).sum ≤ 8) (k : ∀ (r : Int32) (S' : sSt), Q2 (some (.int r)) S' → WS B E y cc mL rt d (pc + 3) lv (.int r :: st) S' Q) : WS B E y cc mL rt d pc lv (.int x1 :: .ref (s_ad B o) :: st) S Q :=
  x_V1i h2 hsh rfl mX6_isGuest (Nat.le_of_ble_eq_true rfl) (by rw [hy]; exact sT_2 148 rfl rfl) vX6_isGuest hd2 hst hd (fun r S' _ hq => k r S' hq)
theorem kX6_101 {x1 : Int32} {f : Int32} {S0 : sSt} (hd : decode cc pc = .ok (.invokevirtual 101, 3)) (hy : y.cls = RX6) (hsh : B.2.1[o]? = some (.inr (.inl (6, fl)))) (h2 : CS B yX6_isGuest cX6_isGuest 2 (some .boolean) d2 (.ref (s_ad B o) :: [.int x1]) S (qI f S0)) (hd2 : d2 < d) (hst : (st.map fun v => v.category).sum ≤ 8) (k : WS B E y cc mL rt d (pc + 3) lv (.int f :: st) S0 Q) : WS B E y cc mL rt d pc lv (.int x1 :: .ref (s_ad B o) :: st) S Q :=
  kX6_101r hd hy hsh h2 hd2 hst (fun r S' hq => by obtain ⟨h1, rfl⟩ := hq; cases h1; exact k)
theorem kX6_115r {x1 : Int32} (hd : decode cc pc = .ok (.invokevirtual 115, 3)) (hy : y.cls = RX6) (hsh : B.2.1[o]? = some (.inr (.inl (0, fl)))) (h2 : CS B yX0_eatenBy cX0_eatenBy 3 (some .int) d2 (.ref (s_ad B o) :: [.int x1]) S Q2) (hd2 : d2 < d) (hst : (st.map fun v => v.category).sum ≤ 8) (k : ∀ (r : Int32) (S' : sSt), Q2 (some (.int r)) S' → WS B E y cc mL rt d (pc + 3) lv (.int r :: st) S' Q) : WS B E y cc mL rt d pc lv (.int x1 :: .ref (s_ad B o) :: st) S Q :=
  x_V1i h2 hsh rfl mX0_eatenBy (Nat.le_of_ble_eq_true rfl) (by rw [hy]; exact sT_2 152 rfl rfl) vX0_eatenBy hd2 hst hd (fun r S' _ hq => k r S' hq)
theorem kX6_115 {x1 : Int32} {f : Int32} {S0 : sSt} (hd : decode cc pc = .ok (.invokevirtual 115, 3)) (hy : y.cls = RX6) (hsh : B.2.1[o]? = some (.inr (.inl (0, fl)))) (h2 : CS B yX0_eatenBy cX0_eatenBy 3 (some .int) d2 (.ref (s_ad B o) :: [.int x1]) S (qI f S0)) (hd2 : d2 < d) (hst : (st.map fun v => v.category).sum ≤ 8) (k : WS B E y cc mL rt d (pc + 3) lv (.int f :: st) S0 Q) : WS B E y cc mL rt d pc lv (.int x1 :: .ref (s_ad B o) :: st) S Q :=
  kX6_115r hd hy hsh h2 hd2 hst (fun r S' hq => by obtain ⟨h1, rfl⟩ := hq; cases h1; exact k)
theorem kX6_134r {x1 : Int32} {x2 : Int32} (hd : decode cc pc = .ok (.invokevirtual 134, 3)) (hy : y.cls = RX6) (hsh : B.2.1[o]? = some (.inr (.inl (0, fl)))) (h2 : CS B yX0_isRight cX0_isRight 3 (some .boolean) d2 (.ref (s_ad B o) :: [.int x1, .int x2]) S Q2) (hd2 : d2 < d) (hst : (st.map fun v => v.category).sum ≤ 8) (k : ∀ (r : Int32) (S' : sSt), Q2 (some (.int r)) S' → WS B E y cc mL rt d (pc + 3) lv (.int r :: st) S' Q) : WS B E y cc mL rt d pc lv (.int x2 :: .int x1 :: .ref (s_ad B o) :: st) S Q :=
  x_V2i h2 hsh rfl mX0_isRight (Nat.le_of_ble_eq_true rfl) (by rw [hy]; exact sT_2 160 rfl rfl) vX0_isRight hd2 hst hd (fun r S' _ hq => k r S' hq)
theorem kX6_134 {x1 : Int32} {x2 : Int32} {f : Int32} {S0 : sSt} (hd : decode cc pc = .ok (.invokevirtual 134, 3)) (hy : y.cls = RX6) (hsh : B.2.1[o]? = some (.inr (.inl (0, fl)))) (h2 : CS B yX0_isRight cX0_isRight 3 (some .boolean) d2 (.ref (s_ad B o) :: [.int x1, .int x2]) S (qI f S0)) (hd2 : d2 < d) (hst : (st.map fun v => v.category).sum ≤ 8) (k : WS B E y cc mL rt d (pc + 3) lv (.int f :: st) S0 Q) : WS B E y cc mL rt d pc lv (.int x2 :: .int x1 :: .ref (s_ad B o) :: st) S Q :=
  kX6_134r hd hy hsh h2 hd2 hst (fun r S' hq => by obtain ⟨h1, rfl⟩ := hq; cases h1; exact k)
theorem kX6_138r {x1 : Int32} (hd : decode cc pc = .ok (.invokestatic 138, 3)) (hy : y.cls = RX6) (h2 : CS B yX6_isLane cX6_isLane 1 (some .boolean) d2 [.int x1] S Q2) (hd2 : d2 < d) (hst : (st.map fun v => v.category).sum ≤ 8) (k : ∀ (r : Int32) (S' : sSt), Q2 (some (.int r)) S' → WS B E y cc mL rt d (pc + 3) lv (.int r :: st) S' Q) : WS B E y cc mL rt d pc lv (.int x1 :: st) S Q :=
  x_S1i h2 mX6_isLane (Nat.le_of_ble_eq_true rfl) (by rw [hy]; exact sT_2 169 rfl rfl) sX6_isLane hd2 hst hd (fun r S' _ hq => k r S' hq)
theorem kX6_138 {x1 : Int32} {f : Int32} {S0 : sSt} (hd : decode cc pc = .ok (.invokestatic 138, 3)) (hy : y.cls = RX6) (h2 : CS B yX6_isLane cX6_isLane 1 (some .boolean) d2 [.int x1] S (qI f S0)) (hd2 : d2 < d) (hst : (st.map fun v => v.category).sum ≤ 8) (k : WS B E y cc mL rt d (pc + 3) lv (.int f :: st) S0 Q) : WS B E y cc mL rt d pc lv (.int x1 :: st) S Q :=
  kX6_138r hd hy h2 hd2 hst (fun r S' hq => by obtain ⟨h1, rfl⟩ := hq; cases h1; exact k)
theorem kX6_141r {x1 : Int32} (hd : decode cc pc = .ok (.invokevirtual 141, 3)) (hy : y.cls = RX6) (hsh : B.2.1[o]? = some (.inr (.inl (0, fl)))) (h2 : CS B yX0_canGoIn cX0_canGoIn 2 (some .boolean) d2 (.ref (s_ad B o) :: [.int x1]) S Q2) (hd2 : d2 < d) (hst : (st.map fun v => v.category).sum ≤ 8) (k : ∀ (r : Int32) (S' : sSt), Q2 (some (.int r)) S' → WS B E y cc mL rt d (pc + 3) lv (.int r :: st) S' Q) : WS B E y cc mL rt d pc lv (.int x1 :: .ref (s_ad B o) :: st) S Q :=
  x_V1i h2 hsh rfl mX0_canGoIn (Nat.le_of_ble_eq_true rfl) (by rw [hy]; exact sT_2 172 rfl rfl) vX0_canGoIn hd2 hst hd (fun r S' _ hq => k r S' hq)
theorem kX6_141 {x1 : Int32} {f : Int32} {S0 : sSt} (hd : decode cc pc = .ok (.invokevirtual 141, 3)) (hy : y.cls = RX6) (hsh : B.2.1[o]? = some (.inr (.inl (0, fl)))) (h2 : CS B yX0_canGoIn cX0_canGoIn 2 (some .boolean) d2 (.ref (s_ad B o) :: [.int x1]) S (qI f S0)) (hd2 : d2 < d) (hst : (st.map fun v => v.category).sum ≤ 8) (k : WS B E y cc mL rt d (pc + 3) lv (.int f :: st) S0 Q) : WS B E y cc mL rt d pc lv (.int x1 :: .ref (s_ad B o) :: st) S Q :=
  kX6_141r hd hy hsh h2 hd2 hst (fun r S' hq => by obtain ⟨h1, rfl⟩ := hq; cases h1; exact k)
theorem kX6_144r {x1 : Int32} (hd : decode cc pc = .ok (.invokevirtual 144, 3)) (hy : y.cls = RX6) (hsh : B.2.1[o]? = some (.inr (.inl (0, fl)))) (h2 : CS B yX0_isFreeAtStart cX0_isFreeAtStart 3 (some .boolean) d2 (.ref (s_ad B o) :: [.int x1]) S Q2) (hd2 : d2 < d) (hst : (st.map fun v => v.category).sum ≤ 8) (k : ∀ (r : Int32) (S' : sSt), Q2 (some (.int r)) S' → WS B E y cc mL rt d (pc + 3) lv (.int r :: st) S' Q) : WS B E y cc mL rt d pc lv (.int x1 :: .ref (s_ad B o) :: st) S Q :=
  x_V1i h2 hsh rfl mX0_isFreeAtStart (Nat.le_of_ble_eq_true rfl) (by rw [hy]; exact sT_2 176 rfl rfl) vX0_isFreeAtStart hd2 hst hd (fun r S' _ hq => k r S' hq)
theorem kX6_144 {x1 : Int32} {f : Int32} {S0 : sSt} (hd : decode cc pc = .ok (.invokevirtual 144, 3)) (hy : y.cls = RX6) (hsh : B.2.1[o]? = some (.inr (.inl (0, fl)))) (h2 : CS B yX0_isFreeAtStart cX0_isFreeAtStart 3 (some .boolean) d2 (.ref (s_ad B o) :: [.int x1]) S (qI f S0)) (hd2 : d2 < d) (hst : (st.map fun v => v.category).sum ≤ 8) (k : WS B E y cc mL rt d (pc + 3) lv (.int f :: st) S0 Q) : WS B E y cc mL rt d pc lv (.int x1 :: .ref (s_ad B o) :: st) S Q :=
  kX6_144r hd hy hsh h2 hd2 hst (fun r S' hq => by obtain ⟨h1, rfl⟩ := hq; cases h1; exact k)
theorem kX6_147r {r1 : Nat} (hd : decode cc pc = .ok (.invokevirtual 147, 3)) (hy : y.cls = RX6) (hsh : B.2.1[o]? = some (.inr (.inl (1, fl)))) (h2 : CS B yX1_remember cX1_remember 2 none d2 (.ref (s_ad B o) :: [.ref r1]) S Q2) (hd2 : d2 < d) (hst : (st.map fun v => v.category).sum ≤ 8) (k : ∀ (S' : sSt), Q2 none S' → WS B E y cc mL rt d (pc + 3) lv st S' Q) : WS B E y cc mL rt d pc lv (.ref r1 :: .ref (s_ad B o) :: st) S Q :=
  x_V1v h2 hsh rfl mX1_remember (Nat.le_of_ble_eq_true rfl) (by rw [hy]; exact sT_2 180 rfl rfl) vX1_remember hd2 hst hd k
theorem kX6_147 {r1 : Nat} {S0 : sSt} (hd : decode cc pc = .ok (.invokevirtual 147, 3)) (hy : y.cls = RX6) (hsh : B.2.1[o]? = some (.inr (.inl (1, fl)))) (h2 : CS B yX1_remember cX1_remember 2 none d2 (.ref (s_ad B o) :: [.ref r1]) S (qV S0)) (hd2 : d2 < d) (hst : (st.map fun v => v.category).sum ≤ 8) (k : WS B E y cc mL rt d (pc + 3) lv st S0 Q) : WS B E y cc mL rt d pc lv (.ref r1 :: .ref (s_ad B o) :: st) S Q :=
  kX6_147r hd hy hsh h2 hd2 hst (fun S' hq => by obtain ⟨-, rfl⟩ := hq; exact k)
theorem kX6_151r {x1 : Int32} {x2 : Int32} (hd : decode cc pc = .ok (.invokevirtual 151, 3)) (hy : y.cls = RX6) (hsh : B.2.1[o]? = some (.inr (.inl (0, fl)))) (h2 : CS B yX0_setAtStart cX0_setAtStart 3 none d2 (.ref (s_ad B o) :: [.int x1, .int x2]) S Q2) (hd2 : d2 < d) (hst : (st.map fun v => v.category).sum ≤ 8) (k : ∀ (S' : sSt), Q2 none S' → WS B E y cc mL rt d (pc + 3) lv st S' Q) : WS B E y cc mL rt d pc lv (.int x2 :: .int x1 :: .ref (s_ad B o) :: st) S Q :=
  x_V2v h2 hsh rfl mX0_setAtStart (Nat.le_of_ble_eq_true rfl) (by rw [hy]; exact sT_2 192 rfl rfl) vX0_setAtStart hd2 hst hd k
theorem kX6_151 {x1 : Int32} {x2 : Int32} {S0 : sSt} (hd : decode cc pc = .ok (.invokevirtual 151, 3)) (hy : y.cls = RX6) (hsh : B.2.1[o]? = some (.inr (.inl (0, fl)))) (h2 : CS B yX0_setAtStart cX0_setAtStart 3 none d2 (.ref (s_ad B o) :: [.int x1, .int x2]) S (qV S0)) (hd2 : d2 < d) (hst : (st.map fun v => v.category).sum ≤ 8) (k : WS B E y cc mL rt d (pc + 3) lv st S0 Q) : WS B E y cc mL rt d pc lv (.int x2 :: .int x1 :: .ref (s_ad B o) :: st) S Q :=
  kX6_151r hd hy hsh h2 hd2 hst (fun S' hq => by obtain ⟨-, rfl⟩ := hq; exact k)
theorem kX6_155r {x1 : Int32} (hd : decode cc pc = .ok (.invokevirtual 155, 3)) (hy : y.cls = RX6) (hsh : B.2.1[o]? = some (.inr (.inl (0, fl)))) (h2 : CS B yX0_howMany cX0_howMany 4 (some .int) d2 (.ref (s_ad B o) :: [.int x1]) S Q2) (hd2 : d2 < d) (hst : (st.map fun v => v.category).sum ≤ 8) (k : ∀ (r : Int32) (S' : sSt), Q2 (some (.int r)) S' → WS B E y cc mL rt d (pc + 3) lv (.int r :: st) S' Q) : WS B E y cc mL rt d pc lv (.int x1 :: .ref (s_ad B o) :: st) S Q :=
  x_V1i h2 hsh rfl mX0_howMany (Nat.le_of_ble_eq_true rfl) (by rw [hy]; exact sT_2 196 rfl rfl) vX0_howMany hd2 hst hd (fun r S' _ hq => k r S' hq)
theorem kX6_155 {x1 : Int32} {f : Int32} {S0 : sSt} (hd : decode cc pc = .ok (.invokevirtual 155, 3)) (hy : y.cls = RX6) (hsh : B.2.1[o]? = some (.inr (.inl (0, fl)))) (h2 : CS B yX0_howMany cX0_howMany 4 (some .int) d2 (.ref (s_ad B o) :: [.int x1]) S (qI f S0)) (hd2 : d2 < d) (hst : (st.map fun v => v.category).sum ≤ 8) (k : WS B E y cc mL rt d (pc + 3) lv (.int f :: st) S0 Q) : WS B E y cc mL rt d pc lv (.int x1 :: .ref (s_ad B o) :: st) S Q :=
  kX6_155r hd hy hsh h2 hd2 hst (fun r S' hq => by obtain ⟨h1, rfl⟩ := hq; cases h1; exact k)
theorem kX6_161r  (hd : decode cc pc = .ok (.invokevirtual 161, 3)) (hy : y.cls = RX6) (hsh : B.2.1[o]? = some (.inr (.inl (0, fl)))) (h2 : CS B yX0_goOn cX0_goOn 3 none d2 (.ref (s_ad B o) :: []) S Q2) (hd2 : d2 < d) (hst : (st.map fun v => v.category).sum ≤ 8) (k : ∀ (S' : sSt), Q2 none S' → WS B E y cc mL rt d (pc + 3) lv st S' Q) : WS B E y cc mL rt d pc lv (.ref (s_ad B o) :: st) S Q :=
  x_V0v h2 hsh rfl mX0_goOn (Nat.le_of_ble_eq_true rfl) (by rw [hy]; exact sT_2 204 rfl rfl) vX0_goOn hd2 hst hd k
theorem kX6_161  {S0 : sSt} (hd : decode cc pc = .ok (.invokevirtual 161, 3)) (hy : y.cls = RX6) (hsh : B.2.1[o]? = some (.inr (.inl (0, fl)))) (h2 : CS B yX0_goOn cX0_goOn 3 none d2 (.ref (s_ad B o) :: []) S (qV S0)) (hd2 : d2 < d) (hst : (st.map fun v => v.category).sum ≤ 8) (k : WS B E y cc mL rt d (pc + 3) lv st S0 Q) : WS B E y cc mL rt d pc lv (.ref (s_ad B o) :: st) S Q :=
  kX6_161r hd hy hsh h2 hd2 hst (fun S' hq => by obtain ⟨-, rfl⟩ := hq; exact k)
theorem kX6_164r {x1 : Int32} (hd : decode cc pc = .ok (.invokestatic 164, 3)) (hy : y.cls = RX6) (h2 : CS B yX6_isKnob cX6_isKnob 1 (some .boolean) d2 [.int x1] S Q2) (hd2 : d2 < d) (hst : (st.map fun v => v.category).sum ≤ 8) (k : ∀ (r : Int32) (S' : sSt), Q2 (some (.int r)) S' → WS B E y cc mL rt d (pc + 3) lv (.int r :: st) S' Q) : WS B E y cc mL rt d pc lv (.int x1 :: st) S Q :=
  x_S1i h2 mX6_isKnob (Nat.le_of_ble_eq_true rfl) (by rw [hy]; exact sT_2 224 rfl rfl) sX6_isKnob hd2 hst hd (fun r S' _ hq => k r S' hq)
theorem kX6_164 {x1 : Int32} {f : Int32} {S0 : sSt} (hd : decode cc pc = .ok (.invokestatic 164, 3)) (hy : y.cls = RX6) (h2 : CS B yX6_isKnob cX6_isKnob 1 (some .boolean) d2 [.int x1] S (qI f S0)) (hd2 : d2 < d) (hst : (st.map fun v => v.category).sum ≤ 8) (k : WS B E y cc mL rt d (pc + 3) lv (.int f :: st) S0 Q) : WS B E y cc mL rt d pc lv (.int x1 :: st) S Q :=
  kX6_164r hd hy h2 hd2 hst (fun r S' hq => by obtain ⟨h1, rfl⟩ := hq; cases h1; exact k)
theorem kX6_170r {x1 : Int32} {x2 : Int32} (hd : decode cc pc = .ok (.invokevirtual 170, 3)) (hy : y.cls = RX6) (hsh : B.2.1[o]? = some (.inr (.inl (0, fl)))) (h2 : CS B yX0_mayEat cX0_mayEat 3 (some .boolean) d2 (.ref (s_ad B o) :: [.int x1, .int x2]) S Q2) (hd2 : d2 < d) (hst : (st.map fun v => v.category).sum ≤ 8) (k : ∀ (r : Int32) (S' : sSt), Q2 (some (.int r)) S' → WS B E y cc mL rt d (pc + 3) lv (.int r :: st) S' Q) : WS B E y cc mL rt d pc lv (.int x2 :: .int x1 :: .ref (s_ad B o) :: st) S Q :=
  x_V2i h2 hsh rfl mX0_mayEat (Nat.le_of_ble_eq_true rfl) (by rw [hy]; exact sT_2 229 rfl rfl) vX0_mayEat hd2 hst hd (fun r S' _ hq => k r S' hq)
theorem kX6_170 {x1 : Int32} {x2 : Int32} {f : Int32} {S0 : sSt} (hd : decode cc pc = .ok (.invokevirtual 170, 3)) (hy : y.cls = RX6) (hsh : B.2.1[o]? = some (.inr (.inl (0, fl)))) (h2 : CS B yX0_mayEat cX0_mayEat 3 (some .boolean) d2 (.ref (s_ad B o) :: [.int x1, .int x2]) S (qI f S0)) (hd2 : d2 < d) (hst : (st.map fun v => v.category).sum ≤ 8) (k : WS B E y cc mL rt d (pc + 3) lv (.int f :: st) S0 Q) : WS B E y cc mL rt d pc lv (.int x2 :: .int x1 :: .ref (s_ad B o) :: st) S Q :=
  kX6_170r hd hy hsh h2 hd2 hst (fun r S' hq => by obtain ⟨h1, rfl⟩ := hq; cases h1; exact k)
theorem kX6_173r {x1 : Int32} {x2 : Int32} (hd : decode cc pc = .ok (.invokevirtual 173, 3)) (hy : y.cls = RX6) (hsh : B.2.1[o]? = some (.inr (.inl (0, fl)))) (h2 : CS B yX0_eat cX0_eat 3 none d2 (.ref (s_ad B o) :: [.int x1, .int x2]) S Q2) (hd2 : d2 < d) (hst : (st.map fun v => v.category).sum ≤ 8) (k : ∀ (S' : sSt), Q2 none S' → WS B E y cc mL rt d (pc + 3) lv st S' Q) : WS B E y cc mL rt d pc lv (.int x2 :: .int x1 :: .ref (s_ad B o) :: st) S Q :=
  x_V2v h2 hsh rfl mX0_eat (Nat.le_of_ble_eq_true rfl) (by rw [hy]; exact sT_2 234 rfl rfl) vX0_eat hd2 hst hd k
theorem kX6_173 {x1 : Int32} {x2 : Int32} {S0 : sSt} (hd : decode cc pc = .ok (.invokevirtual 173, 3)) (hy : y.cls = RX6) (hsh : B.2.1[o]? = some (.inr (.inl (0, fl)))) (h2 : CS B yX0_eat cX0_eat 3 none d2 (.ref (s_ad B o) :: [.int x1, .int x2]) S (qV S0)) (hd2 : d2 < d) (hst : (st.map fun v => v.category).sum ≤ 8) (k : WS B E y cc mL rt d (pc + 3) lv st S0 Q) : WS B E y cc mL rt d pc lv (.int x2 :: .int x1 :: .ref (s_ad B o) :: st) S Q :=
  kX6_173r hd hy hsh h2 hd2 hst (fun S' hq => by obtain ⟨-, rfl⟩ := hq; exact k)
theorem kX6_179r {r1 : Nat} (hd : decode cc pc = .ok (.invokevirtual 179, 3)) (hy : y.cls = RX6) (hsh : B.2.1[o]? = some (.inr (.inl (1, fl)))) (h2 : CS B yX1_bringBack cX1_bringBack 2 none d2 (.ref (s_ad B o) :: [.ref r1]) S Q2) (hd2 : d2 < d) (hst : (st.map fun v => v.category).sum ≤ 8) (k : ∀ (S' : sSt), Q2 none S' → WS B E y cc mL rt d (pc + 3) lv st S' Q) : WS B E y cc mL rt d pc lv (.ref r1 :: .ref (s_ad B o) :: st) S Q :=
  x_V1v h2 hsh rfl mX1_bringBack (Nat.le_of_ble_eq_true rfl) (by rw [hy]; exact sT_3 2 rfl rfl) vX1_bringBack hd2 hst hd k
theorem kX6_179 {r1 : Nat} {S0 : sSt} (hd : decode cc pc = .ok (.invokevirtual 179, 3)) (hy : y.cls = RX6) (hsh : B.2.1[o]? = some (.inr (.inl (1, fl)))) (h2 : CS B yX1_bringBack cX1_bringBack 2 none d2 (.ref (s_ad B o) :: [.ref r1]) S (qV S0)) (hd2 : d2 < d) (hst : (st.map fun v => v.category).sum ≤ 8) (k : WS B E y cc mL rt d (pc + 3) lv st S0 Q) : WS B E y cc mL rt d pc lv (.ref r1 :: .ref (s_ad B o) :: st) S Q :=
  kX6_179r hd hy hsh h2 hd2 hst (fun S' hq => by obtain ⟨-, rfl⟩ := hq; exact k)
theorem kX6_184r {x1 : Int32} {x2 : Int32} (hd : decode cc pc = .ok (.invokestatic 184, 3)) (hy : y.cls = RX6) (h2 : CS B yX6_momentsThrough cX6_momentsThrough 2 (some .int) d2 [.int x1, .int x2] S Q2) (hd2 : d2 < d) (hst : (st.map fun v => v.category).sum ≤ 8) (k : ∀ (r : Int32) (S' : sSt), Q2 (some (.int r)) S' → WS B E y cc mL rt d (pc + 3) lv (.int r :: st) S' Q) : WS B E y cc mL rt d pc lv (.int x2 :: .int x1 :: st) S Q :=
  x_S2i h2 mX6_momentsThrough (Nat.le_of_ble_eq_true rfl) (by rw [hy]; exact sT_3 10 rfl rfl) sX6_momentsThrough hd2 hst hd (fun r S' _ hq => k r S' hq)
theorem kX6_184 {x1 : Int32} {x2 : Int32} {f : Int32} {S0 : sSt} (hd : decode cc pc = .ok (.invokestatic 184, 3)) (hy : y.cls = RX6) (h2 : CS B yX6_momentsThrough cX6_momentsThrough 2 (some .int) d2 [.int x1, .int x2] S (qI f S0)) (hd2 : d2 < d) (hst : (st.map fun v => v.category).sum ≤ 8) (k : WS B E y cc mL rt d (pc + 3) lv (.int f :: st) S0 Q) : WS B E y cc mL rt d pc lv (.int x2 :: .int x1 :: st) S Q :=
  kX6_184r hd hy h2 hd2 hst (fun r S' hq => by obtain ⟨h1, rfl⟩ := hq; cases h1; exact k)
theorem kX6_188r {r1 : Nat} (hd : decode cc pc = .ok (.invokevirtual 188, 3)) (hy : y.cls = RX6) (hsh : B.2.1[o]? = some (.inr (.inl (0, fl)))) (h2 : CS B yX0_copyFrom cX0_copyFrom 2 none d2 (.ref (s_ad B o) :: [.ref r1]) S Q2) (hd2 : d2 < d) (hst : (st.map fun v => v.category).sum ≤ 8) (k : ∀ (S' : sSt), Q2 none S' → WS B E y cc mL rt d (pc + 3) lv st S' Q) : WS B E y cc mL rt d pc lv (.ref r1 :: .ref (s_ad B o) :: st) S Q :=
  x_V1v h2 hsh rfl mX0_copyFrom (Nat.le_of_ble_eq_true rfl) (by rw [hy]; exact sT_3 17 rfl rfl) vX0_copyFrom hd2 hst hd k
theorem kX6_188 {r1 : Nat} {S0 : sSt} (hd : decode cc pc = .ok (.invokevirtual 188, 3)) (hy : y.cls = RX6) (hsh : B.2.1[o]? = some (.inr (.inl (0, fl)))) (h2 : CS B yX0_copyFrom cX0_copyFrom 2 none d2 (.ref (s_ad B o) :: [.ref r1]) S (qV S0)) (hd2 : d2 < d) (hst : (st.map fun v => v.category).sum ≤ 8) (k : WS B E y cc mL rt d (pc + 3) lv st S0 Q) : WS B E y cc mL rt d pc lv (.ref r1 :: .ref (s_ad B o) :: st) S Q :=
  kX6_188r hd hy hsh h2 hd2 hst (fun S' hq => by obtain ⟨-, rfl⟩ := hq; exact k)
theorem kX6_191r {x1 : Int32} (hd : decode cc pc = .ok (.invokevirtual 191, 3)) (hy : y.cls = RX6) (hsh : B.2.1[o]? = some (.inr (.inl (0, fl)))) (h2 : CS B yX0_goOnTillFallen cX0_goOnTillFallen 3 none d2 (.ref (s_ad B o) :: [.int x1]) S Q2) (hd2 : d2 < d) (hst : (st.map fun v => v.category).sum ≤ 8) (k : ∀ (S' : sSt), Q2 none S' → WS B E y cc mL rt d (pc + 3) lv st S' Q) : WS B E y cc mL rt d pc lv (.int x1 :: .ref (s_ad B o) :: st) S Q :=
  x_V1v h2 hsh rfl mX0_goOnTillFallen (Nat.le_of_ble_eq_true rfl) (by rw [hy]; exact sT_3 18 rfl rfl) vX0_goOnTillFallen hd2 hst hd k
theorem kX6_191 {x1 : Int32} {S0 : sSt} (hd : decode cc pc = .ok (.invokevirtual 191, 3)) (hy : y.cls = RX6) (hsh : B.2.1[o]? = some (.inr (.inl (0, fl)))) (h2 : CS B yX0_goOnTillFallen cX0_goOnTillFallen 3 none d2 (.ref (s_ad B o) :: [.int x1]) S (qV S0)) (hd2 : d2 < d) (hst : (st.map fun v => v.category).sum ≤ 8) (k : WS B E y cc mL rt d (pc + 3) lv st S0 Q) : WS B E y cc mL rt d pc lv (.int x1 :: .ref (s_ad B o) :: st) S Q :=
  kX6_191r hd hy hsh h2 hd2 hst (fun S' hq => by obtain ⟨-, rfl⟩ := hq; exact k)
theorem kX6_195r  (hd : decode cc pc = .ok (.invokevirtual 195, 3)) (hy : y.cls = RX6) (hsh : B.2.1[o]? = some (.inr (.inl (0, fl)))) (h2 : CS B yX0_contentBits cX0_contentBits 4 (some .int) d2 (.ref (s_ad B o) :: []) S Q2) (hd2 : d2 < d) (hst : (st.map fun v => v.category).sum ≤ 8) (k : ∀ (r : Int32) (S' : sSt), Q2 (some (.int r)) S' → WS B E y cc mL rt d (pc + 3) lv (.int r :: st) S' Q) : WS B E y cc mL rt d pc lv (.ref (s_ad B o) :: st) S Q :=
  x_V0i h2 hsh rfl mX0_contentBits (Nat.le_of_ble_eq_true rfl) (by rw [hy]; exact sT_3 27 rfl rfl) vX0_contentBits hd2 hst hd (fun r S' _ hq => k r S' hq)
theorem kX6_195  {f : Int32} {S0 : sSt} (hd : decode cc pc = .ok (.invokevirtual 195, 3)) (hy : y.cls = RX6) (hsh : B.2.1[o]? = some (.inr (.inl (0, fl)))) (h2 : CS B yX0_contentBits cX0_contentBits 4 (some .int) d2 (.ref (s_ad B o) :: []) S (qI f S0)) (hd2 : d2 < d) (hst : (st.map fun v => v.category).sum ≤ 8) (k : WS B E y cc mL rt d (pc + 3) lv (.int f :: st) S0 Q) : WS B E y cc mL rt d pc lv (.ref (s_ad B o) :: st) S Q :=
  kX6_195r hd hy hsh h2 hd2 hst (fun r S' hq => by obtain ⟨h1, rfl⟩ := hq; cases h1; exact k)
theorem kX6_198r {x1 : Int32} {x2 : Int32} (hd : decode cc pc = .ok (.invokevirtual 198, 3)) (hy : y.cls = RX6) (hsh : B.2.1[o]? = some (.inr (.inl (6, fl)))) (h2 : CS B yX6_refusalToGoIn cX6_refusalToGoIn 3 (some .int) d2 (.ref (s_ad B o) :: [.int x1, .int x2]) S Q2) (hd2 : d2 < d) (hst : (st.map fun v => v.category).sum ≤ 8) (k : ∀ (r : Int32) (S' : sSt), Q2 (some (.int r)) S' → WS B E y cc mL rt d (pc + 3) lv (.int r :: st) S' Q) : WS B E y cc mL rt d pc lv (.int x2 :: .int x1 :: .ref (s_ad B o) :: st) S Q :=
  x_V2i h2 hsh rfl mX6_refusalToGoIn (Nat.le_of_ble_eq_true rfl) (by rw [hy]; exact sT_3 36 rfl rfl) vX6_refusalToGoIn hd2 hst hd (fun r S' _ hq => k r S' hq)
theorem kX6_198 {x1 : Int32} {x2 : Int32} {f : Int32} {S0 : sSt} (hd : decode cc pc = .ok (.invokevirtual 198, 3)) (hy : y.cls = RX6) (hsh : B.2.1[o]? = some (.inr (.inl (6, fl)))) (h2 : CS B yX6_refusalToGoIn cX6_refusalToGoIn 3 (some .int) d2 (.ref (s_ad B o) :: [.int x1, .int x2]) S (qI f S0)) (hd2 : d2 < d) (hst : (st.map fun v => v.category).sum ≤ 8) (k : WS B E y cc mL rt d (pc + 3) lv (.int f :: st) S0 Q) : WS B E y cc mL rt d pc lv (.int x2 :: .int x1 :: .ref (s_ad B o) :: st) S Q :=
  kX6_198r hd hy hsh h2 hd2 hst (fun r S' hq => by obtain ⟨h1, rfl⟩ := hq; cases h1; exact k)
theorem kX6_201r {x1 : Int32} {x2 : Int32} (hd : decode cc pc = .ok (.invokevirtual 201, 3)) (hy : y.cls = RX6) (hsh : B.2.1[o]? = some (.inr (.inl (0, fl)))) (h2 : CS B yX0_isRightAfterRide cX0_isRightAfterRide 3 (some .boolean) d2 (.ref (s_ad B o) :: [.int x1, .int x2]) S Q2) (hd2 : d2 < d) (hst : (st.map fun v => v.category).sum ≤ 8) (k : ∀ (r : Int32) (S' : sSt), Q2 (some (.int r)) S' → WS B E y cc mL rt d (pc + 3) lv (.int r :: st) S' Q) : WS B E y cc mL rt d pc lv (.int x2 :: .int x1 :: .ref (s_ad B o) :: st) S Q :=
  x_V2i h2 hsh rfl mX0_isRightAfterRide (Nat.le_of_ble_eq_true rfl) (by rw [hy]; exact sT_3 40 rfl rfl) vX0_isRightAfterRide hd2 hst hd (fun r S' _ hq => k r S' hq)
theorem kX6_201 {x1 : Int32} {x2 : Int32} {f : Int32} {S0 : sSt} (hd : decode cc pc = .ok (.invokevirtual 201, 3)) (hy : y.cls = RX6) (hsh : B.2.1[o]? = some (.inr (.inl (0, fl)))) (h2 : CS B yX0_isRightAfterRide cX0_isRightAfterRide 3 (some .boolean) d2 (.ref (s_ad B o) :: [.int x1, .int x2]) S (qI f S0)) (hd2 : d2 < d) (hst : (st.map fun v => v.category).sum ≤ 8) (k : WS B E y cc mL rt d (pc + 3) lv (.int f :: st) S0 Q) : WS B E y cc mL rt d pc lv (.int x2 :: .int x1 :: .ref (s_ad B o) :: st) S Q :=
  kX6_201r hd hy hsh h2 hd2 hst (fun r S' hq => by obtain ⟨h1, rfl⟩ := hq; cases h1; exact k)
theorem kX6_204r {x1 : Int32} (hd : decode cc pc = .ok (.invokevirtual 204, 3)) (hy : y.cls = RX6) (hsh : B.2.1[o]? = some (.inr (.inl (6, fl)))) (h2 : CS B yX6_rightOnesAtKnob cX6_rightOnesAtKnob 4 (some .int) d2 (.ref (s_ad B o) :: [.int x1]) S Q2) (hd2 : d2 < d) (hst : (st.map fun v => v.category).sum ≤ 8) (k : ∀ (r : Int32) (S' : sSt), Q2 (some (.int r)) S' → WS B E y cc mL rt d (pc + 3) lv (.int r :: st) S' Q) : WS B E y cc mL rt d pc lv (.int x1 :: .ref (s_ad B o) :: st) S Q :=
  x_V1i h2 hsh rfl mX6_rightOnesAtKnob (Nat.le_of_ble_eq_true rfl) (by rw [hy]; exact sT_3 58 rfl rfl) vX6_rightOnesAtKnob hd2 hst hd (fun r S' _ hq => k r S' hq)
theorem kX6_204 {x1 : Int32} {f : Int32} {S0 : sSt} (hd : decode cc pc = .ok (.invokevirtual 204, 3)) (hy : y.cls = RX6) (hsh : B.2.1[o]? = some (.inr (.inl (6, fl)))) (h2 : CS B yX6_rightOnesAtKnob cX6_rightOnesAtKnob 4 (some .int) d2 (.ref (s_ad B o) :: [.int x1]) S (qI f S0)) (hd2 : d2 < d) (hst : (st.map fun v => v.category).sum ≤ 8) (k : WS B E y cc mL rt d (pc + 3) lv (.int f :: st) S0 Q) : WS B E y cc mL rt d pc lv (.int x1 :: .ref (s_ad B o) :: st) S Q :=
  kX6_204r hd hy hsh h2 hd2 hst (fun r S' hq => by obtain ⟨h1, rfl⟩ := hq; cases h1; exact k)
theorem kX6_207r {r1 : Nat} (hd : decode cc pc = .ok (.invokevirtual 207, 3)) (hy : y.cls = RX6) (hsh : B.2.1[o]? = some (.inr (.inl (3, fl)))) (h2 : CS B yX3_settle cX3_settle 5 none d2 (.ref (s_ad B o) :: [.ref r1]) S Q2) (hd2 : d2 < d) (hst : (st.map fun v => v.category).sum ≤ 8) (k : ∀ (S' : sSt), Q2 none S' → WS B E y cc mL rt d (pc + 3) lv st S' Q) : WS B E y cc mL rt d pc lv (.ref r1 :: .ref (s_ad B o) :: st) S Q :=
  x_V1v h2 hsh rfl mX3_settle (Nat.le_of_ble_eq_true rfl) (by rw [hy]; exact sT_3 66 rfl rfl) vX3_settle hd2 hst hd k
theorem kX6_207 {r1 : Nat} {S0 : sSt} (hd : decode cc pc = .ok (.invokevirtual 207, 3)) (hy : y.cls = RX6) (hsh : B.2.1[o]? = some (.inr (.inl (3, fl)))) (h2 : CS B yX3_settle cX3_settle 5 none d2 (.ref (s_ad B o) :: [.ref r1]) S (qV S0)) (hd2 : d2 < d) (hst : (st.map fun v => v.category).sum ≤ 8) (k : WS B E y cc mL rt d (pc + 3) lv st S0 Q) : WS B E y cc mL rt d pc lv (.ref r1 :: .ref (s_ad B o) :: st) S Q :=
  kX6_207r hd hy hsh h2 hd2 hst (fun S' hq => by obtain ⟨-, rfl⟩ := hq; exact k)
theorem kX6_216r {x1 : Int32} {x2 : Int32} {x3 : Int32} {x4 : Int32} (hd : decode cc pc = .ok (.invokevirtual 216, 3)) (hy : y.cls = RX6) (hsh : B.2.1[o]? = some (.inr (.inl (4, fl)))) (h2 : CS B yX4_add cX4_add 5 (some .boolean) d2 (.ref (s_ad B o) :: [.int x1, .int x2, .int x3, .int x4]) S Q2) (hd2 : d2 < d) (hst : (st.map fun v => v.category).sum ≤ 8) (k : ∀ (r : Int32) (S' : sSt), Q2 (some (.int r)) S' → WS B E y cc mL rt d (pc + 3) lv (.int r :: st) S' Q) : WS B E y cc mL rt d pc lv (.int x4 :: .int x3 :: .int x2 :: .int x1 :: .ref (s_ad B o) :: st) S Q :=
  x_V4i h2 hsh rfl mX4_add (Nat.le_of_ble_eq_true rfl) (by rw [hy]; exact sT_3 95 rfl rfl) vX4_add hd2 hst hd (fun r S' _ hq => k r S' hq)
theorem kX6_216 {x1 : Int32} {x2 : Int32} {x3 : Int32} {x4 : Int32} {f : Int32} {S0 : sSt} (hd : decode cc pc = .ok (.invokevirtual 216, 3)) (hy : y.cls = RX6) (hsh : B.2.1[o]? = some (.inr (.inl (4, fl)))) (h2 : CS B yX4_add cX4_add 5 (some .boolean) d2 (.ref (s_ad B o) :: [.int x1, .int x2, .int x3, .int x4]) S (qI f S0)) (hd2 : d2 < d) (hst : (st.map fun v => v.category).sum ≤ 8) (k : WS B E y cc mL rt d (pc + 3) lv (.int f :: st) S0 Q) : WS B E y cc mL rt d pc lv (.int x4 :: .int x3 :: .int x2 :: .int x1 :: .ref (s_ad B o) :: st) S Q :=
  kX6_216r hd hy hsh h2 hd2 hst (fun r S' hq => by obtain ⟨h1, rfl⟩ := hq; cases h1; exact k)
theorem kX6_220r {x1 : Int32} {x2 : Int32} (hd : decode cc pc = .ok (.invokevirtual 220, 3)) (hy : y.cls = RX6) (hsh : B.2.1[o]? = some (.inr (.inl (4, fl)))) (h2 : CS B yX4_fit cX4_fit 5 (some .boolean) d2 (.ref (s_ad B o) :: [.int x1, .int x2]) S Q2) (hd2 : d2 < d) (hst : (st.map fun v => v.category).sum ≤ 8) (k : ∀ (r : Int32) (S' : sSt), Q2 (some (.int r)) S' → WS B E y cc mL rt d (pc + 3) lv (.int r :: st) S' Q) : WS B E y cc mL rt d pc lv (.int x2 :: .int x1 :: .ref (s_ad B o) :: st) S Q :=
  x_V2i h2 hsh rfl mX4_fit (Nat.le_of_ble_eq_true rfl) (by rw [hy]; exact sT_3 107 rfl rfl) vX4_fit hd2 hst hd (fun r S' _ hq => k r S' hq)
theorem kX6_220 {x1 : Int32} {x2 : Int32} {f : Int32} {S0 : sSt} (hd : decode cc pc = .ok (.invokevirtual 220, 3)) (hy : y.cls = RX6) (hsh : B.2.1[o]? = some (.inr (.inl (4, fl)))) (h2 : CS B yX4_fit cX4_fit 5 (some .boolean) d2 (.ref (s_ad B o) :: [.int x1, .int x2]) S (qI f S0)) (hd2 : d2 < d) (hst : (st.map fun v => v.category).sum ≤ 8) (k : WS B E y cc mL rt d (pc + 3) lv (.int f :: st) S0 Q) : WS B E y cc mL rt d pc lv (.int x2 :: .int x1 :: .ref (s_ad B o) :: st) S Q :=
  kX6_220r hd hy hsh h2 hd2 hst (fun r S' hq => by obtain ⟨h1, rfl⟩ := hq; cases h1; exact k)
theorem kX6_223r {x1 : Int32} (hd : decode cc pc = .ok (.invokevirtual 223, 3)) (hy : y.cls = RX6) (hsh : B.2.1[o]? = some (.inr (.inl (0, fl)))) (h2 : CS B yX0_alikeOnTray cX0_alikeOnTray 4 (some .int) d2 (.ref (s_ad B o) :: [.int x1]) S Q2) (hd2 : d2 < d) (hst : (st.map fun v => v.category).sum ≤ 8) (k : ∀ (r : Int32) (S' : sSt), Q2 (some (.int r)) S' → WS B E y cc mL rt d (pc + 3) lv (.int r :: st) S' Q) : WS B E y cc mL rt d pc lv (.int x1 :: .ref (s_ad B o) :: st) S Q :=
  x_V1i h2 hsh rfl mX0_alikeOnTray (Nat.le_of_ble_eq_true rfl) (by rw [hy]; exact sT_3 117 rfl rfl) vX0_alikeOnTray hd2 hst hd (fun r S' _ hq => k r S' hq)
theorem kX6_223 {x1 : Int32} {f : Int32} {S0 : sSt} (hd : decode cc pc = .ok (.invokevirtual 223, 3)) (hy : y.cls = RX6) (hsh : B.2.1[o]? = some (.inr (.inl (0, fl)))) (h2 : CS B yX0_alikeOnTray cX0_alikeOnTray 4 (some .int) d2 (.ref (s_ad B o) :: [.int x1]) S (qI f S0)) (hd2 : d2 < d) (hst : (st.map fun v => v.category).sum ≤ 8) (k : WS B E y cc mL rt d (pc + 3) lv (.int f :: st) S0 Q) : WS B E y cc mL rt d pc lv (.int x1 :: .ref (s_ad B o) :: st) S Q :=
  kX6_223r hd hy hsh h2 hd2 hst (fun r S' hq => by obtain ⟨h1, rfl⟩ := hq; cases h1; exact k)
theorem kX6_231r {x1 : Int32} {x2 : Int32} (hd : decode cc pc = .ok (.invokestatic 231, 3)) (hy : y.cls = RX6) (h2 : CS B yX6_greatestDivisor cX6_greatestDivisor 3 (some .int) d2 [.int x1, .int x2] S Q2) (hd2 : d2 < d) (hst : (st.map fun v => v.category).sum ≤ 8) (k : ∀ (r : Int32) (S' : sSt), Q2 (some (.int r)) S' → WS B E y cc mL rt d (pc + 3) lv (.int r :: st) S' Q) : WS B E y cc mL rt d pc lv (.int x2 :: .int x1 :: st) S Q :=
  x_S2i h2 mX6_greatestDivisor (Nat.le_of_ble_eq_true rfl) (by rw [hy]; exact sT_3 121 rfl rfl) sX6_greatestDivisor hd2 hst hd (fun r S' _ hq => k r S' hq)
theorem kX6_231 {x1 : Int32} {x2 : Int32} {f : Int32} {S0 : sSt} (hd : decode cc pc = .ok (.invokestatic 231, 3)) (hy : y.cls = RX6) (h2 : CS B yX6_greatestDivisor cX6_greatestDivisor 3 (some .int) d2 [.int x1, .int x2] S (qI f S0)) (hd2 : d2 < d) (hst : (st.map fun v => v.category).sum ≤ 8) (k : WS B E y cc mL rt d (pc + 3) lv (.int f :: st) S0 Q) : WS B E y cc mL rt d pc lv (.int x2 :: .int x1 :: st) S Q :=
  kX6_231r hd hy h2 hd2 hst (fun r S' hq => by obtain ⟨h1, rfl⟩ := hq; cases h1; exact k)
theorem kX6_234r {x1 : Int32} {x2 : Int32} (hd : decode cc pc = .ok (.invokestatic 234, 3)) (hy : y.cls = RX6) (h2 : CS B yX6_draw cX6_draw 4 (some .int) d2 [.int x1, .int x2] S Q2) (hd2 : d2 < d) (hst : (st.map fun v => v.category).sum ≤ 8) (k : ∀ (r : Int32) (S' : sSt), Q2 (some (.int r)) S' → WS B E y cc mL rt d (pc + 3) lv (.int r :: st) S' Q) : WS B E y cc mL rt d pc lv (.int x2 :: .int x1 :: st) S Q :=
  x_S2i h2 mX6_draw (Nat.le_of_ble_eq_true rfl) (by rw [hy]; exact sT_3 128 rfl rfl) sX6_draw hd2 hst hd (fun r S' _ hq => k r S' hq)
theorem kX6_234 {x1 : Int32} {x2 : Int32} {f : Int32} {S0 : sSt} (hd : decode cc pc = .ok (.invokestatic 234, 3)) (hy : y.cls = RX6) (h2 : CS B yX6_draw cX6_draw 4 (some .int) d2 [.int x1, .int x2] S (qI f S0)) (hd2 : d2 < d) (hst : (st.map fun v => v.category).sum ≤ 8) (k : WS B E y cc mL rt d (pc + 3) lv (.int f :: st) S0 Q) : WS B E y cc mL rt d pc lv (.int x2 :: .int x1 :: st) S Q :=
  kX6_234r hd hy h2 hd2 hst (fun r S' hq => by obtain ⟨h1, rfl⟩ := hq; cases h1; exact k)
theorem kX6_237r {x1 : Int32} (hd : decode cc pc = .ok (.invokevirtual 237, 3)) (hy : y.cls = RX6) (hsh : B.2.1[o]? = some (.inr (.inl (0, fl)))) (h2 : CS B yX0_actByDraw cX0_actByDraw 4 none d2 (.ref (s_ad B o) :: [.int x1]) S Q2) (hd2 : d2 < d) (hst : (st.map fun v => v.category).sum ≤ 8) (k : ∀ (S' : sSt), Q2 none S' → WS B E y cc mL rt d (pc + 3) lv st S' Q) : WS B E y cc mL rt d pc lv (.int x1 :: .ref (s_ad B o) :: st) S Q :=
  x_V1v h2 hsh rfl mX0_actByDraw (Nat.le_of_ble_eq_true rfl) (by rw [hy]; exact sT_3 135 rfl rfl) vX0_actByDraw hd2 hst hd k
theorem kX6_237 {x1 : Int32} {S0 : sSt} (hd : decode cc pc = .ok (.invokevirtual 237, 3)) (hy : y.cls = RX6) (hsh : B.2.1[o]? = some (.inr (.inl (0, fl)))) (h2 : CS B yX0_actByDraw cX0_actByDraw 4 none d2 (.ref (s_ad B o) :: [.int x1]) S (qV S0)) (hd2 : d2 < d) (hst : (st.map fun v => v.category).sum ≤ 8) (k : WS B E y cc mL rt d (pc + 3) lv st S0 Q) : WS B E y cc mL rt d pc lv (.int x1 :: .ref (s_ad B o) :: st) S Q :=
  kX6_237r hd hy hsh h2 hd2 hst (fun S' hq => by obtain ⟨-, rfl⟩ := hq; exact k)
theorem kX6_246r  (hd : decode cc pc = .ok (.invokevirtual 246, 3)) (hy : y.cls = RX6) (hsh : B.2.1[o]? = some (.inr (.inl (1, fl)))) (h2 : CS B yX1_clear cX1_clear 1 none d2 (.ref (s_ad B o) :: []) S Q2) (hd2 : d2 < d) (hst : (st.map fun v => v.category).sum ≤ 8) (k : ∀ (S' : sSt), Q2 none S' → WS B E y cc mL rt d (pc + 3) lv st S' Q) : WS B E y cc mL rt d pc lv (.ref (s_ad B o) :: st) S Q :=
  x_V0v h2 hsh rfl mX1_clear (Nat.le_of_ble_eq_true rfl) (by rw [hy]; exact sT_2 81 rfl rfl) vX1_clear hd2 hst hd k
theorem kX6_246  {S0 : sSt} (hd : decode cc pc = .ok (.invokevirtual 246, 3)) (hy : y.cls = RX6) (hsh : B.2.1[o]? = some (.inr (.inl (1, fl)))) (h2 : CS B yX1_clear cX1_clear 1 none d2 (.ref (s_ad B o) :: []) S (qV S0)) (hd2 : d2 < d) (hst : (st.map fun v => v.category).sum ≤ 8) (k : WS B E y cc mL rt d (pc + 3) lv st S0 Q) : WS B E y cc mL rt d pc lv (.ref (s_ad B o) :: st) S Q :=
  kX6_246r hd hy hsh h2 hd2 hst (fun S' hq => by obtain ⟨-, rfl⟩ := hq; exact k)
theorem kX6_247r {r1 : Nat} (hd : decode cc pc = .ok (.invokevirtual 247, 3)) (hy : y.cls = RX6) (hsh : B.2.1[o]? = some (.inr (.inl (2, fl)))) (h2 : CS B yX2_copyFrom cX2_copyFrom 2 none d2 (.ref (s_ad B o) :: [.ref r1]) S Q2) (hd2 : d2 < d) (hst : (st.map fun v => v.category).sum ≤ 8) (k : ∀ (S' : sSt), Q2 none S' → WS B E y cc mL rt d (pc + 3) lv st S' Q) : WS B E y cc mL rt d pc lv (.ref r1 :: .ref (s_ad B o) :: st) S Q :=
  x_V1v h2 hsh rfl mX2_copyFrom (Nat.le_of_ble_eq_true rfl) (by rw [hy]; exact sT_2 70 rfl rfl) vX2_copyFrom hd2 hst hd k
theorem kX6_247 {r1 : Nat} {S0 : sSt} (hd : decode cc pc = .ok (.invokevirtual 247, 3)) (hy : y.cls = RX6) (hsh : B.2.1[o]? = some (.inr (.inl (2, fl)))) (h2 : CS B yX2_copyFrom cX2_copyFrom 2 none d2 (.ref (s_ad B o) :: [.ref r1]) S (qV S0)) (hd2 : d2 < d) (hst : (st.map fun v => v.category).sum ≤ 8) (k : WS B E y cc mL rt d (pc + 3) lv st S0 Q) : WS B E y cc mL rt d pc lv (.ref r1 :: .ref (s_ad B o) :: st) S Q :=
  kX6_247r hd hy hsh h2 hd2 hst (fun S' hq => by obtain ⟨-, rfl⟩ := hq; exact k)
theorem kX6_249r  (hd : decode cc pc = .ok (.invokevirtual 249, 3)) (hy : y.cls = RX6) (hsh : B.2.1[o]? = some (.inr (.inl (0, fl)))) (h2 : CS B yX0_begin cX0_begin 2 none d2 (.ref (s_ad B o) :: []) S Q2) (hd2 : d2 < d) (hst : (st.map fun v => v.category).sum ≤ 8) (k : ∀ (S' : sSt), Q2 none S' → WS B E y cc mL rt d (pc + 3) lv st S' Q) : WS B E y cc mL rt d pc lv (.ref (s_ad B o) :: st) S Q :=
  x_V0v h2 hsh rfl mX0_begin (Nat.le_of_ble_eq_true rfl) (by rw [hy]; exact sT_2 77 rfl rfl) vX0_begin hd2 hst hd k
theorem kX6_249  {S0 : sSt} (hd : decode cc pc = .ok (.invokevirtual 249, 3)) (hy : y.cls = RX6) (hsh : B.2.1[o]? = some (.inr (.inl (0, fl)))) (h2 : CS B yX0_begin cX0_begin 2 none d2 (.ref (s_ad B o) :: []) S (qV S0)) (hd2 : d2 < d) (hst : (st.map fun v => v.category).sum ≤ 8) (k : WS B E y cc mL rt d (pc + 3) lv st S0 Q) : WS B E y cc mL rt d pc lv (.ref (s_ad B o) :: st) S Q :=
  kX6_249r hd hy hsh h2 hd2 hst (fun S' hq => by obtain ⟨-, rfl⟩ := hq; exact k)
theorem kX6_78r {x1 : Int32} (hd : decode cc pc = .ok (.invokevirtual 78, 3)) (hy : y.cls = RX6) (hsh : B.2.1[o]? = some (.inr (.inl (5, fl)))) (h2 : CS B yX5_add cX5_add 2 (some .boolean) d2 (.ref (s_ad B o) :: [.int x1]) S Q2) (hd2 : d2 < d) (hst : (st.map fun v => v.category).sum ≤ 8) (k : ∀ (r : Int32) (S' : sSt), Q2 (some (.int r)) S' → WS B E y cc mL rt d (pc + 3) lv (.int r :: st) S' Q) : WS B E y cc mL rt d pc lv (.int x1 :: .ref (s_ad B o) :: st) S Q :=
  x_V1i h2 hsh rfl mX5_add (Nat.le_of_ble_eq_true rfl) (by rw [hy]; exact sT_2 11 rfl rfl) vX5_add hd2 hst hd (fun r S' _ hq => k r S' hq)
theorem kX6_78 {x1 : Int32} {f : Int32} {S0 : sSt} (hd : decode cc pc = .ok (.invokevirtual 78, 3)) (hy : y.cls = RX6) (hsh : B.2.1[o]? = some (.inr (.inl (5, fl)))) (h2 : CS B yX5_add cX5_add 2 (some .boolean) d2 (.ref (s_ad B o) :: [.int x1]) S (qI f S0)) (hd2 : d2 < d) (hst : (st.map fun v => v.category).sum ≤ 8) (k : WS B E y cc mL rt d (pc + 3) lv (.int f :: st) S0 Q) : WS B E y cc mL rt d pc lv (.int x1 :: .ref (s_ad B o) :: st) S Q :=
  kX6_78r hd hy hsh h2 hd2 hst (fun r S' hq => by obtain ⟨h1, rfl⟩ := hq; cases h1; exact k)
theorem kX6_82r {r1 : Nat} (hd : decode cc pc = .ok (.invokevirtual 82, 3)) (hy : y.cls = RX6) (hsh : B.2.1[o]? = some (.inr (.inl (5, fl)))) (h2 : CS B yX5_readInto cX5_readInto 4 (some .int) d2 (.ref (s_ad B o) :: [.ref r1]) S Q2) (hd2 : d2 < d) (hst : (st.map fun v => v.category).sum ≤ 8) (k : ∀ (r : Int32) (S' : sSt), Q2 (some (.int r)) S' → WS B E y cc mL rt d (pc + 3) lv (.int r :: st) S' Q) : WS B E y cc mL rt d pc lv (.ref r1 :: .ref (s_ad B o) :: st) S Q :=
  x_V1i h2 hsh rfl mX5_readInto (Nat.le_of_ble_eq_true rfl) (by rw [hy]; exact sT_2 15 rfl rfl) vX5_readInto hd2 hst hd (fun r S' _ hq => k r S' hq)
theorem kX6_82 {r1 : Nat} {f : Int32} {S0 : sSt} (hd : decode cc pc = .ok (.invokevirtual 82, 3)) (hy : y.cls = RX6) (hsh : B.2.1[o]? = some (.inr (.inl (5, fl)))) (h2 : CS B yX5_readInto cX5_readInto 4 (some .int) d2 (.ref (s_ad B o) :: [.ref r1]) S (qI f S0)) (hd2 : d2 < d) (hst : (st.map fun v => v.category).sum ≤ 8) (k : WS B E y cc mL rt d (pc + 3) lv (.int f :: st) S0 Q) : WS B E y cc mL rt d pc lv (.ref r1 :: .ref (s_ad B o) :: st) S Q :=
  kX6_82r hd hy hsh h2 hd2 hst (fun r S' hq => by obtain ⟨h1, rfl⟩ := hq; cases h1; exact k)
theorem kX6_86r  (hd : decode cc pc = .ok (.invokevirtual 86, 3)) (hy : y.cls = RX6) (hsh : B.2.1[o]? = some (.inr (.inl (6, fl)))) (h2 : CS B yX6_startAnew cX6_startAnew 1 none d2 (.ref (s_ad B o) :: []) S Q2) (hd2 : d2 < d) (hst : (st.map fun v => v.category).sum ≤ 8) (k : ∀ (S' : sSt), Q2 none S' → WS B E y cc mL rt d (pc + 3) lv st S' Q) : WS B E y cc mL rt d pc lv (.ref (s_ad B o) :: st) S Q :=
  x_V0v h2 hsh rfl mX6_startAnew (Nat.le_of_ble_eq_true rfl) (by rw [hy]; exact sT_2 66 rfl rfl) vX6_startAnew hd2 hst hd k
theorem kX6_86  {S0 : sSt} (hd : decode cc pc = .ok (.invokevirtual 86, 3)) (hy : y.cls = RX6) (hsh : B.2.1[o]? = some (.inr (.inl (6, fl)))) (h2 : CS B yX6_startAnew cX6_startAnew 1 none d2 (.ref (s_ad B o) :: []) S (qV S0)) (hd2 : d2 < d) (hst : (st.map fun v => v.category).sum ≤ 8) (k : WS B E y cc mL rt d (pc + 3) lv st S0 Q) : WS B E y cc mL rt d pc lv (.ref (s_ad B o) :: st) S Q :=
  kX6_86r hd hy hsh h2 hd2 hst (fun S' hq => by obtain ⟨-, rfl⟩ := hq; exact k)
theorem kX6_89r  (hd : decode cc pc = .ok (.invokevirtual 89, 3)) (hy : y.cls = RX6) (hsh : B.2.1[o]? = some (.inr (.inl (5, fl)))) (h2 : CS B yX5_clear cX5_clear 1 none d2 (.ref (s_ad B o) :: []) S Q2) (hd2 : d2 < d) (hst : (st.map fun v => v.category).sum ≤ 8) (k : ∀ (S' : sSt), Q2 none S' → WS B E y cc mL rt d (pc + 3) lv st S' Q) : WS B E y cc mL rt d pc lv (.ref (s_ad B o) :: st) S Q :=
  x_V0v h2 hsh rfl mX5_clear (Nat.le_of_ble_eq_true rfl) (by rw [hy]; exact sT_2 85 rfl rfl) vX5_clear hd2 hst hd k
theorem kX6_89  {S0 : sSt} (hd : decode cc pc = .ok (.invokevirtual 89, 3)) (hy : y.cls = RX6) (hsh : B.2.1[o]? = some (.inr (.inl (5, fl)))) (h2 : CS B yX5_clear cX5_clear 1 none d2 (.ref (s_ad B o) :: []) S (qV S0)) (hd2 : d2 < d) (hst : (st.map fun v => v.category).sum ≤ 8) (k : WS B E y cc mL rt d (pc + 3) lv st S0 Q) : WS B E y cc mL rt d pc lv (.ref (s_ad B o) :: st) S Q :=
  kX6_89r hd hy hsh h2 hd2 hst (fun S' hq => by obtain ⟨-, rfl⟩ := hq; exact k)
theorem kX6_92r {x1 : Int32} {x2 : Int32} {x3 : Int32} (hd : decode cc pc = .ok (.invokestatic 92, 3)) (hy : y.cls = RX6) (h2 : CS B yX6_within cX6_within 3 (some .boolean) d2 [.int x1, .int x2, .int x3] S Q2) (hd2 : d2 < d) (hst : (st.map fun v => v.category).sum ≤ 8) (k : ∀ (r : Int32) (S' : sSt), Q2 (some (.int r)) S' → WS B E y cc mL rt d (pc + 3) lv (.int r :: st) S' Q) : WS B E y cc mL rt d pc lv (.int x3 :: .int x2 :: .int x1 :: st) S Q :=
  x_S3i h2 mX6_within (Nat.le_of_ble_eq_true rfl) (by rw [hy]; exact sT_2 57 rfl rfl) sX6_within hd2 hst hd (fun r S' _ hq => k r S' hq)
theorem kX6_92 {x1 : Int32} {x2 : Int32} {x3 : Int32} {f : Int32} {S0 : sSt} (hd : decode cc pc = .ok (.invokestatic 92, 3)) (hy : y.cls = RX6) (h2 : CS B yX6_within cX6_within 3 (some .boolean) d2 [.int x1, .int x2, .int x3] S (qI f S0)) (hd2 : d2 < d) (hst : (st.map fun v => v.category).sum ≤ 8) (k : WS B E y cc mL rt d (pc + 3) lv (.int f :: st) S0 Q) : WS B E y cc mL rt d pc lv (.int x3 :: .int x2 :: .int x1 :: st) S Q :=
  kX6_92r hd hy h2 hd2 hst (fun r S' hq => by obtain ⟨h1, rfl⟩ := hq; cases h1; exact k)
theorem kX6_96r  (hd : decode cc pc = .ok (.invokevirtual 96, 3)) (hy : y.cls = RX6) (hsh : B.2.1[o]? = some (.inr (.inl (5, fl)))) (h2 : CS B yX5_length cX5_length 1 (some .int) d2 (.ref (s_ad B o) :: []) S Q2) (hd2 : d2 < d) (hst : (st.map fun v => v.category).sum ≤ 8) (k : ∀ (r : Int32) (S' : sSt), Q2 (some (.int r)) S' → WS B E y cc mL rt d (pc + 3) lv (.int r :: st) S' Q) : WS B E y cc mL rt d pc lv (.ref (s_ad B o) :: st) S Q :=
  x_V0i h2 hsh rfl mX5_length (Nat.le_of_ble_eq_true rfl) (by rw [hy]; exact sT_2 128 rfl rfl) vX5_length hd2 hst hd (fun r S' _ hq => k r S' hq)
theorem kX6_96  {f : Int32} {S0 : sSt} (hd : decode cc pc = .ok (.invokevirtual 96, 3)) (hy : y.cls = RX6) (hsh : B.2.1[o]? = some (.inr (.inl (5, fl)))) (h2 : CS B yX5_length cX5_length 1 (some .int) d2 (.ref (s_ad B o) :: []) S (qI f S0)) (hd2 : d2 < d) (hst : (st.map fun v => v.category).sum ≤ 8) (k : WS B E y cc mL rt d (pc + 3) lv (.int f :: st) S0 Q) : WS B E y cc mL rt d pc lv (.ref (s_ad B o) :: st) S Q :=
  kX6_96r hd hy hsh h2 hd2 hst (fun r S' hq => by obtain ⟨h1, rfl⟩ := hq; cases h1; exact k)
theorem kX7_101r {x1 : Int32} (hd : decode cc pc = .ok (.invokevirtual 101, 3)) (hy : y.cls = RX7) (hsh : B.2.1[o]? = some (.inr (.inl (7, fl)))) (h2 : CS B yX7_readMark cX7_readMark 2 none d2 (.ref (s_ad B o) :: [.int x1]) S Q2) (hd2 : d2 < d) (hst : (st.map fun v => v.category).sum ≤ 8) (k : ∀ (S' : sSt), Q2 none S' → WS B E y cc mL rt d (pc + 3) lv st S' Q) : WS B E y cc mL rt d pc lv (.int x1 :: .ref (s_ad B o) :: st) S Q :=
  x_V1v h2 hsh rfl mX7_readMark (Nat.le_of_ble_eq_true rfl) (by rw [hy]; exact sT_4 38 rfl rfl) vX7_readMark hd2 hst hd k
theorem kX7_101 {x1 : Int32} {S0 : sSt} (hd : decode cc pc = .ok (.invokevirtual 101, 3)) (hy : y.cls = RX7) (hsh : B.2.1[o]? = some (.inr (.inl (7, fl)))) (h2 : CS B yX7_readMark cX7_readMark 2 none d2 (.ref (s_ad B o) :: [.int x1]) S (qV S0)) (hd2 : d2 < d) (hst : (st.map fun v => v.category).sum ≤ 8) (k : WS B E y cc mL rt d (pc + 3) lv st S0 Q) : WS B E y cc mL rt d pc lv (.int x1 :: .ref (s_ad B o) :: st) S Q :=
  kX7_101r hd hy hsh h2 hd2 hst (fun S' hq => by obtain ⟨-, rfl⟩ := hq; exact k)
theorem kX7_105r  (hd : decode cc pc = .ok (.invokevirtual 105, 3)) (hy : y.cls = RX7) (hsh : B.2.1[o]? = some (.inr (.inl (7, fl)))) (h2 : CS B yX7_readItem cX7_readItem 2 none d2 (.ref (s_ad B o) :: []) S Q2) (hd2 : d2 < d) (hst : (st.map fun v => v.category).sum ≤ 8) (k : ∀ (S' : sSt), Q2 none S' → WS B E y cc mL rt d (pc + 3) lv st S' Q) : WS B E y cc mL rt d pc lv (.ref (s_ad B o) :: st) S Q :=
  x_V0v h2 hsh rfl mX7_readItem (Nat.le_of_ble_eq_true rfl) (by rw [hy]; exact sT_4 26 rfl rfl) vX7_readItem hd2 hst hd k
theorem kX7_105  {S0 : sSt} (hd : decode cc pc = .ok (.invokevirtual 105, 3)) (hy : y.cls = RX7) (hsh : B.2.1[o]? = some (.inr (.inl (7, fl)))) (h2 : CS B yX7_readItem cX7_readItem 2 none d2 (.ref (s_ad B o) :: []) S (qV S0)) (hd2 : d2 < d) (hst : (st.map fun v => v.category).sum ≤ 8) (k : WS B E y cc mL rt d (pc + 3) lv st S0 Q) : WS B E y cc mL rt d pc lv (.ref (s_ad B o) :: st) S Q :=
  kX7_105r hd hy hsh h2 hd2 hst (fun S' hq => by obtain ⟨-, rfl⟩ := hq; exact k)
theorem kX7_117r  (hd : decode cc pc = .ok (.invokevirtual 117, 3)) (hy : y.cls = RX7) (hsh : B.2.1[o]? = some (.inr (.inl (7, fl)))) (h2 : CS B yX7_fault cX7_fault 2 (some .int) d2 (.ref (s_ad B o) :: []) S Q2) (hd2 : d2 < d) (hst : (st.map fun v => v.category).sum ≤ 8) (k : ∀ (r : Int32) (S' : sSt), Q2 (some (.int r)) S' → WS B E y cc mL rt d (pc + 3) lv (.int r :: st) S' Q) : WS B E y cc mL rt d pc lv (.ref (s_ad B o) :: st) S Q :=
  x_V0i h2 hsh rfl mX7_fault (Nat.le_of_ble_eq_true rfl) (by rw [hy]; exact sT_4 46 rfl rfl) vX7_fault hd2 hst hd (fun r S' _ hq => k r S' hq)
theorem kX7_117  {f : Int32} {S0 : sSt} (hd : decode cc pc = .ok (.invokevirtual 117, 3)) (hy : y.cls = RX7) (hsh : B.2.1[o]? = some (.inr (.inl (7, fl)))) (h2 : CS B yX7_fault cX7_fault 2 (some .int) d2 (.ref (s_ad B o) :: []) S (qI f S0)) (hd2 : d2 < d) (hst : (st.map fun v => v.category).sum ≤ 8) (k : WS B E y cc mL rt d (pc + 3) lv (.int f :: st) S0 Q) : WS B E y cc mL rt d pc lv (.ref (s_ad B o) :: st) S Q :=
  kX7_117r hd hy hsh h2 hd2 hst (fun r S' hq => by obtain ⟨h1, rfl⟩ := hq; cases h1; exact k)
theorem kX7_120r {r1 : Nat} {x2 : Int32} (hd : decode cc pc = .ok (.invokevirtual 120, 3)) (hy : y.cls = RX7) (hsh : B.2.1[o]? = some (.inr (.inl (7, fl)))) (h2 : CS B yX7_manyIn cX7_manyIn 5 (some .int) d2 (.ref (s_ad B o) :: [.ref r1, .int x2]) S Q2) (hd2 : d2 < d) (hst : (st.map fun v => v.category).sum ≤ 8) (k : ∀ (r : Int32) (S' : sSt), Q2 (some (.int r)) S' → WS B E y cc mL rt d (pc + 3) lv (.int r :: st) S' Q) : WS B E y cc mL rt d pc lv (.int x2 :: .ref r1 :: .ref (s_ad B o) :: st) S Q :=
  x_V2i h2 hsh rfl mX7_manyIn (Nat.le_of_ble_eq_true rfl) (by rw [hy]; exact sT_4 86 rfl rfl) vX7_manyIn hd2 hst hd (fun r S' _ hq => k r S' hq)
theorem kX7_120 {r1 : Nat} {x2 : Int32} {f : Int32} {S0 : sSt} (hd : decode cc pc = .ok (.invokevirtual 120, 3)) (hy : y.cls = RX7) (hsh : B.2.1[o]? = some (.inr (.inl (7, fl)))) (h2 : CS B yX7_manyIn cX7_manyIn 5 (some .int) d2 (.ref (s_ad B o) :: [.ref r1, .int x2]) S (qI f S0)) (hd2 : d2 < d) (hst : (st.map fun v => v.category).sum ≤ 8) (k : WS B E y cc mL rt d (pc + 3) lv (.int f :: st) S0 Q) : WS B E y cc mL rt d pc lv (.int x2 :: .ref r1 :: .ref (s_ad B o) :: st) S Q :=
  kX7_120r hd hy hsh h2 hd2 hst (fun r S' hq => by obtain ⟨h1, rfl⟩ := hq; cases h1; exact k)
theorem kX7_124r {x1 : Int32} {x2 : Int32} (hd : decode cc pc = .ok (.invokestatic 124, 3)) (hy : y.cls = RX7) (h2 : CS B yX7_browner cX7_browner 2 (some .int) d2 [.int x1, .int x2] S Q2) (hd2 : d2 < d) (hst : (st.map fun v => v.category).sum ≤ 8) (k : ∀ (r : Int32) (S' : sSt), Q2 (some (.int r)) S' → WS B E y cc mL rt d (pc + 3) lv (.int r :: st) S' Q) : WS B E y cc mL rt d pc lv (.int x2 :: .int x1 :: st) S Q :=
  x_S2i h2 mX7_browner (Nat.le_of_ble_eq_true rfl) (by rw [hy]; exact sT_4 98 rfl rfl) sX7_browner hd2 hst hd (fun r S' _ hq => k r S' hq)
theorem kX7_124 {x1 : Int32} {x2 : Int32} {f : Int32} {S0 : sSt} (hd : decode cc pc = .ok (.invokestatic 124, 3)) (hy : y.cls = RX7) (h2 : CS B yX7_browner cX7_browner 2 (some .int) d2 [.int x1, .int x2] S (qI f S0)) (hd2 : d2 < d) (hst : (st.map fun v => v.category).sum ≤ 8) (k : WS B E y cc mL rt d (pc + 3) lv (.int f :: st) S0 Q) : WS B E y cc mL rt d pc lv (.int x2 :: .int x1 :: st) S Q :=
  kX7_124r hd hy h2 hd2 hst (fun r S' hq => by obtain ⟨h1, rfl⟩ := hq; cases h1; exact k)
theorem kX7_128r {r1 : Nat} {x2 : Int32} (hd : decode cc pc = .ok (.invokevirtual 128, 3)) (hy : y.cls = RX7) (hsh : B.2.1[o]? = some (.inr (.inl (7, fl)))) (h2 : CS B yX7_hasEaten cX7_hasEaten 5 (some .boolean) d2 (.ref (s_ad B o) :: [.ref r1, .int x2]) S Q2) (hd2 : d2 < d) (hst : (st.map fun v => v.category).sum ≤ 8) (k : ∀ (r : Int32) (S' : sSt), Q2 (some (.int r)) S' → WS B E y cc mL rt d (pc + 3) lv (.int r :: st) S' Q) : WS B E y cc mL rt d pc lv (.int x2 :: .ref r1 :: .ref (s_ad B o) :: st) S Q :=
  x_V2i h2 hsh rfl mX7_hasEaten (Nat.le_of_ble_eq_true rfl) (by rw [hy]; exact sT_4 113 rfl rfl) vX7_hasEaten hd2 hst hd (fun r S' _ hq => k r S' hq)
theorem kX7_128 {r1 : Nat} {x2 : Int32} {f : Int32} {S0 : sSt} (hd : decode cc pc = .ok (.invokevirtual 128, 3)) (hy : y.cls = RX7) (hsh : B.2.1[o]? = some (.inr (.inl (7, fl)))) (h2 : CS B yX7_hasEaten cX7_hasEaten 5 (some .boolean) d2 (.ref (s_ad B o) :: [.ref r1, .int x2]) S (qI f S0)) (hd2 : d2 < d) (hst : (st.map fun v => v.category).sum ≤ 8) (k : WS B E y cc mL rt d (pc + 3) lv (.int f :: st) S0 Q) : WS B E y cc mL rt d pc lv (.int x2 :: .ref r1 :: .ref (s_ad B o) :: st) S Q :=
  kX7_128r hd hy hsh h2 hd2 hst (fun r S' hq => by obtain ⟨h1, rfl⟩ := hq; cases h1; exact k)
theorem kX7_132r {x1 : Int32} (hd : decode cc pc = .ok (.invokevirtual 132, 3)) (hy : y.cls = RX7) (hsh : B.2.1[o]? = some (.inr (.inl (7, fl)))) (h2 : CS B yX7_isGuest cX7_isGuest 2 (some .boolean) d2 (.ref (s_ad B o) :: [.int x1]) S Q2) (hd2 : d2 < d) (hst : (st.map fun v => v.category).sum ≤ 8) (k : ∀ (r : Int32) (S' : sSt), Q2 (some (.int r)) S' → WS B E y cc mL rt d (pc + 3) lv (.int r :: st) S' Q) : WS B E y cc mL rt d pc lv (.int x1 :: .ref (s_ad B o) :: st) S Q :=
  x_V1i h2 hsh rfl mX7_isGuest (Nat.le_of_ble_eq_true rfl) (by rw [hy]; exact sT_4 51 rfl rfl) vX7_isGuest hd2 hst hd (fun r S' _ hq => k r S' hq)
theorem kX7_132 {x1 : Int32} {f : Int32} {S0 : sSt} (hd : decode cc pc = .ok (.invokevirtual 132, 3)) (hy : y.cls = RX7) (hsh : B.2.1[o]? = some (.inr (.inl (7, fl)))) (h2 : CS B yX7_isGuest cX7_isGuest 2 (some .boolean) d2 (.ref (s_ad B o) :: [.int x1]) S (qI f S0)) (hd2 : d2 < d) (hst : (st.map fun v => v.category).sum ≤ 8) (k : WS B E y cc mL rt d (pc + 3) lv (.int f :: st) S0 Q) : WS B E y cc mL rt d pc lv (.int x1 :: .ref (s_ad B o) :: st) S Q :=
  kX7_132r hd hy hsh h2 hd2 hst (fun r S' hq => by obtain ⟨h1, rfl⟩ := hq; cases h1; exact k)
theorem kX7_136r {r1 : Nat} {x2 : Int32} {x3 : Int32} (hd : decode cc pc = .ok (.invokevirtual 136, 3)) (hy : y.cls = RX7) (hsh : B.2.1[o]? = some (.inr (.inl (7, fl)))) (h2 : CS B yX7_isRightFor cX7_isRightFor 4 (some .boolean) d2 (.ref (s_ad B o) :: [.ref r1, .int x2, .int x3]) S Q2) (hd2 : d2 < d) (hst : (st.map fun v => v.category).sum ≤ 8) (k : ∀ (r : Int32) (S' : sSt), Q2 (some (.int r)) S' → WS B E y cc mL rt d (pc + 3) lv (.int r :: st) S' Q) : WS B E y cc mL rt d pc lv (.int x3 :: .int x2 :: .ref r1 :: .ref (s_ad B o) :: st) S Q :=
  x_V3i h2 hsh rfl mX7_isRightFor (Nat.le_of_ble_eq_true rfl) (by rw [hy]; exact sT_4 59 rfl rfl) vX7_isRightFor hd2 hst hd (fun r S' _ hq => k r S' hq)
theorem kX7_136 {r1 : Nat} {x2 : Int32} {x3 : Int32} {f : Int32} {S0 : sSt} (hd : decode cc pc = .ok (.invokevirtual 136, 3)) (hy : y.cls = RX7) (hsh : B.2.1[o]? = some (.inr (.inl (7, fl)))) (h2 : CS B yX7_isRightFor cX7_isRightFor 4 (some .boolean) d2 (.ref (s_ad B o) :: [.ref r1, .int x2, .int x3]) S (qI f S0)) (hd2 : d2 < d) (hst : (st.map fun v => v.category).sum ≤ 8) (k : WS B E y cc mL rt d (pc + 3) lv (.int f :: st) S0 Q) : WS B E y cc mL rt d pc lv (.int x3 :: .int x2 :: .ref r1 :: .ref (s_ad B o) :: st) S Q :=
  kX7_136r hd hy hsh h2 hd2 hst (fun r S' hq => by obtain ⟨h1, rfl⟩ := hq; cases h1; exact k)
theorem kX7_140r {x1 : Int32} (hd : decode cc pc = .ok (.invokestatic 140, 3)) (hy : y.cls = RX7) (h2 : CS B yX7_isLane cX7_isLane 1 (some .boolean) d2 [.int x1] S Q2) (hd2 : d2 < d) (hst : (st.map fun v => v.category).sum ≤ 8) (k : ∀ (r : Int32) (S' : sSt), Q2 (some (.int r)) S' → WS B E y cc mL rt d (pc + 3) lv (.int r :: st) S' Q) : WS B E y cc mL rt d pc lv (.int x1 :: st) S Q :=
  x_S1i h2 mX7_isLane (Nat.le_of_ble_eq_true rfl) (by rw [hy]; exact sT_4 67 rfl rfl) sX7_isLane hd2 hst hd (fun r S' _ hq => k r S' hq)
theorem kX7_140 {x1 : Int32} {f : Int32} {S0 : sSt} (hd : decode cc pc = .ok (.invokestatic 140, 3)) (hy : y.cls = RX7) (h2 : CS B yX7_isLane cX7_isLane 1 (some .boolean) d2 [.int x1] S (qI f S0)) (hd2 : d2 < d) (hst : (st.map fun v => v.category).sum ≤ 8) (k : WS B E y cc mL rt d (pc + 3) lv (.int f :: st) S0 Q) : WS B E y cc mL rt d pc lv (.int x1 :: st) S Q :=
  kX7_140r hd hy h2 hd2 hst (fun r S' hq => by obtain ⟨h1, rfl⟩ := hq; cases h1; exact k)
theorem kX7_143r {x1 : Int32} (hd : decode cc pc = .ok (.invokevirtual 143, 3)) (hy : y.cls = RX7) (hsh : B.2.1[o]? = some (.inr (.inl (7, fl)))) (h2 : CS B yX7_isLoose cX7_isLoose 2 (some .boolean) d2 (.ref (s_ad B o) :: [.int x1]) S Q2) (hd2 : d2 < d) (hst : (st.map fun v => v.category).sum ≤ 8) (k : ∀ (r : Int32) (S' : sSt), Q2 (some (.int r)) S' → WS B E y cc mL rt d (pc + 3) lv (.int r :: st) S' Q) : WS B E y cc mL rt d pc lv (.int x1 :: .ref (s_ad B o) :: st) S Q :=
  x_V1i h2 hsh rfl mX7_isLoose (Nat.le_of_ble_eq_true rfl) (by rw [hy]; exact sT_4 70 rfl rfl) vX7_isLoose hd2 hst hd (fun r S' _ hq => k r S' hq)
theorem kX7_143 {x1 : Int32} {f : Int32} {S0 : sSt} (hd : decode cc pc = .ok (.invokevirtual 143, 3)) (hy : y.cls = RX7) (hsh : B.2.1[o]? = some (.inr (.inl (7, fl)))) (h2 : CS B yX7_isLoose cX7_isLoose 2 (some .boolean) d2 (.ref (s_ad B o) :: [.int x1]) S (qI f S0)) (hd2 : d2 < d) (hst : (st.map fun v => v.category).sum ≤ 8) (k : WS B E y cc mL rt d (pc + 3) lv (.int f :: st) S0 Q) : WS B E y cc mL rt d pc lv (.int x1 :: .ref (s_ad B o) :: st) S Q :=
  kX7_143r hd hy hsh h2 hd2 hst (fun r S' hq => by obtain ⟨h1, rfl⟩ := hq; cases h1; exact k)
theorem kX7_146r {r1 : Nat} {x2 : Int32} (hd : decode cc pc = .ok (.invokevirtual 146, 3)) (hy : y.cls = RX7) (hsh : B.2.1[o]? = some (.inr (.inl (7, fl)))) (h2 : CS B yX7_isFree cX7_isFree 5 (some .boolean) d2 (.ref (s_ad B o) :: [.ref r1, .int x2]) S Q2) (hd2 : d2 < d) (hst : (st.map fun v => v.category).sum ≤ 8) (k : ∀ (r : Int32) (S' : sSt), Q2 (some (.int r)) S' → WS B E y cc mL rt d (pc + 3) lv (.int r :: st) S' Q) : WS B E y cc mL rt d pc lv (.int x2 :: .ref r1 :: .ref (s_ad B o) :: st) S Q :=
  x_V2i h2 hsh rfl mX7_isFree (Nat.le_of_ble_eq_true rfl) (by rw [hy]; exact sT_4 74 rfl rfl) vX7_isFree hd2 hst hd (fun r S' _ hq => k r S' hq)
theorem kX7_146 {r1 : Nat} {x2 : Int32} {f : Int32} {S0 : sSt} (hd : decode cc pc = .ok (.invokevirtual 146, 3)) (hy : y.cls = RX7) (hsh : B.2.1[o]? = some (.inr (.inl (7, fl)))) (h2 : CS B yX7_isFree cX7_isFree 5 (some .boolean) d2 (.ref (s_ad B o) :: [.ref r1, .int x2]) S (qI f S0)) (hd2 : d2 < d) (hst : (st.map fun v => v.category).sum ≤ 8) (k : WS B E y cc mL rt d (pc + 3) lv (.int f :: st) S0 Q) : WS B E y cc mL rt d pc lv (.int x2 :: .ref r1 :: .ref (s_ad B o) :: st) S Q :=
  kX7_146r hd hy hsh h2 hd2 hst (fun r S' hq => by obtain ⟨h1, rfl⟩ := hq; cases h1; exact k)
theorem kX7_149r  (hd : decode cc pc = .ok (.invokevirtual 149, 3)) (hy : y.cls = RX7) (hsh : B.2.1[o]? = some (.inr (.inl (7, fl)))) (h2 : CS B yX7_know cX7_know 2 none d2 (.ref (s_ad B o) :: []) S Q2) (hd2 : d2 < d) (hst : (st.map fun v => v.category).sum ≤ 8) (k : ∀ (S' : sSt), Q2 none S' → WS B E y cc mL rt d (pc + 3) lv st S' Q) : WS B E y cc mL rt d pc lv (.ref (s_ad B o) :: st) S Q :=
  x_V0v h2 hsh rfl mX7_know (Nat.le_of_ble_eq_true rfl) (by rw [hy]; exact sT_4 78 rfl rfl) vX7_know hd2 hst hd k
theorem kX7_149  {S0 : sSt} (hd : decode cc pc = .ok (.invokevirtual 149, 3)) (hy : y.cls = RX7) (hsh : B.2.1[o]? = some (.inr (.inl (7, fl)))) (h2 : CS B yX7_know cX7_know 2 none d2 (.ref (s_ad B o) :: []) S (qV S0)) (hd2 : d2 < d) (hst : (st.map fun v => v.category).sum ≤ 8) (k : WS B E y cc mL rt d (pc + 3) lv st S0 Q) : WS B E y cc mL rt d pc lv (.ref (s_ad B o) :: st) S Q :=
  kX7_149r hd hy hsh h2 hd2 hst (fun S' hq => by obtain ⟨-, rfl⟩ := hq; exact k)
theorem kX7_152r {r1 : Nat} {x2 : Int32} {x3 : Int32} (hd : decode cc pc = .ok (.invokevirtual 152, 3)) (hy : y.cls = RX7) (hsh : B.2.1[o]? = some (.inr (.inl (7, fl)))) (h2 : CS B yX7_put cX7_put 4 none d2 (.ref (s_ad B o) :: [.ref r1, .int x2, .int x3]) S Q2) (hd2 : d2 < d) (hst : (st.map fun v => v.category).sum ≤ 8) (k : ∀ (S' : sSt), Q2 none S' → WS B E y cc mL rt d (pc + 3) lv st S' Q) : WS B E y cc mL rt d pc lv (.int x3 :: .int x2 :: .ref r1 :: .ref (s_ad B o) :: st) S Q :=
  x_V3v h2 hsh rfl mX7_put (Nat.le_of_ble_eq_true rfl) (by rw [hy]; exact sT_4 82 rfl rfl) vX7_put hd2 hst hd k
theorem kX7_152 {r1 : Nat} {x2 : Int32} {x3 : Int32} {S0 : sSt} (hd : decode cc pc = .ok (.invokevirtual 152, 3)) (hy : y.cls = RX7) (hsh : B.2.1[o]? = some (.inr (.inl (7, fl)))) (h2 : CS B yX7_put cX7_put 4 none d2 (.ref (s_ad B o) :: [.ref r1, .int x2, .int x3]) S (qV S0)) (hd2 : d2 < d) (hst : (st.map fun v => v.category).sum ≤ 8) (k : WS B E y cc mL rt d (pc + 3) lv st S0 Q) : WS B E y cc mL rt d pc lv (.int x3 :: .int x2 :: .ref r1 :: .ref (s_ad B o) :: st) S Q :=
  kX7_152r hd hy hsh h2 hd2 hst (fun S' hq => by obtain ⟨-, rfl⟩ := hq; exact k)
theorem kX7_156r {r1 : Nat} (hd : decode cc pc = .ok (.invokevirtual 156, 3)) (hy : y.cls = RX7) (hsh : B.2.1[o]? = some (.inr (.inl (7, fl)))) (h2 : CS B yX7_moment cX7_moment 5 (some .int) d2 (.ref (s_ad B o) :: [.ref r1]) S Q2) (hd2 : d2 < d) (hst : (st.map fun v => v.category).sum ≤ 8) (k : ∀ (r : Int32) (S' : sSt), Q2 (some (.int r)) S' → WS B E y cc mL rt d (pc + 3) lv (.int r :: st) S' Q) : WS B E y cc mL rt d pc lv (.ref r1 :: .ref (s_ad B o) :: st) S Q :=
  x_V1i h2 hsh rfl mX7_moment (Nat.le_of_ble_eq_true rfl) (by rw [hy]; exact sT_4 94 rfl rfl) vX7_moment hd2 hst hd (fun r S' _ hq => k r S' hq)
theorem kX7_156 {r1 : Nat} {f : Int32} {S0 : sSt} (hd : decode cc pc = .ok (.invokevirtual 156, 3)) (hy : y.cls = RX7) (hsh : B.2.1[o]? = some (.inr (.inl (7, fl)))) (h2 : CS B yX7_moment cX7_moment 5 (some .int) d2 (.ref (s_ad B o) :: [.ref r1]) S (qI f S0)) (hd2 : d2 < d) (hst : (st.map fun v => v.category).sum ≤ 8) (k : WS B E y cc mL rt d (pc + 3) lv (.int f :: st) S0 Q) : WS B E y cc mL rt d pc lv (.ref r1 :: .ref (s_ad B o) :: st) S Q :=
  kX7_156r hd hy hsh h2 hd2 hst (fun r S' hq => by obtain ⟨h1, rfl⟩ := hq; cases h1; exact k)
theorem kX7_160r {r1 : Nat} {x2 : Int32} {x3 : Int32} (hd : decode cc pc = .ok (.invokevirtual 160, 3)) (hy : y.cls = RX7) (hsh : B.2.1[o]? = some (.inr (.inl (7, fl)))) (h2 : CS B yX7_canTake cX7_canTake 4 (some .boolean) d2 (.ref (s_ad B o) :: [.ref r1, .int x2, .int x3]) S Q2) (hd2 : d2 < d) (hst : (st.map fun v => v.category).sum ≤ 8) (k : ∀ (r : Int32) (S' : sSt), Q2 (some (.int r)) S' → WS B E y cc mL rt d (pc + 3) lv (.int r :: st) S' Q) : WS B E y cc mL rt d pc lv (.int x3 :: .int x2 :: .ref r1 :: .ref (s_ad B o) :: st) S Q :=
  x_V3i h2 hsh rfl mX7_canTake (Nat.le_of_ble_eq_true rfl) (by rw [hy]; exact sT_4 109 rfl rfl) vX7_canTake hd2 hst hd (fun r S' _ hq => k r S' hq)
theorem kX7_160 {r1 : Nat} {x2 : Int32} {x3 : Int32} {f : Int32} {S0 : sSt} (hd : decode cc pc = .ok (.invokevirtual 160, 3)) (hy : y.cls = RX7) (hsh : B.2.1[o]? = some (.inr (.inl (7, fl)))) (h2 : CS B yX7_canTake cX7_canTake 4 (some .boolean) d2 (.ref (s_ad B o) :: [.ref r1, .int x2, .int x3]) S (qI f S0)) (hd2 : d2 < d) (hst : (st.map fun v => v.category).sum ≤ 8) (k : WS B E y cc mL rt d (pc + 3) lv (.int f :: st) S0 Q) : WS B E y cc mL rt d pc lv (.int x3 :: .int x2 :: .ref r1 :: .ref (s_ad B o) :: st) S Q :=
  kX7_160r hd hy hsh h2 hd2 hst (fun r S' hq => by obtain ⟨h1, rfl⟩ := hq; cases h1; exact k)
theorem kX7_163r {r1 : Nat} {x2 : Int32} {x3 : Int32} (hd : decode cc pc = .ok (.invokevirtual 163, 3)) (hy : y.cls = RX7) (hsh : B.2.1[o]? = some (.inr (.inl (7, fl)))) (h2 : CS B yX7_eat cX7_eat 4 none d2 (.ref (s_ad B o) :: [.ref r1, .int x2, .int x3]) S Q2) (hd2 : d2 < d) (hst : (st.map fun v => v.category).sum ≤ 8) (k : ∀ (S' : sSt), Q2 none S' → WS B E y cc mL rt d (pc + 3) lv st S' Q) : WS B E y cc mL rt d pc lv (.int x3 :: .int x2 :: .ref r1 :: .ref (s_ad B o) :: st) S Q :=
  x_V3v h2 hsh rfl mX7_eat (Nat.le_of_ble_eq_true rfl) (by rw [hy]; exact sT_4 117 rfl rfl) vX7_eat hd2 hst hd k
theorem kX7_163 {r1 : Nat} {x2 : Int32} {x3 : Int32} {S0 : sSt} (hd : decode cc pc = .ok (.invokevirtual 163, 3)) (hy : y.cls = RX7) (hsh : B.2.1[o]? = some (.inr (.inl (7, fl)))) (h2 : CS B yX7_eat cX7_eat 4 none d2 (.ref (s_ad B o) :: [.ref r1, .int x2, .int x3]) S (qV S0)) (hd2 : d2 < d) (hst : (st.map fun v => v.category).sum ≤ 8) (k : WS B E y cc mL rt d (pc + 3) lv st S0 Q) : WS B E y cc mL rt d pc lv (.int x3 :: .int x2 :: .ref r1 :: .ref (s_ad B o) :: st) S Q :=
  kX7_163r hd hy hsh h2 hd2 hst (fun S' hq => by obtain ⟨-, rfl⟩ := hq; exact k)
theorem kX7_166r  (hd : decode cc pc = .ok (.invokevirtual 166, 3)) (hy : y.cls = RX7) (hsh : B.2.1[o]? = some (.inr (.inl (7, fl)))) (h2 : CS B yX7_takeNow cX7_takeNow 2 none d2 (.ref (s_ad B o) :: []) S Q2) (hd2 : d2 < d) (hst : (st.map fun v => v.category).sum ≤ 8) (k : ∀ (S' : sSt), Q2 none S' → WS B E y cc mL rt d (pc + 3) lv st S' Q) : WS B E y cc mL rt d pc lv (.ref (s_ad B o) :: st) S Q :=
  x_V0v h2 hsh rfl mX7_takeNow (Nat.le_of_ble_eq_true rfl) (by rw [hy]; exact sT_4 133 rfl rfl) vX7_takeNow hd2 hst hd k
theorem kX7_166  {S0 : sSt} (hd : decode cc pc = .ok (.invokevirtual 166, 3)) (hy : y.cls = RX7) (hsh : B.2.1[o]? = some (.inr (.inl (7, fl)))) (h2 : CS B yX7_takeNow cX7_takeNow 2 none d2 (.ref (s_ad B o) :: []) S (qV S0)) (hd2 : d2 < d) (hst : (st.map fun v => v.category).sum ≤ 8) (k : WS B E y cc mL rt d (pc + 3) lv st S0 Q) : WS B E y cc mL rt d pc lv (.ref (s_ad B o) :: st) S Q :=
  kX7_166r hd hy hsh h2 hd2 hst (fun S' hq => by obtain ⟨-, rfl⟩ := hq; exact k)
theorem kX7_169r {x1 : Int32} (hd : decode cc pc = .ok (.invokevirtual 169, 3)) (hy : y.cls = RX7) (hsh : B.2.1[o]? = some (.inr (.inl (7, fl)))) (h2 : CS B yX7_goOn cX7_goOn 2 none d2 (.ref (s_ad B o) :: [.int x1]) S Q2) (hd2 : d2 < d) (hst : (st.map fun v => v.category).sum ≤ 8) (k : ∀ (S' : sSt), Q2 none S' → WS B E y cc mL rt d (pc + 3) lv st S' Q) : WS B E y cc mL rt d pc lv (.int x1 :: .ref (s_ad B o) :: st) S Q :=
  x_V1v h2 hsh rfl mX7_goOn (Nat.le_of_ble_eq_true rfl) (by rw [hy]; exact sT_4 137 rfl rfl) vX7_goOn hd2 hst hd k
theorem kX7_169 {x1 : Int32} {S0 : sSt} (hd : decode cc pc = .ok (.invokevirtual 169, 3)) (hy : y.cls = RX7) (hsh : B.2.1[o]? = some (.inr (.inl (7, fl)))) (h2 : CS B yX7_goOn cX7_goOn 2 none d2 (.ref (s_ad B o) :: [.int x1]) S (qV S0)) (hd2 : d2 < d) (hst : (st.map fun v => v.category).sum ≤ 8) (k : WS B E y cc mL rt d (pc + 3) lv st S0 Q) : WS B E y cc mL rt d pc lv (.int x1 :: .ref (s_ad B o) :: st) S Q :=
  kX7_169r hd hy hsh h2 hd2 hst (fun S' hq => by obtain ⟨-, rfl⟩ := hq; exact k)
theorem kX7_172r {r1 : Nat} (hd : decode cc pc = .ok (.invokevirtual 172, 3)) (hy : y.cls = RX7) (hsh : B.2.1[o]? = some (.inr (.inl (7, fl)))) (h2 : CS B yX7_contentOf cX7_contentOf 5 (some .int) d2 (.ref (s_ad B o) :: [.ref r1]) S Q2) (hd2 : d2 < d) (hst : (st.map fun v => v.category).sum ≤ 8) (k : ∀ (r : Int32) (S' : sSt), Q2 (some (.int r)) S' → WS B E y cc mL rt d (pc + 3) lv (.int r :: st) S' Q) : WS B E y cc mL rt d pc lv (.ref r1 :: .ref (s_ad B o) :: st) S Q :=
  x_V1i h2 hsh rfl mX7_contentOf (Nat.le_of_ble_eq_true rfl) (by rw [hy]; exact sT_4 145 rfl rfl) vX7_contentOf hd2 hst hd (fun r S' _ hq => k r S' hq)
theorem kX7_172 {r1 : Nat} {f : Int32} {S0 : sSt} (hd : decode cc pc = .ok (.invokevirtual 172, 3)) (hy : y.cls = RX7) (hsh : B.2.1[o]? = some (.inr (.inl (7, fl)))) (h2 : CS B yX7_contentOf cX7_contentOf 5 (some .int) d2 (.ref (s_ad B o) :: [.ref r1]) S (qI f S0)) (hd2 : d2 < d) (hst : (st.map fun v => v.category).sum ≤ 8) (k : WS B E y cc mL rt d (pc + 3) lv (.int f :: st) S0 Q) : WS B E y cc mL rt d pc lv (.ref r1 :: .ref (s_ad B o) :: st) S Q :=
  kX7_172r hd hy hsh h2 hd2 hst (fun r S' hq => by obtain ⟨h1, rfl⟩ := hq; cases h1; exact k)
theorem kX7_175r {x1 : Int32} {x2 : Int32} (hd : decode cc pc = .ok (.invokevirtual 175, 3)) (hy : y.cls = RX7) (hsh : B.2.1[o]? = some (.inr (.inl (7, fl)))) (h2 : CS B yX7_isRightBy cX7_isRightBy 3 (some .boolean) d2 (.ref (s_ad B o) :: [.int x1, .int x2]) S Q2) (hd2 : d2 < d) (hst : (st.map fun v => v.category).sum ≤ 8) (k : ∀ (r : Int32) (S' : sSt), Q2 (some (.int r)) S' → WS B E y cc mL rt d (pc + 3) lv (.int r :: st) S' Q) : WS B E y cc mL rt d pc lv (.int x2 :: .int x1 :: .ref (s_ad B o) :: st) S Q :=
  x_V2i h2 hsh rfl mX7_isRightBy (Nat.le_of_ble_eq_true rfl) (by rw [hy]; exact sT_4 153 rfl rfl) vX7_isRightBy hd2 hst hd (fun r S' _ hq => k r S' hq)
theorem kX7_175 {x1 : Int32} {x2 : Int32} {f : Int32} {S0 : sSt} (hd : decode cc pc = .ok (.invokevirtual 175, 3)) (hy : y.cls = RX7) (hsh : B.2.1[o]? = some (.inr (.inl (7, fl)))) (h2 : CS B yX7_isRightBy cX7_isRightBy 3 (some .boolean) d2 (.ref (s_ad B o) :: [.int x1, .int x2]) S (qI f S0)) (hd2 : d2 < d) (hst : (st.map fun v => v.category).sum ≤ 8) (k : WS B E y cc mL rt d (pc + 3) lv (.int f :: st) S0 Q) : WS B E y cc mL rt d pc lv (.int x2 :: .int x1 :: .ref (s_ad B o) :: st) S Q :=
  kX7_175r hd hy hsh h2 hd2 hst (fun r S' hq => by obtain ⟨h1, rfl⟩ := hq; cases h1; exact k)
theorem kX7_179r {x1 : Int32} (hd : decode cc pc = .ok (.invokevirtual 179, 3)) (hy : y.cls = RX7) (hsh : B.2.1[o]? = some (.inr (.inl (7, fl)))) (h2 : CS B yX7_rightBy cX7_rightBy 4 (some .int) d2 (.ref (s_ad B o) :: [.int x1]) S Q2) (hd2 : d2 < d) (hst : (st.map fun v => v.category).sum ≤ 8) (k : ∀ (r : Int32) (S' : sSt), Q2 (some (.int r)) S' → WS B E y cc mL rt d (pc + 3) lv (.int r :: st) S' Q) : WS B E y cc mL rt d pc lv (.int x1 :: .ref (s_ad B o) :: st) S Q :=
  x_V1i h2 hsh rfl mX7_rightBy (Nat.le_of_ble_eq_true rfl) (by rw [hy]; exact sT_4 169 rfl rfl) vX7_rightBy hd2 hst hd (fun r S' _ hq => k r S' hq)
theorem kX7_179 {x1 : Int32} {f : Int32} {S0 : sSt} (hd : decode cc pc = .ok (.invokevirtual 179, 3)) (hy : y.cls = RX7) (hsh : B.2.1[o]? = some (.inr (.inl (7, fl)))) (h2 : CS B yX7_rightBy cX7_rightBy 4 (some .int) d2 (.ref (s_ad B o) :: [.int x1]) S (qI f S0)) (hd2 : d2 < d) (hst : (st.map fun v => v.category).sum ≤ 8) (k : WS B E y cc mL rt d (pc + 3) lv (.int f :: st) S0 Q) : WS B E y cc mL rt d pc lv (.int x1 :: .ref (s_ad B o) :: st) S Q :=
  kX7_179r hd hy hsh h2 hd2 hst (fun r S' hq => by obtain ⟨h1, rfl⟩ := hq; cases h1; exact k)
theorem kX7_183r {x1 : Int32} {x2 : Int32} (hd : decode cc pc = .ok (.invokevirtual 183, 3)) (hy : y.cls = RX7) (hsh : B.2.1[o]? = some (.inr (.inl (7, fl)))) (h2 : CS B yX7_isFor cX7_isFor 3 (some .boolean) d2 (.ref (s_ad B o) :: [.int x1, .int x2]) S Q2) (hd2 : d2 < d) (hst : (st.map fun v => v.category).sum ≤ 8) (k : ∀ (r : Int32) (S' : sSt), Q2 (some (.int r)) S' → WS B E y cc mL rt d (pc + 3) lv (.int r :: st) S' Q) : WS B E y cc mL rt d pc lv (.int x2 :: .int x1 :: .ref (s_ad B o) :: st) S Q :=
  x_V2i h2 hsh rfl mX7_isFor (Nat.le_of_ble_eq_true rfl) (by rw [hy]; exact sT_4 185 rfl rfl) vX7_isFor hd2 hst hd (fun r S' _ hq => k r S' hq)
theorem kX7_183 {x1 : Int32} {x2 : Int32} {f : Int32} {S0 : sSt} (hd : decode cc pc = .ok (.invokevirtual 183, 3)) (hy : y.cls = RX7) (hsh : B.2.1[o]? = some (.inr (.inl (7, fl)))) (h2 : CS B yX7_isFor cX7_isFor 3 (some .boolean) d2 (.ref (s_ad B o) :: [.int x1, .int x2]) S (qI f S0)) (hd2 : d2 < d) (hst : (st.map fun v => v.category).sum ≤ 8) (k : WS B E y cc mL rt d (pc + 3) lv (.int f :: st) S0 Q) : WS B E y cc mL rt d pc lv (.int x2 :: .int x1 :: .ref (s_ad B o) :: st) S Q :=
  kX7_183r hd hy hsh h2 hd2 hst (fun r S' hq => by obtain ⟨h1, rfl⟩ := hq; cases h1; exact k)
theorem kX7_186r  (hd : decode cc pc = .ok (.invokevirtual 186, 3)) (hy : y.cls = RX7) (hsh : B.2.1[o]? = some (.inr (.inl (7, fl)))) (h2 : CS B yX7_measure cX7_measure 6 none d2 (.ref (s_ad B o) :: []) S Q2) (hd2 : d2 < d) (hst : (st.map fun v => v.category).sum ≤ 8) (k : ∀ (S' : sSt), Q2 none S' → WS B E y cc mL rt d (pc + 3) lv st S' Q) : WS B E y cc mL rt d pc lv (.ref (s_ad B o) :: st) S Q :=
  x_V0v h2 hsh rfl mX7_measure (Nat.le_of_ble_eq_true rfl) (by rw [hy]; exact sT_4 181 rfl rfl) vX7_measure hd2 hst hd k
theorem kX7_186  {S0 : sSt} (hd : decode cc pc = .ok (.invokevirtual 186, 3)) (hy : y.cls = RX7) (hsh : B.2.1[o]? = some (.inr (.inl (7, fl)))) (h2 : CS B yX7_measure cX7_measure 6 none d2 (.ref (s_ad B o) :: []) S (qV S0)) (hd2 : d2 < d) (hst : (st.map fun v => v.category).sum ≤ 8) (k : WS B E y cc mL rt d (pc + 3) lv st S0 Q) : WS B E y cc mL rt d pc lv (.ref (s_ad B o) :: st) S Q :=
  kX7_186r hd hy hsh h2 hd2 hst (fun S' hq => by obtain ⟨-, rfl⟩ := hq; exact k)
theorem kX7_189r  (hd : decode cc pc = .ok (.invokevirtual 189, 3)) (hy : y.cls = RX7) (hsh : B.2.1[o]? = some (.inr (.inl (7, fl)))) (h2 : CS B yX7_giveAll cX7_giveAll 5 none d2 (.ref (s_ad B o) :: []) S Q2) (hd2 : d2 < d) (hst : (st.map fun v => v.category).sum ≤ 8) (k : ∀ (S' : sSt), Q2 none S' → WS B E y cc mL rt d (pc + 3) lv st S' Q) : WS B E y cc mL rt d pc lv (.ref (s_ad B o) :: st) S Q :=
  x_V0v h2 hsh rfl mX7_giveAll (Nat.le_of_ble_eq_true rfl) (by rw [hy]; exact sT_4 177 rfl rfl) vX7_giveAll hd2 hst hd k
theorem kX7_189  {S0 : sSt} (hd : decode cc pc = .ok (.invokevirtual 189, 3)) (hy : y.cls = RX7) (hsh : B.2.1[o]? = some (.inr (.inl (7, fl)))) (h2 : CS B yX7_giveAll cX7_giveAll 5 none d2 (.ref (s_ad B o) :: []) S (qV S0)) (hd2 : d2 < d) (hst : (st.map fun v => v.category).sum ≤ 8) (k : WS B E y cc mL rt d (pc + 3) lv st S0 Q) : WS B E y cc mL rt d pc lv (.ref (s_ad B o) :: st) S Q :=
  kX7_189r hd hy hsh h2 hd2 hst (fun S' hq => by obtain ⟨-, rfl⟩ := hq; exact k)
theorem kX7_192r {x1 : Int32} {x2 : Int32} {x3 : Int32} (hd : decode cc pc = .ok (.invokestatic 192, 3)) (hy : y.cls = RX7) (h2 : CS B yX7_part cX7_part 6 (some .int) d2 [.int x1, .int x2, .int x3] S Q2) (hd2 : d2 < d) (hst : (st.map fun v => v.category).sum ≤ 8) (k : ∀ (r : Int32) (S' : sSt), Q2 (some (.int r)) S' → WS B E y cc mL rt d (pc + 3) lv (.int r :: st) S' Q) : WS B E y cc mL rt d pc lv (.int x3 :: .int x2 :: .int x1 :: st) S Q :=
  x_S3i h2 mX7_part (Nat.le_of_ble_eq_true rfl) (by rw [hy]; exact sT_4 209 rfl rfl) sX7_part hd2 hst hd (fun r S' _ hq => k r S' hq)
theorem kX7_192 {x1 : Int32} {x2 : Int32} {x3 : Int32} {f : Int32} {S0 : sSt} (hd : decode cc pc = .ok (.invokestatic 192, 3)) (hy : y.cls = RX7) (h2 : CS B yX7_part cX7_part 6 (some .int) d2 [.int x1, .int x2, .int x3] S (qI f S0)) (hd2 : d2 < d) (hst : (st.map fun v => v.category).sum ≤ 8) (k : WS B E y cc mL rt d (pc + 3) lv (.int f :: st) S0 Q) : WS B E y cc mL rt d pc lv (.int x3 :: .int x2 :: .int x1 :: st) S Q :=
  kX7_192r hd hy h2 hd2 hst (fun r S' hq => by obtain ⟨h1, rfl⟩ := hq; cases h1; exact k)
theorem kX7_202r {x1 : Int32} (hd : decode cc pc = .ok (.invokevirtual 202, 3)) (hy : y.cls = RX7) (hsh : B.2.1[o]? = some (.inr (.inl (7, fl)))) (h2 : CS B yX7_takeRight cX7_takeRight 3 none d2 (.ref (s_ad B o) :: [.int x1]) S Q2) (hd2 : d2 < d) (hst : (st.map fun v => v.category).sum ≤ 8) (k : ∀ (S' : sSt), Q2 none S' → WS B E y cc mL rt d (pc + 3) lv st S' Q) : WS B E y cc mL rt d pc lv (.int x1 :: .ref (s_ad B o) :: st) S Q :=
  x_V1v h2 hsh rfl mX7_takeRight (Nat.le_of_ble_eq_true rfl) (by rw [hy]; exact sT_4 219 rfl rfl) vX7_takeRight hd2 hst hd k
theorem kX7_202 {x1 : Int32} {S0 : sSt} (hd : decode cc pc = .ok (.invokevirtual 202, 3)) (hy : y.cls = RX7) (hsh : B.2.1[o]? = some (.inr (.inl (7, fl)))) (h2 : CS B yX7_takeRight cX7_takeRight 3 none d2 (.ref (s_ad B o) :: [.int x1]) S (qV S0)) (hd2 : d2 < d) (hst : (st.map fun v => v.category).sum ≤ 8) (k : WS B E y cc mL rt d (pc + 3) lv st S0 Q) : WS B E y cc mL rt d pc lv (.int x1 :: .ref (s_ad B o) :: st) S Q :=
  kX7_202r hd hy hsh h2 hd2 hst (fun S' hq => by obtain ⟨-, rfl⟩ := hq; exact k)
theorem kX7_71r {x1 : Int32} {x2 : Int32} {x3 : Int32} {x4 : Int32} (hd : decode cc pc = .ok (.invokevirtual 71, 3)) (hy : y.cls = RX7) (hsh : B.2.1[o]? = some (.inr (.inl (7, fl)))) (h2 : CS B yX7_invite cX7_invite 5 none d2 (.ref (s_ad B o) :: [.int x1, .int x2, .int x3, .int x4]) S Q2) (hd2 : d2 < d) (hst : (st.map fun v => v.category).sum ≤ 8) (k : ∀ (S' : sSt), Q2 none S' → WS B E y cc mL rt d (pc + 3) lv st S' Q) : WS B E y cc mL rt d pc lv (.int x4 :: .int x3 :: .int x2 :: .int x1 :: .ref (s_ad B o) :: st) S Q :=
  x_V4v h2 hsh rfl mX7_invite (Nat.le_of_ble_eq_true rfl) (by rw [hy]; exact sT_3 164 rfl rfl) vX7_invite hd2 hst hd k
theorem kX7_71 {x1 : Int32} {x2 : Int32} {x3 : Int32} {x4 : Int32} {S0 : sSt} (hd : decode cc pc = .ok (.invokevirtual 71, 3)) (hy : y.cls = RX7) (hsh : B.2.1[o]? = some (.inr (.inl (7, fl)))) (h2 : CS B yX7_invite cX7_invite 5 none d2 (.ref (s_ad B o) :: [.int x1, .int x2, .int x3, .int x4]) S (qV S0)) (hd2 : d2 < d) (hst : (st.map fun v => v.category).sum ≤ 8) (k : WS B E y cc mL rt d (pc + 3) lv st S0 Q) : WS B E y cc mL rt d pc lv (.int x4 :: .int x3 :: .int x2 :: .int x1 :: .ref (s_ad B o) :: st) S Q :=
  kX7_71r hd hy hsh h2 hd2 hst (fun S' hq => by obtain ⟨-, rfl⟩ := hq; exact k)
theorem kX7_75r  (hd : decode cc pc = .ok (.invokevirtual 75, 3)) (hy : y.cls = RX7) (hsh : B.2.1[o]? = some (.inr (.inl (7, fl)))) (h2 : CS B yX7_takeDraft cX7_takeDraft 2 none d2 (.ref (s_ad B o) :: []) S Q2) (hd2 : d2 < d) (hst : (st.map fun v => v.category).sum ≤ 8) (k : ∀ (S' : sSt), Q2 none S' → WS B E y cc mL rt d (pc + 3) lv st S' Q) : WS B E y cc mL rt d pc lv (.ref (s_ad B o) :: st) S Q :=
  x_V0v h2 hsh rfl mX7_takeDraft (Nat.le_of_ble_eq_true rfl) (by rw [hy]; exact sT_3 168 rfl rfl) vX7_takeDraft hd2 hst hd k
theorem kX7_75  {S0 : sSt} (hd : decode cc pc = .ok (.invokevirtual 75, 3)) (hy : y.cls = RX7) (hsh : B.2.1[o]? = some (.inr (.inl (7, fl)))) (h2 : CS B yX7_takeDraft cX7_takeDraft 2 none d2 (.ref (s_ad B o) :: []) S (qV S0)) (hd2 : d2 < d) (hst : (st.map fun v => v.category).sum ≤ 8) (k : WS B E y cc mL rt d (pc + 3) lv st S0 Q) : WS B E y cc mL rt d pc lv (.ref (s_ad B o) :: st) S Q :=
  kX7_75r hd hy hsh h2 hd2 hst (fun S' hq => by obtain ⟨-, rfl⟩ := hq; exact k)
theorem kX7_78r {x1 : Int32} {x2 : Int32} {x3 : Int32} (hd : decode cc pc = .ok (.invokestatic 78, 3)) (hy : y.cls = RX7) (h2 : CS B yX7_in cX7_in 3 (some .boolean) d2 [.int x1, .int x2, .int x3] S Q2) (hd2 : d2 < d) (hst : (st.map fun v => v.category).sum ≤ 8) (k : ∀ (r : Int32) (S' : sSt), Q2 (some (.int r)) S' → WS B E y cc mL rt d (pc + 3) lv (.int r :: st) S' Q) : WS B E y cc mL rt d pc lv (.int x3 :: .int x2 :: .int x1 :: st) S Q :=
  x_S3i h2 mX7_in (Nat.le_of_ble_eq_true rfl) (by rw [hy]; exact sT_4 15 rfl rfl) sX7_in hd2 hst hd (fun r S' _ hq => k r S' hq)
theorem kX7_78 {x1 : Int32} {x2 : Int32} {x3 : Int32} {f : Int32} {S0 : sSt} (hd : decode cc pc = .ok (.invokestatic 78, 3)) (hy : y.cls = RX7) (h2 : CS B yX7_in cX7_in 3 (some .boolean) d2 [.int x1, .int x2, .int x3] S (qI f S0)) (hd2 : d2 < d) (hst : (st.map fun v => v.category).sum ≤ 8) (k : WS B E y cc mL rt d (pc + 3) lv (.int f :: st) S0 Q) : WS B E y cc mL rt d pc lv (.int x3 :: .int x2 :: .int x1 :: st) S Q :=
  kX7_78r hd hy h2 hd2 hst (fun r S' hq => by obtain ⟨h1, rfl⟩ := hq; cases h1; exact k)
theorem kX7_89r  (hd : decode cc pc = .ok (.invokevirtual 89, 3)) (hy : y.cls = RX7) (hsh : B.2.1[o]? = some (.inr (.inl (7, fl)))) (h2 : CS B yX7_here cX7_here 1 (some .int) d2 (.ref (s_ad B o) :: []) S Q2) (hd2 : d2 < d) (hst : (st.map fun v => v.category).sum ≤ 8) (k : ∀ (r : Int32) (S' : sSt), Q2 (some (.int r)) S' → WS B E y cc mL rt d (pc + 3) lv (.int r :: st) S' Q) : WS B E y cc mL rt d pc lv (.ref (s_ad B o) :: st) S Q :=
  x_V0i h2 hsh rfl mX7_here (Nat.le_of_ble_eq_true rfl) (by rw [hy]; exact sT_4 30 rfl rfl) vX7_here hd2 hst hd (fun r S' _ hq => k r S' hq)
theorem kX7_89  {f : Int32} {S0 : sSt} (hd : decode cc pc = .ok (.invokevirtual 89, 3)) (hy : y.cls = RX7) (hsh : B.2.1[o]? = some (.inr (.inl (7, fl)))) (h2 : CS B yX7_here cX7_here 1 (some .int) d2 (.ref (s_ad B o) :: []) S (qI f S0)) (hd2 : d2 < d) (hst : (st.map fun v => v.category).sum ≤ 8) (k : WS B E y cc mL rt d (pc + 3) lv (.int f :: st) S0 Q) : WS B E y cc mL rt d pc lv (.ref (s_ad B o) :: st) S Q :=
  kX7_89r hd hy hsh h2 hd2 hst (fun r S' hq => by obtain ⟨h1, rfl⟩ := hq; cases h1; exact k)
theorem kX7_97r {x1 : Int32} {x2 : Int32} {x3 : Int32} (hd : decode cc pc = .ok (.invokevirtual 97, 3)) (hy : y.cls = RX7) (hsh : B.2.1[o]? = some (.inr (.inl (7, fl)))) (h2 : CS B yX7_readNumber cX7_readNumber 6 none d2 (.ref (s_ad B o) :: [.int x1, .int x2, .int x3]) S Q2) (hd2 : d2 < d) (hst : (st.map fun v => v.category).sum ≤ 8) (k : ∀ (S' : sSt), Q2 none S' → WS B E y cc mL rt d (pc + 3) lv st S' Q) : WS B E y cc mL rt d pc lv (.int x3 :: .int x2 :: .int x1 :: .ref (s_ad B o) :: st) S Q :=
  x_V3v h2 hsh rfl mX7_readNumber (Nat.le_of_ble_eq_true rfl) (by rw [hy]; exact sT_4 34 rfl rfl) vX7_readNumber hd2 hst hd k
theorem kX7_97 {x1 : Int32} {x2 : Int32} {x3 : Int32} {S0 : sSt} (hd : decode cc pc = .ok (.invokevirtual 97, 3)) (hy : y.cls = RX7) (hsh : B.2.1[o]? = some (.inr (.inl (7, fl)))) (h2 : CS B yX7_readNumber cX7_readNumber 6 none d2 (.ref (s_ad B o) :: [.int x1, .int x2, .int x3]) S (qV S0)) (hd2 : d2 < d) (hst : (st.map fun v => v.category).sum ≤ 8) (k : WS B E y cc mL rt d (pc + 3) lv st S0 Q) : WS B E y cc mL rt d pc lv (.int x3 :: .int x2 :: .int x1 :: .ref (s_ad B o) :: st) S Q :=
  kX7_97r hd hy hsh h2 hd2 hst (fun S' hq => by obtain ⟨-, rfl⟩ := hq; exact k)
theorem kX0_45 {a a0 n1 n0 : Nat} {n : Int32} (hd : decode cc pc = .ok (.invokestatic 45, 3)) (hy : y.cls = RX0) (hsh0 : B.2.1[a0]? = some (.inl (0, n0))) (hsh : B.2.1[a]? = some (.inl (0, n1))) (hn : ¬ n < 0) (h0 : n.toNatClampNeg ≤ n0) (h1 : n.toNatClampNeg ≤ n1) (hd0 : 1 ≤ d) (k : WS B E y cc mL rt d (pc + 3) lv [] (s_cp S a (va_cpy (S a0) (S a) 0 0 n.toNatClampNeg)) Q) : WS B E y cc mL rt d pc lv [.int n, .int 0, .ref (s_ad B a), .int 0, .ref (s_ad B a0)] S Q :=
  x_copy hsh0 hsh (by rw [hy]; exact sT_2 188 rfl rfl) ⟨by decide +kernel, by decide +kernel, by decide +kernel⟩ hn h0 h1 hd0 rfl hd k
theorem kX0_78 {x1 x2 : Int32} (hd : decode cc pc = .ok (.invokestatic 78, 3)) (hy : y.cls = RX0) (hd0 : 1 ≤ d) (hst : (st.map fun v => v.category).sum ≤ 8) (k : WS B E y cc mL rt d (pc + 3) lv (.int (if x1 < x2 then x2 else x1) :: st) S Q) : WS B E y cc mL rt d pc lv (.int x2 :: .int x1 :: st) S Q :=
  x_max (by rw [hy]; exact sT_2 219 rfl rfl) ⟨by decide +kernel, by decide +kernel, (sT_2 218 rfl rfl)⟩ hd0 hst hd k
theorem kX1_31 {x1 x2 : Int32} (hd : decode cc pc = .ok (.invokestatic 31, 3)) (hy : y.cls = RX1) (hd0 : 1 ≤ d) (hst : (st.map fun v => v.category).sum ≤ 8) (k : WS B E y cc mL rt d (pc + 3) lv (.int (if x2 < x1 then x2 else x1) :: st) S Q) : WS B E y cc mL rt d pc lv (.int x2 :: .int x1 :: st) S Q :=
  x_min (by rw [hy]; exact sT_2 189 rfl rfl) ⟨by decide +kernel, by decide +kernel, (sT_2 191 rfl rfl)⟩ hd0 hst hd k
theorem kX2_37 {a a0 n1 n0 : Nat} {n : Int32} (hd : decode cc pc = .ok (.invokestatic 37, 3)) (hy : y.cls = RX2) (hsh0 : B.2.1[a0]? = some (.inl (0, n0))) (hsh : B.2.1[a]? = some (.inl (0, n1))) (hn : ¬ n < 0) (h0 : n.toNatClampNeg ≤ n0) (h1 : n.toNatClampNeg ≤ n1) (hd0 : 1 ≤ d) (k : WS B E y cc mL rt d (pc + 3) lv [] (s_cp S a (va_cpy (S a0) (S a) 0 0 n.toNatClampNeg)) Q) : WS B E y cc mL rt d pc lv [.int n, .int 0, .ref (s_ad B a), .int 0, .ref (s_ad B a0)] S Q :=
  x_copy hsh0 hsh (by rw [hy]; exact sT_2 74 rfl rfl) ⟨by decide +kernel, by decide +kernel, by decide +kernel⟩ hn h0 h1 hd0 rfl hd k
theorem kX6_226 {x1 x2 : Int32} (hd : decode cc pc = .ok (.invokestatic 226, 3)) (hy : y.cls = RX6) (hd0 : 1 ≤ d) (hst : (st.map fun v => v.category).sum ≤ 8) (k : WS B E y cc mL rt d (pc + 3) lv (.int (if x1 < x2 then x2 else x1) :: st) S Q) : WS B E y cc mL rt d pc lv (.int x2 :: .int x1 :: st) S Q :=
  x_max (by rw [hy]; exact sT_2 216 rfl rfl) ⟨by decide +kernel, by decide +kernel, (sT_2 218 rfl rfl)⟩ hd0 hst hd k
end XL
end
section
section XM
variable {B : sB} {E : State → Prop} {y : MethodName} {cc : ByteArray} {mL : Nat} {rt : Option FieldType} {d pc : Nat} {lv : List (Nat × Value)} {st : List Value} {S : sSt} {Q : Option Value → sSt → Prop}
theorem x_re {a b : Int32} (h : a = b) (k : WS B E y cc mL rt d pc lv (.int b :: st) S Q) : WS B E y cc mL rt d pc lv (.int a :: st) S Q := h ▸ k
theorem x_ialdN {a n j : Nat} (hsh : B.2.1[a]? = some (.inl (0, n))) (hd : decode cc pc = .ok (.iaload, 1)) (hj : j < n) (hN : n < 2 ^ 31) (k : WS B E y cc mL rt d (pc + 1) lv (.int (S a j) :: st) S Q) : WS B E y cc mL rt d pc lv (.int (nI j) :: .ref (s_ad B a) :: st) S Q :=
  x_iald hsh hd (vp_in_nI hj hN) (by rw [nI_clamp (by omega)]; exact k)
theorem x_caldN {a n j : Nat} (hsh : B.2.1[a]? = some (.inl (1, n))) (hd : decode cc pc = .ok (.caload, 1)) (hj : j < n) (hN : n < 2 ^ 31) (k : WS B E y cc mL rt d (pc + 1) lv (.int (S a j) :: st) S Q) : WS B E y cc mL rt d pc lv (.int (nI j) :: .ref (s_ad B a) :: st) S Q :=
  x_cald hsh hd (vp_in_nI hj hN) (by rw [nI_clamp (by omega)]; exact k)
theorem x_baldN {a n j : Nat} (hsh : B.2.1[a]? = some (.inl (2, n))) (hd : decode cc pc = .ok (.baload, 1)) (hj : j < n) (hN : n < 2 ^ 31) (k : WS B E y cc mL rt d (pc + 1) lv (.int (S a j) :: st) S Q) : WS B E y cc mL rt d pc lv (.int (nI j) :: .ref (s_ad B a) :: st) S Q :=
  x_bald hsh hd (vp_in_nI hj hN) (by rw [nI_clamp (by omega)]; exact k)
theorem x_iastN {a n j : Nat} {x0 : Int32} (hsh : B.2.1[a]? = some (.inl (0, n))) (hd : decode cc pc = .ok (.iastore, 1)) (hj : j < n) (hN : n < 2 ^ 31) (k : WS B E y cc mL rt d (pc + 1) lv st (s_put S a j x0) Q) : WS B E y cc mL rt d pc lv (.int x0 :: .int (nI j) :: .ref (s_ad B a) :: st) S Q :=
  x_iast hsh hd (vp_in_nI hj hN) (by rw [nI_clamp (by omega)]; exact k)
theorem x_castrN {a n j : Nat} {x0 : Int32} (hsh : B.2.1[a]? = some (.inl (1, n))) (hd : decode cc pc = .ok (.castore, 1)) (hj : j < n) (hN : n < 2 ^ 31) (k : WS B E y cc mL rt d (pc + 1) lv st (s_put S a j (vp_nar .char x0)) Q) : WS B E y cc mL rt d pc lv (.int x0 :: .int (nI j) :: .ref (s_ad B a) :: st) S Q :=
  x_castr hsh hd (vp_in_nI hj hN) (by rw [nI_clamp (by omega)]; exact k)
theorem x_bastN {a n j : Nat} {x0 : Int32} (hsh : B.2.1[a]? = some (.inl (2, n))) (hd : decode cc pc = .ok (.bastore, 1)) (hj : j < n) (hN : n < 2 ^ 31) (k : WS B E y cc mL rt d (pc + 1) lv st (s_put S a j (vp_nar .byte x0)) Q) : WS B E y cc mL rt d pc lv (.int x0 :: .int (nI j) :: .ref (s_ad B a) :: st) S Q :=
  x_bast hsh hd (vp_in_nI hj hN) (by rw [nI_clamp (by omega)]; exact k)
end XM
theorem sw_ne {x v : Int32} {n : Int} (hv : v.toInt = n) (h : ¬ x = v) : ¬ x.toInt = n := fun q => h (Int32.toInt_inj.mp (q.trans hv.symm))
theorem bI_congr {c c' : Prop} [Decidable c] [Decidable c'] (h : c ↔ c') : bI c = bI c' := by unfold bI; by_cases hc : c <;> simp [hc, ← h]
theorem bI_t {c : Prop} [Decidable c] (h : c) : (1 : Int32) = bI c := by simp [bI, h]
theorem bI_f {c : Prop} [Decidable c] (h : ¬ c) : (0 : Int32) = bI c := by simp [bI, h]
theorem qI_of {f f' : Int32} {S0 S1 : sSt} (h : f' = f) (h2 : S1 = S0) : qI f S0 (some (.int f')) S1 := ⟨by rw [h], h2⟩
/-! spec: counts and searches, by what is left to look at -/
def cntU (f : Nat → Bool) : Nat → Nat → Nat
  | 0, _ => 0
  | k + 1, i => (if f i = true then 1 else 0) + cntU f k (i + 1)
def fndU (f : Nat → Bool) : Nat → Nat → Option Nat
  | 0, _ => none
  | k + 1, i => if f i = true then some i else fndU f k (i + 1)
theorem cntU_le (f : Nat → Bool) : ∀ k i, cntU f k i ≤ k := by
  intro k; induction k with
  | zero => intro i; exact Nat.le_refl 0
  | succ k ih => intro i; unfold cntU; have := ih (i + 1); split <;> omega
theorem cntU_congr {f g : Nat → Bool} : ∀ k i, (∀ j, i ≤ j → j < i + k → f j = g j) → cntU f k i = cntU g k i := by
  intro k; induction k with
  | zero => intro i _; rfl
  | succ k ih => intro i h; unfold cntU; rw [h i (Nat.le_refl i) (by omega), ih (i + 1) (fun j h1 h2 => h j (by omega) (by omega))]
theorem fndU_congr {f g : Nat → Bool} : ∀ k i, (∀ j, i ≤ j → j < i + k → f j = g j) → fndU f k i = fndU g k i := by
  intro k; induction k with
  | zero => intro i _; rfl
  | succ k ih => intro i h; unfold fndU; rw [h i (Nat.le_refl i) (by omega), ih (i + 1) (fun j h1 h2 => h j (by omega) (by omega))]
/-! shapes -/
def shB (B : sB) (c pl : Nat) : Prop := B.2.1[c]? = some (.inr (.inl (0, [some pl, none, none, none, some (c + 1), some (c + 2), some (c + 3), some (c + 4), some (c + 5)]))) ∧ B.2.1[c + 1]? = some (.inl (0, 9)) ∧ B.2.1[c + 2]? = some (.inl (0, 9)) ∧ B.2.1[c + 3]? = some (.inl (0, 9)) ∧ B.2.1[c + 4]? = some (.inl (0, 9)) ∧ B.2.1[c + 5]? = some (.inl (0, 9))
def shP (B : sB) (pl : Nat) : Prop := B.2.1[pl]? = some (.inr (.inl (2, [none, none, none, none, none, some (pl + 1), some (pl + 2), some (pl + 3)]))) ∧ B.2.1[pl + 1]? = some (.inl (0, 9)) ∧ B.2.1[pl + 2]? = some (.inl (0, 9)) ∧ B.2.1[pl + 3]? = some (.inl (0, 9))
/-! a plan: guests, places, most heat, kinds, least, most; a row of 48: knob, heat, moments, where, lane, place, brown, eater -/
abbrev aP : Type := Nat × Int32 × Int32 × (Nat → Int32) × (Nat → Int32) × (Nat → Int32)
abbrev aR : Type := Nat → Int32
def rP (S : sSt) (pl : Nat) (P : aP) : Prop := P.1 ≤ 9 ∧ S pl 4 = nI P.1 ∧ S pl 0 = P.2.1 ∧ S pl 3 = P.2.2.1 ∧ ∀ i, i < P.1 → S (pl + 1) i = P.2.2.2.1 i ∧ S (pl + 2) i = P.2.2.2.2.1 i ∧ S (pl + 3) i = P.2.2.2.2.2 i
def rB (S : sSt) (c : Nat) (r : aR) : Prop := S c 1 = r 0 ∧ S c 2 = r 1 ∧ S c 3 = r 2 ∧ ∀ i, i < 9 → S (c + 1) i = r (3 + i) ∧ S (c + 2) i = r (12 + i) ∧ S (c + 3) i = r (21 + i) ∧ S (c + 4) i = r (30 + i) ∧ S (c + 5) i = r (39 + i)
section XM2
variable {B : sB} {E : State → Prop} {y : MethodName} {cc : ByteArray} {mL : Nat} {rt : Option FieldType} {d pc : Nat} {lv : List (Nat × Value)} {st : List Value} {S : sSt} {Q : Option Value → sSt → Prop}
theorem x_inc1N {i j : Nat} {lv' : List (Nat × Value)} (hd : decode cc pc = .ok (.iinc i 1, 3)) (hv0 : s_lk lv i = some (.int (nI j))) (hn : i < mL) (hlv : (i, Value.int (nI (j + 1))) :: lv.filter (fun q => !(q.1 == i) && !(q.1 + 1 == i && q.2.category == 2)) = lv') (k : WS B E y cc mL rt d (pc + 3) lv' st S Q) : WS B E y cc mL rt d pc lv st S Q :=
  x_iinc hd hv0 (nI_1 j) hn hlv k
end XM2
end
section
/-! THE SPEC: what a row of 48 becomes -/
def brwF (k b : Int32) : Int32 := if k = 0 then b else if k = 1 then b / 2 else if k = 2 then (if b < 3 then 0 else b - 3) else 2 * b
def carF (P : aP) (r : aR) (g : Nat) : aR :=
  if r (3 + g) = 1 then
    (if P.2.1 ≤ r (21 + g) + r 0 then upd (upd (upd r (30 + g) (r (30 + g) + brwF (P.2.2.2.1 g) (r 1 + (if r (12 + g) = 0 then 2 else 0)))) (21 + g) (r (21 + g) + r 0)) (3 + g) 2
     else upd (upd r (30 + g) (r (30 + g) + brwF (P.2.2.2.1 g) (r 1 + (if r (12 + g) = 0 then 2 else 0)))) (21 + g) (r (21 + g) + r 0))
  else r
def carU (P : aP) : Nat → Nat → aR → aR
  | 0, _, r => r
  | k + 1, i, r => carU P k (i + 1) (carF P r i)
def onF (P : aP) (r : aR) (x : Int32) : Nat := cntU (fun g => r (3 + g) == x) P.1 0
def heatF (P : aP) (on : Nat) (h : Int32) : Int32 := if on = 0 then (if h < P.2.2.1 then h + 1 else h) else (if h < nI (on / 2) then 0 else h - nI (on / 2))
def momF (P : aP) (r : aR) : aR := upd (upd (carU P P.1 0 r) 1 (heatF P (onF P r 1) ((carU P P.1 0 r) 1))) 2 ((carU P P.1 0 r) 2 + 1)
def putF (r : aR) (g : Nat) (lane : Int32) : aR := upd (upd (upd r (3 + g) 1) (12 + g) lane) (21 + g) 0
def eatF (r : aR) (g s : Nat) : aR := upd (upd r (3 + s) 3) (39 + s) (nI g)
def rgt (P : aP) (r : aR) (g s : Nat) : Bool := decide (P.2.2.2.2.1 g ≤ r (30 + s)) && decide (r (30 + s) ≤ P.2.2.2.2.2 g)
def etn (P : aP) (r : aR) (g : Nat) : Option Nat := fndU (fun s => r (39 + s) == nI g) P.1 0
def canT (P : aP) (r : aR) (g s : Nat) : Bool := (r (3 + s) == 2) && ((P.2.2.2.1 s == P.2.2.2.1 g) && (etn P r g).isNone)
def freeL (P : aP) (r : aR) (lane : Int32) : Bool := (fndU (fun g => (r (3 + g) == 1) && ((r (12 + g) == lane) && (r (21 + g) == 0))) P.1 0).isNone
def loose (r : aR) (g : Nat) : Bool := (r (3 + g) == 0) || (r (3 + g) == 2)
def tilU (P : aP) : Nat → Nat → aR → aR
  | 0, _, r => r
  | k + 1, g, r => if r (3 + g) = 1 then tilU P k g (momF P r) else r
def rideF (P : aP) (r : aR) (g : Nat) (lane : Int32) : aR := tilU P 40 g (putF r g lane)
def conU (P : aP) (r : aR) : Nat → Nat → Int32 → Int32
  | 0, _, a => a
  | k + 1, i, a => conU P r k (i + 1) (if r (39 + i) = -4 then a else if rgt P r (r (39 + i)).toNatClampNeg i = true then a ||| ((1 : Int32) <<< (r (39 + i) &&& 31)) else a)
def lowF (P : aP) (r : aR) (g : Nat) : aR := match fndU (fun s => canT P r g s && rgt P r g s) P.1 0 with
  | some s => eatF r g s
  | none => r
def actF (P : aP) (r : aR) (dr : Nat) : aR := lowF P (if (r (3 + dr % P.1) == 0 && freeL P r (nI (dr / 16 % 2))) = true then putF r (dr % P.1) (nI (dr / 16 % 2)) else r) (dr % P.1)
/-! what holds of a plan and of a row -/
def iP (P : aP) : Prop := 1 ≤ P.1 ∧ P.1 ≤ 9 ∧ (2 ≤ P.2.1.toInt ∧ P.2.1.toInt ≤ 40) ∧ (0 ≤ P.2.2.1.toInt ∧ P.2.2.1.toInt ≤ 30) ∧ ∀ i, i < P.1 → 0 ≤ (P.2.2.2.1 i).toInt ∧ (P.2.2.2.1 i).toInt ≤ 3
def iR (P : aP) (r : aR) : Prop := (1 ≤ (r 0).toInt ∧ (r 0).toInt ≤ 9) ∧ (0 ≤ (r 1).toInt ∧ (r 1).toInt ≤ 30) ∧ (∀ i, i < P.1 → r (3 + i) = 1 → 0 ≤ (r (21 + i)).toInt ∧ (r (21 + i)).toInt < P.2.1.toInt) ∧ (∀ i, i < P.1 → r (39 + i) = -4 ∨ ∃ j, j < P.1 ∧ r (39 + i) = nI j) ∧ ∀ i j, i < P.1 → j < P.1 → r (39 + i) = r (39 + j) → r (39 + i) ≠ -4 → i = j
/-! changes of one belt -/
def chB (S S' : sSt) (c : Nat) (r' : aR) : Prop := rB S' c r' ∧ ∀ a, (a < c ∨ c + 6 ≤ a) → S' a = S a
def qB (S : sSt) (c : Nat) (r' : aR) : Option Value → sSt → Prop := fun v S' => v = none ∧ chB S S' c r'
def qIB (f : Int32) (S : sSt) (c : Nat) (r' : aR) : Option Value → sSt → Prop := fun v S' => v = some (.int f) ∧ chB S S' c r'
theorem rP_ch {S S' : sSt} {c pl : Nat} {r' : aR} {P : aP} (h : chB S S' c r') (hlt : pl + 4 ≤ c) (hP : rP S pl P) : rP S' pl P := by
  obtain ⟨h1, h2, h3, h4, h5⟩ := hP
  have e : ∀ a, a < c → S' a = S a := fun a ha => h.2 a (Or.inl ha)
  exact ⟨h1, by rw [e pl (by omega)]; exact h2, by rw [e pl (by omega)]; exact h3, by rw [e pl (by omega)]; exact h4, fun i hi => by rw [e (pl + 1) (by omega), e (pl + 2) (by omega), e (pl + 3) (by omega)]; exact h5 i hi⟩
theorem chB_trans {S S1 S2 : sSt} {c : Nat} {r1 r2 : aR} (h1 : chB S S1 c r1) (h2 : chB S1 S2 c r2) : chB S S2 c r2 := ⟨h2.1, fun a ha => (h2.2 a ha).trans (h1.2 a ha)⟩
theorem chB_rfl {S : sSt} {c : Nat} {r : aR} (h : rB S c r) : chB S S c r := ⟨h, fun _ _ => rfl⟩
theorem s_put_ne {S : sSt} {k i a : Nat} {v : Int32} (h : a ≠ k) : s_put S k i v a = S a := s_put_o S k i v a h
theorem s_put_eq {S : sSt} {k i b : Nat} {v : Int32} : s_put S k i v k b = if b = i then v else S k b := by simp [s_put]
end
section
theorem upd_eq (f : Nat → Int32) (k : Nat) (x : Int32) : upd f k x k = x := by simp [upd]
theorem upd_ne {f : Nat → Int32} {k j : Nat} {x : Int32} (h : j ≠ k) : upd f k x j = f j := by simp [upd, h]
section XG
variable {B : sB} {E : State → Prop} {y : MethodName} {cc : ByteArray} {mL : Nat} {rt : Option FieldType} {d pc : Nat} {lv : List (Nat × Value)} {st : List Value} {S : sSt} {Q : Option Value → sSt → Prop}
theorem x_gen {Pz : sSt → Prop} (h : Pz S) (k : ∀ S', Pz S' → WS B E y cc mL rt d pc lv st S' Q) : WS B E y cc mL rt d pc lv st S Q := k S h
end XG
theorem chB_w {S S' : sSt} {c i : Nat} {r : aR} {v : Int32} (h : chB S S' c r) (hi : i < 9) : chB S (s_put S' (c + 1) i v) c (upd r (3 + i) v) := by
  obtain ⟨⟨h0, h1, h2, h3⟩, hf⟩ := h
  refine ⟨⟨?_, ?_, ?_, fun j hj => ?_⟩, fun a ha => ?_⟩
  · rw [s_put_ne (by omega), upd_ne (by omega)]; exact h0
  · rw [s_put_ne (by omega), upd_ne (by omega)]; exact h1
  · rw [s_put_ne (by omega), upd_ne (by omega)]; exact h2
  · obtain ⟨g1, g2, g3, g4, g5⟩ := h3 j hj
    exact ⟨by
      by_cases hji : j = i
      · subst hji; rw [s_put_eq, if_pos rfl, upd_eq]
      · rw [s_put_eq, if_neg hji, upd_ne (by omega)]; exact g1, by rw [s_put_ne (by omega), upd_ne (by omega)]; exact g2, by rw [s_put_ne (by omega), upd_ne (by omega)]; exact g3, by rw [s_put_ne (by omega), upd_ne (by omega)]; exact g4, by rw [s_put_ne (by omega), upd_ne (by omega)]; exact g5⟩
  · rw [s_put_ne (by omega)]; exact hf a ha
theorem chB_l {S S' : sSt} {c i : Nat} {r : aR} {v : Int32} (h : chB S S' c r) (hi : i < 9) : chB S (s_put S' (c + 2) i v) c (upd r (12 + i) v) := by
  obtain ⟨⟨h0, h1, h2, h3⟩, hf⟩ := h
  refine ⟨⟨?_, ?_, ?_, fun j hj => ?_⟩, fun a ha => ?_⟩
  · rw [s_put_ne (by omega), upd_ne (by omega)]; exact h0
  · rw [s_put_ne (by omega), upd_ne (by omega)]; exact h1
  · rw [s_put_ne (by omega), upd_ne (by omega)]; exact h2
  · obtain ⟨g1, g2, g3, g4, g5⟩ := h3 j hj
    exact ⟨by rw [s_put_ne (by omega), upd_ne (by omega)]; exact g1, by
      by_cases hji : j = i
      · subst hji; rw [s_put_eq, if_pos rfl, upd_eq]
      · rw [s_put_eq, if_neg hji, upd_ne (by omega)]; exact g2, by rw [s_put_ne (by omega), upd_ne (by omega)]; exact g3, by rw [s_put_ne (by omega), upd_ne (by omega)]; exact g4, by rw [s_put_ne (by omega), upd_ne (by omega)]; exact g5⟩
  · rw [s_put_ne (by omega)]; exact hf a ha
theorem chB_p {S S' : sSt} {c i : Nat} {r : aR} {v : Int32} (h : chB S S' c r) (hi : i < 9) : chB S (s_put S' (c + 3) i v) c (upd r (21 + i) v) := by
  obtain ⟨⟨h0, h1, h2, h3⟩, hf⟩ := h
  refine ⟨⟨?_, ?_, ?_, fun j hj => ?_⟩, fun a ha => ?_⟩
  · rw [s_put_ne (by omega), upd_ne (by omega)]; exact h0
  · rw [s_put_ne (by omega), upd_ne (by omega)]; exact h1
  · rw [s_put_ne (by omega), upd_ne (by omega)]; exact h2
  · obtain ⟨g1, g2, g3, g4, g5⟩ := h3 j hj
    exact ⟨by rw [s_put_ne (by omega), upd_ne (by omega)]; exact g1, by rw [s_put_ne (by omega), upd_ne (by omega)]; exact g2, by
      by_cases hji : j = i
      · subst hji; rw [s_put_eq, if_pos rfl, upd_eq]
      · rw [s_put_eq, if_neg hji, upd_ne (by omega)]; exact g3, by rw [s_put_ne (by omega), upd_ne (by omega)]; exact g4, by rw [s_put_ne (by omega), upd_ne (by omega)]; exact g5⟩
  · rw [s_put_ne (by omega)]; exact hf a ha
theorem chB_b {S S' : sSt} {c i : Nat} {r : aR} {v : Int32} (h : chB S S' c r) (hi : i < 9) : chB S (s_put S' (c + 4) i v) c (upd r (30 + i) v) := by
  obtain ⟨⟨h0, h1, h2, h3⟩, hf⟩ := h
  refine ⟨⟨?_, ?_, ?_, fun j hj => ?_⟩, fun a ha => ?_⟩
  · rw [s_put_ne (by omega), upd_ne (by omega)]; exact h0
  · rw [s_put_ne (by omega), upd_ne (by omega)]; exact h1
  · rw [s_put_ne (by omega), upd_ne (by omega)]; exact h2
  · obtain ⟨g1, g2, g3, g4, g5⟩ := h3 j hj
    exact ⟨by rw [s_put_ne (by omega), upd_ne (by omega)]; exact g1, by rw [s_put_ne (by omega), upd_ne (by omega)]; exact g2, by rw [s_put_ne (by omega), upd_ne (by omega)]; exact g3, by
      by_cases hji : j = i
      · subst hji; rw [s_put_eq, if_pos rfl, upd_eq]
      · rw [s_put_eq, if_neg hji, upd_ne (by omega)]; exact g4, by rw [s_put_ne (by omega), upd_ne (by omega)]; exact g5⟩
  · rw [s_put_ne (by omega)]; exact hf a ha
theorem chB_e {S S' : sSt} {c i : Nat} {r : aR} {v : Int32} (h : chB S S' c r) (hi : i < 9) : chB S (s_put S' (c + 5) i v) c (upd r (39 + i) v) := by
  obtain ⟨⟨h0, h1, h2, h3⟩, hf⟩ := h
  refine ⟨⟨?_, ?_, ?_, fun j hj => ?_⟩, fun a ha => ?_⟩
  · rw [s_put_ne (by omega), upd_ne (by omega)]; exact h0
  · rw [s_put_ne (by omega), upd_ne (by omega)]; exact h1
  · rw [s_put_ne (by omega), upd_ne (by omega)]; exact h2
  · obtain ⟨g1, g2, g3, g4, g5⟩ := h3 j hj
    exact ⟨by rw [s_put_ne (by omega), upd_ne (by omega)]; exact g1, by rw [s_put_ne (by omega), upd_ne (by omega)]; exact g2, by rw [s_put_ne (by omega), upd_ne (by omega)]; exact g3, by rw [s_put_ne (by omega), upd_ne (by omega)]; exact g4, by
      by_cases hji : j = i
      · subst hji; rw [s_put_eq, if_pos rfl, upd_eq]
      · rw [s_put_eq, if_neg hji, upd_ne (by omega)]; exact g5⟩
  · rw [s_put_ne (by omega)]; exact hf a ha
theorem chB_k {S S' : sSt} {c : Nat} {r : aR} {v : Int32} (h : chB S S' c r) : chB S (s_put S' c 1 v) c (upd r 0 v) := by
  obtain ⟨⟨h0, h1, h2, h3⟩, hf⟩ := h
  refine ⟨⟨?_, ?_, ?_, fun j hj => ?_⟩, fun a ha => ?_⟩
  · rw [s_put_eq, if_pos rfl, upd_eq]
  · rw [s_put_eq, if_neg (by decide), upd_ne (by decide)]; exact h1
  · rw [s_put_eq, if_neg (by decide), upd_ne (by decide)]; exact h2
  · obtain ⟨g1, g2, g3, g4, g5⟩ := h3 j hj
    refine ⟨?_, ?_, ?_, ?_, ?_⟩ <;> rw [s_put_ne (by omega), upd_ne (by omega)] <;> assumption
  · rw [s_put_ne (by omega)]; exact hf a ha
theorem chB_h {S S' : sSt} {c : Nat} {r : aR} {v : Int32} (h : chB S S' c r) : chB S (s_put S' c 2 v) c (upd r 1 v) := by
  obtain ⟨⟨h0, h1, h2, h3⟩, hf⟩ := h
  refine ⟨⟨?_, ?_, ?_, fun j hj => ?_⟩, fun a ha => ?_⟩
  · rw [s_put_eq, if_neg (by decide), upd_ne (by decide)]; exact h0
  · rw [s_put_eq, if_pos rfl, upd_eq]
  · rw [s_put_eq, if_neg (by decide), upd_ne (by decide)]; exact h2
  · obtain ⟨g1, g2, g3, g4, g5⟩ := h3 j hj
    refine ⟨?_, ?_, ?_, ?_, ?_⟩ <;> rw [s_put_ne (by omega), upd_ne (by omega)] <;> assumption
  · rw [s_put_ne (by omega)]; exact hf a ha
theorem chB_m {S S' : sSt} {c : Nat} {r : aR} {v : Int32} (h : chB S S' c r) : chB S (s_put S' c 3 v) c (upd r 2 v) := by
  obtain ⟨⟨h0, h1, h2, h3⟩, hf⟩ := h
  refine ⟨⟨?_, ?_, ?_, fun j hj => ?_⟩, fun a ha => ?_⟩
  · rw [s_put_eq, if_neg (by decide), upd_ne (by decide)]; exact h0
  · rw [s_put_eq, if_neg (by decide), upd_ne (by decide)]; exact h1
  · rw [s_put_eq, if_pos rfl, upd_eq]
  · obtain ⟨g1, g2, g3, g4, g5⟩ := h3 j hj
    refine ⟨?_, ?_, ?_, ?_, ?_⟩ <;> rw [s_put_ne (by omega), upd_ne (by omega)] <;> assumption
  · rw [s_put_ne (by omega)]; exact hf a ha
theorem nI_of3 {x : Int32} {n : Nat} (h0 : 0 ≤ x.toInt) (h1 : x.toInt ≤ n) (hn : n < 2 ^ 31) : ∃ j : Nat, j ≤ n ∧ x = nI j := by
  obtain ⟨j, hj, rfl⟩ := nI_of (x := x) (by rw [Int32.lt_iff_toInt_lt]; simp; omega)
  rw [nI_toInt hj] at h1
  exact ⟨j, by omega, rfl⟩
theorem brw_cl {k h : Int32} {ln : Int32} (hh : 0 ≤ h.toInt ∧ h.toInt ≤ 30) : (if (0 : Int32) < (h + (if ln = 0 then 2 else 0)) - 3 then (h + (if ln = 0 then 2 else 0)) - 3 else 0) = (if (h + (if ln = 0 then 2 else 0)) < 3 then 0 else (h + (if ln = 0 then 2 else 0)) - 3) := by
  obtain ⟨j, hj, rfl⟩ := nI_of3 (n := 30) hh.1 (by omega) (by decide)
  have key : ∀ q : Nat, q ≤ 40 → (if (0 : Int32) < nI q - 3 then nI q - 3 else 0) = (if nI q < 3 then 0 else nI q - 3) := by decide
  by_cases hl : ln = 0
  · simp only [if_pos hl]
    rw [show nI j + 2 = nI (j + 2) from nI_add j 2]
    exact key _ (by omega)
  · simp only [if_neg hl]
    rw [show nI j + 0 = nI (j + 0) from nI_add j 0]
    exact key _ (by omega)
theorem heat_cl {P : aP} {on : Nat} {h : Int32} (hon : on ≤ 9) (h0 : on ≠ 0) (hh : 0 ≤ h.toInt ∧ h.toInt ≤ 30) : (if (0 : Int32) < h - nI on / 2 then h - nI on / 2 else 0) = heatF P on h := by
  obtain ⟨j, hj, rfl⟩ := nI_of3 (n := 30) hh.1 (by omega) (by decide)
  rw [heatF, if_neg h0]
  have key : ∀ o : Nat, o ≤ 9 → ∀ q : Nat, q ≤ 30 → (if (0 : Int32) < nI q - nI o / 2 then nI q - nI o / 2 else 0) = (if nI q < nI (o / 2) then 0 else nI q - nI (o / 2)) := by decide
  exact key on hon j hj
theorem carF_lo {P : aP} {r : aR} {g a : Nat} (ha : a < 3) : carF P r g a = r a := by
  unfold carF
  split
  · split
    · rw [upd_ne (by omega), upd_ne (by omega), upd_ne (by omega)]
    · rw [upd_ne (by omega), upd_ne (by omega)]
  · rfl
theorem carU_lo {P : aP} {a : Nat} (ha : a < 3) : ∀ (k i : Nat) (r : aR), carU P k i r a = r a := by
  intro k; induction k with
  | zero => intro i r; rfl
  | succ k ih => intro i r; rw [carU, ih, carF_lo ha]
theorem onF_le (P : aP) (r : aR) (x : Int32) : onF P r x ≤ P.1 := cntU_le _ _ _
end
section
set_option maxHeartbeats 1000000 in
set_option maxRecDepth 20000 in
theorem c_within {B : sB} {S : sSt} {x a b : Int32} : CS B yX6_within cX6_within 3 (some .boolean) 1 [.int x, .int a, .int b] S (qI (bI (a ≤ x ∧ x ≤ b)) S) := by
  refine cs_intro (lv := [(0, .int x), (1, .int a), (2, .int b)]) rfl ?_
  refine x_iload_n dX6_within_0 rfl rfl ?_
  refine x_iload_n dX6_within_1 rfl rfl ?_
  refine x_icmp_lt (tgt := 14) dX6_within_2 (by decide) (fun c_2 => ?_) (fun c_2 => ?_)
  · refine x_iconst (v := 0) dX6_within_14 (by decide) ?_
    refine x_ireturn dX6_within_15 rfl (by first | rfl | exact bI_nar _) ?_
    first | exact qI_of (bI_f (fun h => by simp only [Int32.lt_iff_toInt_lt, Int32.le_iff_toInt_le] at *; omega)) rfl | exact qI_of (bI_t (by simp only [Int32.lt_iff_toInt_lt, Int32.le_iff_toInt_le] at *; omega)) rfl
  · refine x_iload_n dX6_within_5 rfl rfl ?_
    refine x_iload_n dX6_within_6 rfl rfl ?_
    refine x_icmp_gt (tgt := 14) dX6_within_7 (by decide) (fun c_7 => ?_) (fun c_7 => ?_)
    · refine x_iconst (v := 0) dX6_within_14 (by decide) ?_
      refine x_ireturn dX6_within_15 rfl (by first | rfl | exact bI_nar _) ?_
      first | exact qI_of (bI_f (fun h => by simp only [Int32.lt_iff_toInt_lt, Int32.le_iff_toInt_le] at *; omega)) rfl | exact qI_of (bI_t (by simp only [Int32.lt_iff_toInt_lt, Int32.le_iff_toInt_le] at *; omega)) rfl
    · refine x_iconst (v := 1) dX6_within_10 (by decide) ?_
      refine x_goto (tgt := 15) dX6_within_11 (by decide) ?_
      refine x_ireturn dX6_within_15 rfl (by first | rfl | exact bI_nar _) ?_
      first | exact qI_of (bI_f (fun h => by simp only [Int32.lt_iff_toInt_lt, Int32.le_iff_toInt_le] at *; omega)) rfl | exact qI_of (bI_t (by simp only [Int32.lt_iff_toInt_lt, Int32.le_iff_toInt_le] at *; omega)) rfl

set_option maxHeartbeats 1000000 in
set_option maxRecDepth 20000 in
theorem l_howMany {B : sB} {S : sSt} {c pl : Nat} {P : aP} {r : aR} {x : Int32} (hc : shB B c pl) (hp : shP B pl) (hP : rP S pl P) (hB : rB S c r) :
    ∀ (k i q : Nat), i + k = P.1 → q ≤ i → WS B (fun _ => True) yX0_howMany cX0_howMany 4 (some .int) 1 4 [(3, .int (nI i)), (2, .int (nI q)), (0, .ref (s_ad B c)), (1, .int x)] [] S (qI (nI (q + cntU (fun g => r (3 + g) == x) k i)) S) := by
  obtain ⟨hc0, hc1, hc2, hc3, hc4, hc5⟩ := hc
  obtain ⟨hp0, hp1, hp2, hp3⟩ := hp
  obtain ⟨hn9, hn, hlen, hmst, hPi⟩ := id hP
  intro k
  induction k with
  | zero =>
    intro i q hi hq
    refine x_iload_n dX0_howMany_4 rfl rfl ?_
    refine x_aload_n dX0_howMany_5 rfl rfl ?_
    refine gX0_27 dX0_howMany_6 rfl (by assumption) rfl ?_
    refine gX0_51 dX0_howMany_9 rfl (by assumption) rfl ?_
    refine x_icmp_ge (tgt := 34) dX0_howMany_12 (by decide) (fun c_12 => ?_) (fun c_12 => ?_)
    · refine x_iload_n dX0_howMany_34 rfl rfl ?_
      refine x_ireturn dX0_howMany_35 rfl rfl ?_
      exact ⟨rfl, rfl⟩
    · exact absurd (by rw [hn, ← hi]; exact nI_le (by omega) (by omega)) c_12
  | succ k ih =>
    intro i q hi hq
    have hr := (hB.2.2.2 i (by omega)).1
    refine x_iload_n dX0_howMany_4 rfl rfl ?_
    refine x_aload_n dX0_howMany_5 rfl rfl ?_
    refine gX0_27 dX0_howMany_6 rfl (by assumption) rfl ?_
    refine gX0_51 dX0_howMany_9 rfl (by assumption) rfl ?_
    refine x_icmp_ge (tgt := 34) dX0_howMany_12 (by decide) (fun c_12 => ?_) (fun c_12 => ?_)
    · exact absurd c_12 (by rw [hn]; exact nI_ge (by omega) (by omega))
    · refine x_aload_n dX0_howMany_15 rfl rfl ?_
      refine gX0_9 dX0_howMany_16 rfl (by assumption) rfl ?_
      refine x_iload_n dX0_howMany_19 rfl rfl ?_
      first | refine x_ialdN (by assumption) dX0_howMany_20 (by omega) (by decide) ?_ | refine x_iald (by assumption) dX0_howMany_20 (by assumption) ?_
      refine x_iload_n dX0_howMany_21 rfl rfl ?_
      refine x_icmp_ne (tgt := 28) dX0_howMany_22 (by decide) (fun c_22 => ?_) (fun c_22 => ?_)
      · first | refine x_inc1N (lv' := [(3, _), (2, _), (0, _), (1, _)]) dX0_howMany_28 rfl (by decide) rfl ?_ | refine x_iinc (v := _ + 1) (lv' := [(3, _), (2, _), (0, _), (1, _)]) dX0_howMany_28 rfl rfl (by decide) rfl ?_
        refine x_goto (tgt := 4) dX0_howMany_31 (by decide) ?_
        first
        | (rw [show q + cntU (fun g => r (3 + g) == x) (k + 1) i = (q + 1) + cntU (fun g => r (3 + g) == x) k (i + 1) from by rw [cntU, if_pos (by rw [beq_iff_eq, ← hr]; exact c_22)]; omega]; exact ih (i + 1) (q + 1) (by omega) (by omega))
        | (rw [show q + cntU (fun g => r (3 + g) == x) (k + 1) i = q + cntU (fun g => r (3 + g) == x) k (i + 1) from by rw [cntU, if_neg (by rw [beq_iff_eq, ← hr]; exact c_22)]; omega]; exact ih (i + 1) q (by omega) (by omega))
      · first | refine x_inc1N (lv' := [(2, _), (3, _), (0, _), (1, _)]) dX0_howMany_25 rfl (by decide) rfl ?_ | refine x_iinc (v := _ + 1) (lv' := [(2, _), (3, _), (0, _), (1, _)]) dX0_howMany_25 rfl rfl (by decide) rfl ?_
        first | refine x_inc1N (lv' := [(3, _), (2, _), (0, _), (1, _)]) dX0_howMany_28 rfl (by decide) rfl ?_ | refine x_iinc (v := _ + 1) (lv' := [(3, _), (2, _), (0, _), (1, _)]) dX0_howMany_28 rfl rfl (by decide) rfl ?_
        refine x_goto (tgt := 4) dX0_howMany_31 (by decide) ?_
        first
        | (rw [show q + cntU (fun g => r (3 + g) == x) (k + 1) i = (q + 1) + cntU (fun g => r (3 + g) == x) k (i + 1) from by rw [cntU, if_pos (by rw [beq_iff_eq, ← hr]; exact c_22)]; omega]; exact ih (i + 1) (q + 1) (by omega) (by omega))
        | (rw [show q + cntU (fun g => r (3 + g) == x) (k + 1) i = q + cntU (fun g => r (3 + g) == x) k (i + 1) from by rw [cntU, if_neg (by rw [beq_iff_eq, ← hr]; exact c_22)]; omega]; exact ih (i + 1) q (by omega) (by omega))

set_option maxHeartbeats 1000000 in
set_option maxRecDepth 20000 in
theorem c_howMany {B : sB} {S : sSt} {c pl : Nat} {P : aP} {r : aR} {x : Int32} (hc : shB B c pl) (hp : shP B pl) (hP : rP S pl P) (hB : rB S c r) : CS B yX0_howMany cX0_howMany 4 (some .int) 1 [.ref (s_ad B c), .int x] S (qI (nI (onF P r x)) S) := by
  refine cs_intro (lv := [(0, .ref (s_ad B c)), (1, .int x)]) rfl ?_
  refine x_iconst (v := 0) dX0_howMany_0 (by decide) ?_
  refine x_istore_n (lv' := [(2, _), (0, _), (1, _)]) dX0_howMany_1 rfl (by decide) rfl ?_
  refine x_iconst (v := 0) dX0_howMany_2 (by decide) ?_
  refine x_istore_n (lv' := [(3, _), (2, _), (0, _), (1, _)]) dX0_howMany_3 rfl (by decide) rfl ?_
  have h := l_howMany (x := x) hc hp hP hB P.1 0 0 (by omega) (Nat.le_refl 0)
  rw [Nat.zero_add] at h
  exact h

set_option maxHeartbeats 1000000 in
set_option maxRecDepth 20000 in
theorem l_alikeOnTray {B : sB} {S : sSt} {c pl : Nat} {P : aP} {r : aR} {x : Int32} (hc : shB B c pl) (hp : shP B pl) (hP : rP S pl P) (hB : rB S c r) :
    ∀ (k i q : Nat), i + k = P.1 → q ≤ i → WS B (fun _ => True) yX0_alikeOnTray cX0_alikeOnTray 4 (some .int) 1 4 [(3, .int (nI i)), (2, .int (nI q)), (0, .ref (s_ad B c)), (1, .int x)] [] S (qI (nI (q + cntU (fun g => (r (3 + g) == 2) && (P.2.2.2.1 g == x)) k i)) S) := by
  obtain ⟨hc0, hc1, hc2, hc3, hc4, hc5⟩ := hc
  obtain ⟨hp0, hp1, hp2, hp3⟩ := hp
  obtain ⟨hn9, hn, hlen, hmst, hPi⟩ := id hP
  intro k
  induction k with
  | zero =>
    intro i q hi hq
    refine x_iload_n dX0_alikeOnTray_4 rfl rfl ?_
    refine x_aload_n dX0_alikeOnTray_5 rfl rfl ?_
    refine gX0_27 dX0_alikeOnTray_6 rfl (by assumption) rfl ?_
    refine gX0_51 dX0_alikeOnTray_9 rfl (by assumption) rfl ?_
    refine x_icmp_ge (tgt := 47) dX0_alikeOnTray_12 (by decide) (fun c_12 => ?_) (fun c_12 => ?_)
    · refine x_iload_n dX0_alikeOnTray_47 rfl rfl ?_
      refine x_ireturn dX0_alikeOnTray_48 rfl rfl ?_
      exact ⟨rfl, rfl⟩
    · exact absurd (by rw [hn, ← hi]; exact nI_le (by omega) (by omega)) c_12
  | succ k ih =>
    intro i q hi hq
    have hr := (hB.2.2.2 i (by omega)).1
    have hk := (hPi i (by omega)).1
    refine x_iload_n dX0_alikeOnTray_4 rfl rfl ?_
    refine x_aload_n dX0_alikeOnTray_5 rfl rfl ?_
    refine gX0_27 dX0_alikeOnTray_6 rfl (by assumption) rfl ?_
    refine gX0_51 dX0_alikeOnTray_9 rfl (by assumption) rfl ?_
    refine x_icmp_ge (tgt := 47) dX0_alikeOnTray_12 (by decide) (fun c_12 => ?_) (fun c_12 => ?_)
    · exact absurd c_12 (by rw [hn]; exact nI_ge (by omega) (by omega))
    · refine x_aload_n dX0_alikeOnTray_15 rfl rfl ?_
      refine gX0_9 dX0_alikeOnTray_16 rfl (by assumption) rfl ?_
      refine x_iload_n dX0_alikeOnTray_19 rfl rfl ?_
      first | refine x_ialdN (by assumption) dX0_alikeOnTray_20 (by omega) (by decide) ?_ | refine x_iald (by assumption) dX0_alikeOnTray_20 (by assumption) ?_
      refine x_iconst (v := 2) dX0_alikeOnTray_21 (by decide) ?_
      refine x_icmp_ne (tgt := 41) dX0_alikeOnTray_22 (by decide) (fun c_22 => ?_) (fun c_22 => ?_)
      · first | refine x_inc1N (lv' := [(3, _), (2, _), (0, _), (1, _)]) dX0_alikeOnTray_41 rfl (by decide) rfl ?_ | refine x_iinc (v := _ + 1) (lv' := [(3, _), (2, _), (0, _), (1, _)]) dX0_alikeOnTray_41 rfl rfl (by decide) rfl ?_
        refine x_goto (tgt := 4) dX0_alikeOnTray_44 (by decide) ?_
        first
        | (rw [show q + cntU (fun g => (r (3 + g) == 2) && (P.2.2.2.1 g == x)) (k + 1) i = (q + 1) + cntU (fun g => (r (3 + g) == 2) && (P.2.2.2.1 g == x)) k (i + 1) from by rw [cntU, if_pos (by rw [Bool.and_eq_true, beq_iff_eq, beq_iff_eq, ← hr, ← hk]; exact ⟨c_22, c_35⟩)]; omega]; exact ih (i + 1) (q + 1) (by omega) (by omega))
        | (rw [show q + cntU (fun g => (r (3 + g) == 2) && (P.2.2.2.1 g == x)) (k + 1) i = q + cntU (fun g => (r (3 + g) == 2) && (P.2.2.2.1 g == x)) k (i + 1) from by rw [cntU, if_neg (by rw [Bool.and_eq_true, beq_iff_eq, beq_iff_eq, ← hr, ← hk]; exact fun z => c_22 z.1)]; omega]; exact ih (i + 1) q (by omega) (by omega))
        | (rw [show q + cntU (fun g => (r (3 + g) == 2) && (P.2.2.2.1 g == x)) (k + 1) i = q + cntU (fun g => (r (3 + g) == 2) && (P.2.2.2.1 g == x)) k (i + 1) from by rw [cntU, if_neg (by rw [Bool.and_eq_true, beq_iff_eq, beq_iff_eq, ← hr, ← hk]; exact fun z => c_35 z.2)]; omega]; exact ih (i + 1) q (by omega) (by omega))
      · refine x_aload_n dX0_alikeOnTray_25 rfl rfl ?_
        refine gX0_27 dX0_alikeOnTray_26 rfl (by assumption) rfl ?_
        refine gX0_54 dX0_alikeOnTray_29 rfl (by assumption) rfl ?_
        refine x_iload_n dX0_alikeOnTray_32 rfl rfl ?_
        first | refine x_ialdN (by assumption) dX0_alikeOnTray_33 (by omega) (by decide) ?_ | refine x_iald (by assumption) dX0_alikeOnTray_33 (by assumption) ?_
        refine x_iload_n dX0_alikeOnTray_34 rfl rfl ?_
        refine x_icmp_ne (tgt := 41) dX0_alikeOnTray_35 (by decide) (fun c_35 => ?_) (fun c_35 => ?_)
        · first | refine x_inc1N (lv' := [(3, _), (2, _), (0, _), (1, _)]) dX0_alikeOnTray_41 rfl (by decide) rfl ?_ | refine x_iinc (v := _ + 1) (lv' := [(3, _), (2, _), (0, _), (1, _)]) dX0_alikeOnTray_41 rfl rfl (by decide) rfl ?_
          refine x_goto (tgt := 4) dX0_alikeOnTray_44 (by decide) ?_
          first
          | (rw [show q + cntU (fun g => (r (3 + g) == 2) && (P.2.2.2.1 g == x)) (k + 1) i = (q + 1) + cntU (fun g => (r (3 + g) == 2) && (P.2.2.2.1 g == x)) k (i + 1) from by rw [cntU, if_pos (by rw [Bool.and_eq_true, beq_iff_eq, beq_iff_eq, ← hr, ← hk]; exact ⟨c_22, c_35⟩)]; omega]; exact ih (i + 1) (q + 1) (by omega) (by omega))
          | (rw [show q + cntU (fun g => (r (3 + g) == 2) && (P.2.2.2.1 g == x)) (k + 1) i = q + cntU (fun g => (r (3 + g) == 2) && (P.2.2.2.1 g == x)) k (i + 1) from by rw [cntU, if_neg (by rw [Bool.and_eq_true, beq_iff_eq, beq_iff_eq, ← hr, ← hk]; exact fun z => c_22 z.1)]; omega]; exact ih (i + 1) q (by omega) (by omega))
          | (rw [show q + cntU (fun g => (r (3 + g) == 2) && (P.2.2.2.1 g == x)) (k + 1) i = q + cntU (fun g => (r (3 + g) == 2) && (P.2.2.2.1 g == x)) k (i + 1) from by rw [cntU, if_neg (by rw [Bool.and_eq_true, beq_iff_eq, beq_iff_eq, ← hr, ← hk]; exact fun z => c_35 z.2)]; omega]; exact ih (i + 1) q (by omega) (by omega))
        · first | refine x_inc1N (lv' := [(2, _), (3, _), (0, _), (1, _)]) dX0_alikeOnTray_38 rfl (by decide) rfl ?_ | refine x_iinc (v := _ + 1) (lv' := [(2, _), (3, _), (0, _), (1, _)]) dX0_alikeOnTray_38 rfl rfl (by decide) rfl ?_
          first | refine x_inc1N (lv' := [(3, _), (2, _), (0, _), (1, _)]) dX0_alikeOnTray_41 rfl (by decide) rfl ?_ | refine x_iinc (v := _ + 1) (lv' := [(3, _), (2, _), (0, _), (1, _)]) dX0_alikeOnTray_41 rfl rfl (by decide) rfl ?_
          refine x_goto (tgt := 4) dX0_alikeOnTray_44 (by decide) ?_
          first
          | (rw [show q + cntU (fun g => (r (3 + g) == 2) && (P.2.2.2.1 g == x)) (k + 1) i = (q + 1) + cntU (fun g => (r (3 + g) == 2) && (P.2.2.2.1 g == x)) k (i + 1) from by rw [cntU, if_pos (by rw [Bool.and_eq_true, beq_iff_eq, beq_iff_eq, ← hr, ← hk]; exact ⟨c_22, c_35⟩)]; omega]; exact ih (i + 1) (q + 1) (by omega) (by omega))
          | (rw [show q + cntU (fun g => (r (3 + g) == 2) && (P.2.2.2.1 g == x)) (k + 1) i = q + cntU (fun g => (r (3 + g) == 2) && (P.2.2.2.1 g == x)) k (i + 1) from by rw [cntU, if_neg (by rw [Bool.and_eq_true, beq_iff_eq, beq_iff_eq, ← hr, ← hk]; exact fun z => c_22 z.1)]; omega]; exact ih (i + 1) q (by omega) (by omega))
          | (rw [show q + cntU (fun g => (r (3 + g) == 2) && (P.2.2.2.1 g == x)) (k + 1) i = q + cntU (fun g => (r (3 + g) == 2) && (P.2.2.2.1 g == x)) k (i + 1) from by rw [cntU, if_neg (by rw [Bool.and_eq_true, beq_iff_eq, beq_iff_eq, ← hr, ← hk]; exact fun z => c_35 z.2)]; omega]; exact ih (i + 1) q (by omega) (by omega))

set_option maxHeartbeats 1000000 in
set_option maxRecDepth 20000 in
theorem c_alikeOnTray {B : sB} {S : sSt} {c pl : Nat} {P : aP} {r : aR} {x : Int32} (hc : shB B c pl) (hp : shP B pl) (hP : rP S pl P) (hB : rB S c r) : CS B yX0_alikeOnTray cX0_alikeOnTray 4 (some .int) 1 [.ref (s_ad B c), .int x] S (qI (nI (cntU (fun g => (r (3 + g) == 2) && (P.2.2.2.1 g == x)) P.1 0)) S) := by
  refine cs_intro (lv := [(0, .ref (s_ad B c)), (1, .int x)]) rfl ?_
  refine x_iconst (v := 0) dX0_alikeOnTray_0 (by decide) ?_
  refine x_istore_n (lv' := [(2, _), (0, _), (1, _)]) dX0_alikeOnTray_1 rfl (by decide) rfl ?_
  refine x_iconst (v := 0) dX0_alikeOnTray_2 (by decide) ?_
  refine x_istore_n (lv' := [(3, _), (2, _), (0, _), (1, _)]) dX0_alikeOnTray_3 rfl (by decide) rfl ?_
  have h := l_alikeOnTray (x := x) hc hp hP hB P.1 0 0 (by omega) (Nat.le_refl 0)
  rw [Nat.zero_add] at h
  exact h

def oI (o : Option Nat) : Int32 := match o with
  | some j => nI j
  | none => -4

set_option maxHeartbeats 1000000 in
set_option maxRecDepth 20000 in
theorem l_eatenBy {B : sB} {S : sSt} {c pl : Nat} {P : aP} {r : aR} {x : Int32} (hc : shB B c pl) (hp : shP B pl) (hP : rP S pl P) (hB : rB S c r) :
    ∀ (k i : Nat), i + k = P.1 → WS B (fun _ => True) yX0_eatenBy cX0_eatenBy 3 (some .int) 1 2 [(2, .int (nI i)), (0, .ref (s_ad B c)), (1, .int x)] [] S (qI (oI (fndU (fun s => r (39 + s) == x) k i)) S) := by
  obtain ⟨hc0, hc1, hc2, hc3, hc4, hc5⟩ := hc
  obtain ⟨hp0, hp1, hp2, hp3⟩ := hp
  obtain ⟨hn9, hn, hlen, hmst, hPi⟩ := id hP
  intro k
  induction k with
  | zero =>
    intro i hi
    refine x_iload_n dX0_eatenBy_2 rfl rfl ?_
    refine x_aload_n dX0_eatenBy_3 rfl rfl ?_
    refine gX0_27 dX0_eatenBy_4 rfl (by assumption) rfl ?_
    refine gX0_51 dX0_eatenBy_7 rfl (by assumption) rfl ?_
    refine x_icmp_ge (tgt := 31) dX0_eatenBy_10 (by decide) (fun c_10 => ?_) (fun c_10 => ?_)
    · refine x_bipush (v := (-4)) dX0_eatenBy_31 (by decide) ?_
      refine x_ireturn dX0_eatenBy_33 rfl rfl ?_
      exact ⟨rfl, rfl⟩
    · exact absurd (by rw [hn, ← hi]; exact nI_le (by omega) (by omega)) c_10
  | succ k ih =>
    intro i hi
    have hr := (hB.2.2.2 i (by omega)).2.2.2.2
    refine x_iload_n dX0_eatenBy_2 rfl rfl ?_
    refine x_aload_n dX0_eatenBy_3 rfl rfl ?_
    refine gX0_27 dX0_eatenBy_4 rfl (by assumption) rfl ?_
    refine gX0_51 dX0_eatenBy_7 rfl (by assumption) rfl ?_
    refine x_icmp_ge (tgt := 31) dX0_eatenBy_10 (by decide) (fun c_10 => ?_) (fun c_10 => ?_)
    · exact absurd c_10 (by rw [hn]; exact nI_ge (by omega) (by omega))
    · refine x_aload_n dX0_eatenBy_13 rfl rfl ?_
      refine gX0_24 dX0_eatenBy_14 rfl (by assumption) rfl ?_
      refine x_iload_n dX0_eatenBy_17 rfl rfl ?_
      first | refine x_ialdN (by assumption) dX0_eatenBy_18 (by omega) (by decide) ?_ | refine x_iald (by assumption) dX0_eatenBy_18 (by assumption) ?_
      refine x_iload_n dX0_eatenBy_19 rfl rfl ?_
      refine x_icmp_ne (tgt := 25) dX0_eatenBy_20 (by decide) (fun c_20 => ?_) (fun c_20 => ?_)
      · first | refine x_inc1N (lv' := [(2, _), (0, _), (1, _)]) dX0_eatenBy_25 rfl (by decide) rfl ?_ | refine x_iinc (v := _ + 1) (lv' := [(2, _), (0, _), (1, _)]) dX0_eatenBy_25 rfl rfl (by decide) rfl ?_
        refine x_goto (tgt := 2) dX0_eatenBy_28 (by decide) ?_
        rw [fndU, if_neg (by rw [beq_iff_eq, ← hr]; exact c_20)]
        exact ih (i + 1) (by omega)
      · refine x_iload_n dX0_eatenBy_23 rfl rfl ?_
        refine x_ireturn dX0_eatenBy_24 rfl rfl ?_
        rw [fndU, if_pos (by rw [beq_iff_eq, ← hr]; exact c_20)]
        exact ⟨rfl, rfl⟩

set_option maxHeartbeats 1000000 in
set_option maxRecDepth 20000 in
theorem c_eatenBy {B : sB} {S : sSt} {c pl : Nat} {P : aP} {r : aR} {x : Int32} (hc : shB B c pl) (hp : shP B pl) (hP : rP S pl P) (hB : rB S c r) : CS B yX0_eatenBy cX0_eatenBy 3 (some .int) 1 [.ref (s_ad B c), .int x] S (qI (oI (fndU (fun s => r (39 + s) == x) P.1 0)) S) := by
  refine cs_intro (lv := [(0, .ref (s_ad B c)), (1, .int x)]) rfl ?_
  refine x_iconst (v := 0) dX0_eatenBy_0 (by decide) ?_
  refine x_istore_n (lv' := [(2, _), (0, _), (1, _)]) dX0_eatenBy_1 rfl (by decide) rfl ?_
  exact l_eatenBy (x := x) hc hp hP hB P.1 0 (by omega)

set_option maxHeartbeats 1000000 in
set_option maxRecDepth 20000 in
theorem c_isRight {B : sB} {S : sSt} {c pl : Nat} {P : aP} {r : aR} {g s : Nat} (hc : shB B c pl) (hp : shP B pl) (hP : rP S pl P) (hB : rB S c r) (hg : g < P.1) (hs : s < P.1) : CS B yX0_isRight cX0_isRight 3 (some .boolean) 2 [.ref (s_ad B c), .int (nI g), .int (nI s)] S (qI (bI (rgt P r g s = true)) S) := by
  refine cs_intro (lv := [(0, .ref (s_ad B c)), (1, .int (nI g)), (2, .int (nI s))]) rfl ?_
  obtain ⟨hc0, hc1, hc2, hc3, hc4, hc5⟩ := hc
  obtain ⟨hp0, hp1, hp2, hp3⟩ := hp
  obtain ⟨hn9, hn, hlen, hmst, hPi⟩ := id hP
  refine x_aload_n dX0_isRight_0 rfl rfl ?_
  refine gX0_21 dX0_isRight_1 rfl (by assumption) rfl ?_
  refine x_iload_n dX0_isRight_4 rfl rfl ?_
  first | refine x_ialdN (by assumption) dX0_isRight_5 (by omega) (by decide) ?_ | refine x_iald (by assumption) dX0_isRight_5 (by assumption) ?_
  refine x_aload_n dX0_isRight_6 rfl rfl ?_
  refine gX0_27 dX0_isRight_7 rfl (by assumption) rfl ?_
  refine gX0_57 dX0_isRight_10 rfl (by assumption) rfl ?_
  refine x_iload_n dX0_isRight_13 rfl rfl ?_
  first | refine x_ialdN (by assumption) dX0_isRight_14 (by omega) (by decide) ?_ | refine x_iald (by assumption) dX0_isRight_14 (by assumption) ?_
  refine x_aload_n dX0_isRight_15 rfl rfl ?_
  refine gX0_27 dX0_isRight_16 rfl (by assumption) rfl ?_
  refine gX0_60 dX0_isRight_19 rfl (by assumption) rfl ?_
  refine x_iload_n dX0_isRight_22 rfl rfl ?_
  first | refine x_ialdN (by assumption) dX0_isRight_23 (by omega) (by decide) ?_ | refine x_iald (by assumption) dX0_isRight_23 (by assumption) ?_
  refine kX0_63 dX0_isRight_24 rfl (c_within) (by decide) (Nat.le_of_ble_eq_true rfl) ?_
  refine x_ireturn dX0_isRight_27 rfl (by first | rfl | exact bI_nar _) ?_
  refine qI_of (bI_congr ?_) rfl
  rw [rgt, Bool.and_eq_true, decide_eq_true_eq, decide_eq_true_eq, (hB.2.2.2 s (by omega)).2.2.2.1, (hPi g hg).2.1, (hPi g hg).2.2]

set_option maxHeartbeats 1000000 in
set_option maxRecDepth 20000 in
theorem c_canGoIn {B : sB} {S : sSt} {c pl : Nat} {P : aP} {r : aR} {g : Nat} (hc : shB B c pl) (hp : shP B pl) (hP : rP S pl P) (hB : rB S c r) (hg : g < P.1) : CS B yX0_canGoIn cX0_canGoIn 2 (some .boolean) 1 [.ref (s_ad B c), .int (nI g)] S (qI (bI (loose r g = true)) S) := by
  refine cs_intro (lv := [(0, .ref (s_ad B c)), (1, .int (nI g))]) rfl ?_
  obtain ⟨hc0, hc1, hc2, hc3, hc4, hc5⟩ := hc
  obtain ⟨hp0, hp1, hp2, hp3⟩ := hp
  obtain ⟨hn9, hn, hlen, hmst, hPi⟩ := id hP
  have hr := (hB.2.2.2 g (by omega)).1
  refine x_aload_n dX0_canGoIn_0 rfl rfl ?_
  refine gX0_9 dX0_canGoIn_1 rfl (by assumption) rfl ?_
  refine x_iload_n dX0_canGoIn_4 rfl rfl ?_
  first | refine x_ialdN (by assumption) dX0_canGoIn_5 (by omega) (by decide) ?_ | refine x_iald (by assumption) dX0_canGoIn_5 (by assumption) ?_
  refine x_if_eq (tgt := 19) dX0_canGoIn_6 (by decide) (fun c_6 => ?_) (fun c_6 => ?_)
  · refine x_iconst (v := 1) dX0_canGoIn_19 (by decide) ?_
    refine x_goto (tgt := 24) dX0_canGoIn_20 (by decide) ?_
    refine x_ireturn dX0_canGoIn_24 rfl (by first | rfl | exact bI_nar _) ?_
    first
    | exact qI_of (bI_t (by rw [loose, Bool.or_eq_true, beq_iff_eq, beq_iff_eq, ← hr]; exact Or.inl c_6)) rfl
    | exact qI_of (bI_t (by rw [loose, Bool.or_eq_true, beq_iff_eq, beq_iff_eq, ← hr]; exact Or.inr c_16)) rfl
    | exact qI_of (bI_f (by rw [loose, Bool.or_eq_true, beq_iff_eq, beq_iff_eq, ← hr]; exact fun z => z.elim c_6 c_16)) rfl
  · refine x_aload_n dX0_canGoIn_9 rfl rfl ?_
    refine gX0_9 dX0_canGoIn_10 rfl (by assumption) rfl ?_
    refine x_iload_n dX0_canGoIn_13 rfl rfl ?_
    first | refine x_ialdN (by assumption) dX0_canGoIn_14 (by omega) (by decide) ?_ | refine x_iald (by assumption) dX0_canGoIn_14 (by assumption) ?_
    refine x_iconst (v := 2) dX0_canGoIn_15 (by decide) ?_
    refine x_icmp_ne (tgt := 23) dX0_canGoIn_16 (by decide) (fun c_16 => ?_) (fun c_16 => ?_)
    · refine x_iconst (v := 0) dX0_canGoIn_23 (by decide) ?_
      refine x_ireturn dX0_canGoIn_24 rfl (by first | rfl | exact bI_nar _) ?_
      first
      | exact qI_of (bI_t (by rw [loose, Bool.or_eq_true, beq_iff_eq, beq_iff_eq, ← hr]; exact Or.inl c_6)) rfl
      | exact qI_of (bI_t (by rw [loose, Bool.or_eq_true, beq_iff_eq, beq_iff_eq, ← hr]; exact Or.inr c_16)) rfl
      | exact qI_of (bI_f (by rw [loose, Bool.or_eq_true, beq_iff_eq, beq_iff_eq, ← hr]; exact fun z => z.elim c_6 c_16)) rfl
    · refine x_iconst (v := 1) dX0_canGoIn_19 (by decide) ?_
      refine x_goto (tgt := 24) dX0_canGoIn_20 (by decide) ?_
      refine x_ireturn dX0_canGoIn_24 rfl (by first | rfl | exact bI_nar _) ?_
      first
      | exact qI_of (bI_t (by rw [loose, Bool.or_eq_true, beq_iff_eq, beq_iff_eq, ← hr]; exact Or.inl c_6)) rfl
      | exact qI_of (bI_t (by rw [loose, Bool.or_eq_true, beq_iff_eq, beq_iff_eq, ← hr]; exact Or.inr c_16)) rfl
      | exact qI_of (bI_f (by rw [loose, Bool.or_eq_true, beq_iff_eq, beq_iff_eq, ← hr]; exact fun z => z.elim c_6 c_16)) rfl

set_option maxHeartbeats 1000000 in
set_option maxRecDepth 20000 in
theorem l_isFreeAtStart {B : sB} {S : sSt} {c pl : Nat} {P : aP} {r : aR} {x : Int32} (hc : shB B c pl) (hp : shP B pl) (hP : rP S pl P) (hB : rB S c r) :
    ∀ (k i : Nat), i + k = P.1 → WS B (fun _ => True) yX0_isFreeAtStart cX0_isFreeAtStart 3 (some .boolean) 1 2 [(2, .int (nI i)), (0, .ref (s_ad B c)), (1, .int x)] [] S (qI (bI ((fndU (fun g => (r (3 + g) == 1) && ((r (12 + g) == x) && (r (21 + g) == 0))) k i).isNone = true)) S) := by
  obtain ⟨hc0, hc1, hc2, hc3, hc4, hc5⟩ := hc
  obtain ⟨hp0, hp1, hp2, hp3⟩ := hp
  obtain ⟨hn9, hn, hlen, hmst, hPi⟩ := id hP
  intro k
  induction k with
  | zero =>
    intro i hi
    refine x_iload_n dX0_isFreeAtStart_2 rfl rfl ?_
    refine x_aload_n dX0_isFreeAtStart_3 rfl rfl ?_
    refine gX0_27 dX0_isFreeAtStart_4 rfl (by assumption) rfl ?_
    refine gX0_51 dX0_isFreeAtStart_7 rfl (by assumption) rfl ?_
    refine x_icmp_ge (tgt := 50) dX0_isFreeAtStart_10 (by decide) (fun c_10 => ?_) (fun c_10 => ?_)
    · refine x_iconst (v := 1) dX0_isFreeAtStart_50 (by decide) ?_
      refine x_ireturn dX0_isFreeAtStart_51 rfl (by first | rfl | exact bI_nar _) ?_
      exact ⟨rfl, rfl⟩
    · exact absurd (by rw [hn, ← hi]; exact nI_le (by omega) (by omega)) c_10
  | succ k ih =>
    intro i hi
    have hr := hB.2.2.2 i (by omega)
    refine x_iload_n dX0_isFreeAtStart_2 rfl rfl ?_
    refine x_aload_n dX0_isFreeAtStart_3 rfl rfl ?_
    refine gX0_27 dX0_isFreeAtStart_4 rfl (by assumption) rfl ?_
    refine gX0_51 dX0_isFreeAtStart_7 rfl (by assumption) rfl ?_
    refine x_icmp_ge (tgt := 50) dX0_isFreeAtStart_10 (by decide) (fun c_10 => ?_) (fun c_10 => ?_)
    · exact absurd c_10 (by rw [hn]; exact nI_ge (by omega) (by omega))
    · refine x_aload_n dX0_isFreeAtStart_13 rfl rfl ?_
      refine gX0_9 dX0_isFreeAtStart_14 rfl (by assumption) rfl ?_
      refine x_iload_n dX0_isFreeAtStart_17 rfl rfl ?_
      first | refine x_ialdN (by assumption) dX0_isFreeAtStart_18 (by omega) (by decide) ?_ | refine x_iald (by assumption) dX0_isFreeAtStart_18 (by assumption) ?_
      refine x_iconst (v := 1) dX0_isFreeAtStart_19 (by decide) ?_
      refine x_icmp_ne (tgt := 44) dX0_isFreeAtStart_20 (by decide) (fun c_20 => ?_) (fun c_20 => ?_)
      · first | refine x_inc1N (lv' := [(2, _), (0, _), (1, _)]) dX0_isFreeAtStart_44 rfl (by decide) rfl ?_ | refine x_iinc (v := _ + 1) (lv' := [(2, _), (0, _), (1, _)]) dX0_isFreeAtStart_44 rfl rfl (by decide) rfl ?_
        refine x_goto (tgt := 2) dX0_isFreeAtStart_47 (by decide) ?_
        first
        | (rw [fndU, if_neg (by rw [Bool.and_eq_true, Bool.and_eq_true, beq_iff_eq, beq_iff_eq, beq_iff_eq, ← hr.1, ← hr.2.1, ← hr.2.2.1]; exact fun z => c_20 z.1)]; exact ih (i + 1) (by omega))
        | (rw [fndU, if_neg (by rw [Bool.and_eq_true, Bool.and_eq_true, beq_iff_eq, beq_iff_eq, beq_iff_eq, ← hr.1, ← hr.2.1, ← hr.2.2.1]; exact fun z => c_30 z.2.1)]; exact ih (i + 1) (by omega))
        | (rw [fndU, if_neg (by rw [Bool.and_eq_true, Bool.and_eq_true, beq_iff_eq, beq_iff_eq, beq_iff_eq, ← hr.1, ← hr.2.1, ← hr.2.2.1]; exact fun z => c_39 z.2.2)]; exact ih (i + 1) (by omega))
      · refine x_aload_n dX0_isFreeAtStart_23 rfl rfl ?_
        refine gX0_15 dX0_isFreeAtStart_24 rfl (by assumption) rfl ?_
        refine x_iload_n dX0_isFreeAtStart_27 rfl rfl ?_
        first | refine x_ialdN (by assumption) dX0_isFreeAtStart_28 (by omega) (by decide) ?_ | refine x_iald (by assumption) dX0_isFreeAtStart_28 (by assumption) ?_
        refine x_iload_n dX0_isFreeAtStart_29 rfl rfl ?_
        refine x_icmp_ne (tgt := 44) dX0_isFreeAtStart_30 (by decide) (fun c_30 => ?_) (fun c_30 => ?_)
        · first | refine x_inc1N (lv' := [(2, _), (0, _), (1, _)]) dX0_isFreeAtStart_44 rfl (by decide) rfl ?_ | refine x_iinc (v := _ + 1) (lv' := [(2, _), (0, _), (1, _)]) dX0_isFreeAtStart_44 rfl rfl (by decide) rfl ?_
          refine x_goto (tgt := 2) dX0_isFreeAtStart_47 (by decide) ?_
          first
          | (rw [fndU, if_neg (by rw [Bool.and_eq_true, Bool.and_eq_true, beq_iff_eq, beq_iff_eq, beq_iff_eq, ← hr.1, ← hr.2.1, ← hr.2.2.1]; exact fun z => c_20 z.1)]; exact ih (i + 1) (by omega))
          | (rw [fndU, if_neg (by rw [Bool.and_eq_true, Bool.and_eq_true, beq_iff_eq, beq_iff_eq, beq_iff_eq, ← hr.1, ← hr.2.1, ← hr.2.2.1]; exact fun z => c_30 z.2.1)]; exact ih (i + 1) (by omega))
          | (rw [fndU, if_neg (by rw [Bool.and_eq_true, Bool.and_eq_true, beq_iff_eq, beq_iff_eq, beq_iff_eq, ← hr.1, ← hr.2.1, ← hr.2.2.1]; exact fun z => c_39 z.2.2)]; exact ih (i + 1) (by omega))
        · refine x_aload_n dX0_isFreeAtStart_33 rfl rfl ?_
          refine gX0_18 dX0_isFreeAtStart_34 rfl (by assumption) rfl ?_
          refine x_iload_n dX0_isFreeAtStart_37 rfl rfl ?_
          first | refine x_ialdN (by assumption) dX0_isFreeAtStart_38 (by omega) (by decide) ?_ | refine x_iald (by assumption) dX0_isFreeAtStart_38 (by assumption) ?_
          refine x_if_ne (tgt := 44) dX0_isFreeAtStart_39 (by decide) (fun c_39 => ?_) (fun c_39 => ?_)
          · first | refine x_inc1N (lv' := [(2, _), (0, _), (1, _)]) dX0_isFreeAtStart_44 rfl (by decide) rfl ?_ | refine x_iinc (v := _ + 1) (lv' := [(2, _), (0, _), (1, _)]) dX0_isFreeAtStart_44 rfl rfl (by decide) rfl ?_
            refine x_goto (tgt := 2) dX0_isFreeAtStart_47 (by decide) ?_
            first
            | (rw [fndU, if_neg (by rw [Bool.and_eq_true, Bool.and_eq_true, beq_iff_eq, beq_iff_eq, beq_iff_eq, ← hr.1, ← hr.2.1, ← hr.2.2.1]; exact fun z => c_20 z.1)]; exact ih (i + 1) (by omega))
            | (rw [fndU, if_neg (by rw [Bool.and_eq_true, Bool.and_eq_true, beq_iff_eq, beq_iff_eq, beq_iff_eq, ← hr.1, ← hr.2.1, ← hr.2.2.1]; exact fun z => c_30 z.2.1)]; exact ih (i + 1) (by omega))
            | (rw [fndU, if_neg (by rw [Bool.and_eq_true, Bool.and_eq_true, beq_iff_eq, beq_iff_eq, beq_iff_eq, ← hr.1, ← hr.2.1, ← hr.2.2.1]; exact fun z => c_39 z.2.2)]; exact ih (i + 1) (by omega))
          · refine x_iconst (v := 0) dX0_isFreeAtStart_42 (by decide) ?_
            refine x_ireturn dX0_isFreeAtStart_43 rfl (by first | rfl | exact bI_nar _) ?_
            rw [fndU, if_pos (by rw [Bool.and_eq_true, Bool.and_eq_true, beq_iff_eq, beq_iff_eq, beq_iff_eq, ← hr.1, ← hr.2.1, ← hr.2.2.1]; exact ⟨c_20, c_30, c_39⟩)]
            exact ⟨rfl, rfl⟩

set_option maxHeartbeats 1000000 in
set_option maxRecDepth 20000 in
theorem c_isFreeAtStart {B : sB} {S : sSt} {c pl : Nat} {P : aP} {r : aR} {x : Int32} (hc : shB B c pl) (hp : shP B pl) (hP : rP S pl P) (hB : rB S c r) : CS B yX0_isFreeAtStart cX0_isFreeAtStart 3 (some .boolean) 1 [.ref (s_ad B c), .int x] S (qI (bI (freeL P r x = true)) S) := by
  refine cs_intro (lv := [(0, .ref (s_ad B c)), (1, .int x)]) rfl ?_
  refine x_iconst (v := 0) dX0_isFreeAtStart_0 (by decide) ?_
  refine x_istore_n (lv' := [(2, _), (0, _), (1, _)]) dX0_isFreeAtStart_1 rfl (by decide) rfl ?_
  exact l_isFreeAtStart (x := x) hc hp hP hB P.1 0 (by omega)
end
section
set_option maxHeartbeats 1000000 in
set_option maxRecDepth 20000 in
theorem c_setAtStart {B : sB} {S : sSt} {c pl g : Nat} {r : aR} {x : Int32} (hc : shB B c pl) (hB : rB S c r) (hg : g < 9) : CS B yX0_setAtStart cX0_setAtStart 3 none 1 [.ref (s_ad B c), .int (nI g), .int x] S (qB S c (putF r g x)) := by
  refine cs_intro (lv := [(0, .ref (s_ad B c)), (1, .int (nI g)), (2, .int x)]) rfl ?_
  obtain ⟨hc0, hc1, hc2, hc3, hc4, hc5⟩ := hc
  refine x_aload_n dX0_setAtStart_0 rfl rfl ?_
  refine gX0_9 dX0_setAtStart_1 rfl (by assumption) rfl ?_
  refine x_iload_n dX0_setAtStart_4 rfl rfl ?_
  refine x_iconst (v := 1) dX0_setAtStart_5 (by decide) ?_
  first | refine x_iastN (by assumption) dX0_setAtStart_6 (by omega) (by decide) ?_ | refine x_iast (by assumption) dX0_setAtStart_6 (by assumption) ?_
  refine x_aload_n dX0_setAtStart_7 rfl rfl ?_
  refine gX0_15 dX0_setAtStart_8 rfl (by assumption) rfl ?_
  refine x_iload_n dX0_setAtStart_11 rfl rfl ?_
  refine x_iload_n dX0_setAtStart_12 rfl rfl ?_
  first | refine x_iastN (by assumption) dX0_setAtStart_13 (by omega) (by decide) ?_ | refine x_iast (by assumption) dX0_setAtStart_13 (by assumption) ?_
  refine x_aload_n dX0_setAtStart_14 rfl rfl ?_
  refine gX0_18 dX0_setAtStart_15 rfl (by assumption) rfl ?_
  refine x_iload_n dX0_setAtStart_18 rfl rfl ?_
  refine x_iconst (v := 0) dX0_setAtStart_19 (by decide) ?_
  first | refine x_iastN (by assumption) dX0_setAtStart_20 (by omega) (by decide) ?_ | refine x_iast (by assumption) dX0_setAtStart_20 (by assumption) ?_
  refine x_return dX0_setAtStart_21 rfl ?_
  exact ⟨rfl, chB_p (chB_l (chB_w (chB_rfl hB) hg) hg) hg⟩

set_option maxHeartbeats 1000000 in
set_option maxRecDepth 20000 in
theorem c_eat {B : sB} {S : sSt} {c pl g s : Nat} {r : aR} (hc : shB B c pl) (hB : rB S c r) (hs : s < 9) : CS B yX0_eat cX0_eat 3 none 1 [.ref (s_ad B c), .int (nI g), .int (nI s)] S (qB S c (eatF r g s)) := by
  refine cs_intro (lv := [(0, .ref (s_ad B c)), (1, .int (nI g)), (2, .int (nI s))]) rfl ?_
  obtain ⟨hc0, hc1, hc2, hc3, hc4, hc5⟩ := hc
  refine x_aload_n dX0_eat_0 rfl rfl ?_
  refine gX0_9 dX0_eat_1 rfl (by assumption) rfl ?_
  refine x_iload_n dX0_eat_4 rfl rfl ?_
  refine x_iconst (v := 3) dX0_eat_5 (by decide) ?_
  first | refine x_iastN (by assumption) dX0_eat_6 (by omega) (by decide) ?_ | refine x_iast (by assumption) dX0_eat_6 (by assumption) ?_
  refine x_aload_n dX0_eat_7 rfl rfl ?_
  refine gX0_24 dX0_eat_8 rfl (by assumption) rfl ?_
  refine x_iload_n dX0_eat_11 rfl rfl ?_
  refine x_iload_n dX0_eat_12 rfl rfl ?_
  first | refine x_iastN (by assumption) dX0_eat_13 (by omega) (by decide) ?_ | refine x_iast (by assumption) dX0_eat_13 (by assumption) ?_
  refine x_return dX0_eat_14 rfl ?_
  exact ⟨rfl, chB_e (chB_w (chB_rfl hB) hs) hs⟩

theorem oI_none {o : Option Nat} {n : Nat} (hn : n < 2 ^ 31) (h : ∀ j, o = some j → j < n) : oI o = -4 ↔ o.isNone = true := by
  cases o with
  | none => simp [oI]
  | some j =>
    have hj := h j rfl
    simp only [oI, Option.isNone_some]
    constructor
    · intro q
      have := congrArg Int32.toInt q
      rw [nI_toInt (by omega)] at this
      have e : (-4 : Int32).toInt = -4 := by decide
      omega
    · intro q; cases q
theorem fndU_lt {f : Nat → Bool} : ∀ {k i j : Nat}, fndU f k i = some j → i ≤ j ∧ j < i + k ∧ f j = true := by
  intro k; induction k with
  | zero => intro i j h; cases h
  | succ k ih =>
    intro i j h
    rw [fndU] at h
    split at h
    · rename_i hf; cases h; exact ⟨Nat.le_refl _, by omega, hf⟩
    · obtain ⟨h1, h2, h3⟩ := ih h; exact ⟨by omega, by omega, h3⟩
theorem fndU_none {f : Nat → Bool} : ∀ {k i : Nat}, fndU f k i = none → ∀ j, i ≤ j → j < i + k → f j = false := by
  intro k; induction k with
  | zero => intro i h j h1 h2; omega
  | succ k ih =>
    intro i h j h1 h2
    rw [fndU] at h
    split at h
    · cases h
    · rename_i hf
      by_cases e : j = i
      · subst e; exact Bool.eq_false_iff.mpr hf
      · exact ih h j (by omega) (by omega)

set_option maxHeartbeats 1000000 in
set_option maxRecDepth 20000 in
theorem c_mayEat {B : sB} {S : sSt} {c pl : Nat} {P : aP} {r : aR} {g s : Nat} (hc : shB B c pl) (hp : shP B pl) (hP : rP S pl P) (hB : rB S c r) (hg : g < P.1) (hs : s < P.1) : CS B yX0_mayEat cX0_mayEat 3 (some .boolean) 2 [.ref (s_ad B c), .int (nI g), .int (nI s)] S (qI (bI (canT P r g s = true)) S) := by
  refine cs_intro (lv := [(0, .ref (s_ad B c)), (1, .int (nI g)), (2, .int (nI s))]) rfl ?_
  have hct := c_eatenBy (x := nI g) hc hp hP hB
  obtain ⟨hc0, hc1, hc2, hc3, hc4, hc5⟩ := hc
  obtain ⟨hp0, hp1, hp2, hp3⟩ := hp
  obtain ⟨hn9, hn, hlen, hmst, hPi⟩ := id hP
  have hr := (hB.2.2.2 s (by omega)).1
  have hk1 := (hPi s hs).1
  have hk2 := (hPi g hg).1
  have ho : oI (fndU (fun s => r (39 + s) == nI g) P.1 0) = -4 ↔ (etn P r g).isNone = true := oI_none (n := P.1) (by omega) (fun j hj => by have := fndU_lt hj; omega)
  refine x_aload_n dX0_mayEat_0 rfl rfl ?_
  refine gX0_9 dX0_mayEat_1 rfl (by assumption) rfl ?_
  refine x_iload_n dX0_mayEat_4 rfl rfl ?_
  first | refine x_ialdN (by assumption) dX0_mayEat_5 (by omega) (by decide) ?_ | refine x_iald (by assumption) dX0_mayEat_5 (by assumption) ?_
  refine x_iconst (v := 2) dX0_mayEat_6 (by decide) ?_
  refine x_icmp_ne (tgt := 45) dX0_mayEat_7 (by decide) (fun c_7 => ?_) (fun c_7 => ?_)
  · refine x_iconst (v := 0) dX0_mayEat_45 (by decide) ?_
    refine x_ireturn dX0_mayEat_46 rfl (by first | rfl | exact bI_nar _) ?_
    first
    | exact qI_of (bI_f (by rw [canT, Bool.and_eq_true, Bool.and_eq_true, beq_iff_eq, beq_iff_eq, ← hr, ← hk1, ← hk2]; exact fun z => c_7 z.1)) rfl
    | exact qI_of (bI_f (by rw [canT, Bool.and_eq_true, Bool.and_eq_true, beq_iff_eq, beq_iff_eq, ← hr, ← hk1, ← hk2]; exact fun z => c_28 z.2.1)) rfl
    | exact qI_of (bI_f (by rw [canT, Bool.and_eq_true, Bool.and_eq_true, beq_iff_eq, beq_iff_eq, ← hr, ← hk1, ← hk2]; exact fun z => c_38 (ho.mpr z.2.2))) rfl
    | exact qI_of (bI_t (by rw [canT, Bool.and_eq_true, Bool.and_eq_true, beq_iff_eq, beq_iff_eq, ← hr, ← hk1, ← hk2]; exact ⟨c_7, c_28, ho.mp c_38⟩)) rfl
  · refine x_aload_n dX0_mayEat_10 rfl rfl ?_
    refine gX0_27 dX0_mayEat_11 rfl (by assumption) rfl ?_
    refine gX0_54 dX0_mayEat_14 rfl (by assumption) rfl ?_
    refine x_iload_n dX0_mayEat_17 rfl rfl ?_
    first | refine x_ialdN (by assumption) dX0_mayEat_18 (by omega) (by decide) ?_ | refine x_iald (by assumption) dX0_mayEat_18 (by assumption) ?_
    refine x_aload_n dX0_mayEat_19 rfl rfl ?_
    refine gX0_27 dX0_mayEat_20 rfl (by assumption) rfl ?_
    refine gX0_54 dX0_mayEat_23 rfl (by assumption) rfl ?_
    refine x_iload_n dX0_mayEat_26 rfl rfl ?_
    first | refine x_ialdN (by assumption) dX0_mayEat_27 (by omega) (by decide) ?_ | refine x_iald (by assumption) dX0_mayEat_27 (by assumption) ?_
    refine x_icmp_ne (tgt := 45) dX0_mayEat_28 (by decide) (fun c_28 => ?_) (fun c_28 => ?_)
    · refine x_iconst (v := 0) dX0_mayEat_45 (by decide) ?_
      refine x_ireturn dX0_mayEat_46 rfl (by first | rfl | exact bI_nar _) ?_
      first
      | exact qI_of (bI_f (by rw [canT, Bool.and_eq_true, Bool.and_eq_true, beq_iff_eq, beq_iff_eq, ← hr, ← hk1, ← hk2]; exact fun z => c_7 z.1)) rfl
      | exact qI_of (bI_f (by rw [canT, Bool.and_eq_true, Bool.and_eq_true, beq_iff_eq, beq_iff_eq, ← hr, ← hk1, ← hk2]; exact fun z => c_28 z.2.1)) rfl
      | exact qI_of (bI_f (by rw [canT, Bool.and_eq_true, Bool.and_eq_true, beq_iff_eq, beq_iff_eq, ← hr, ← hk1, ← hk2]; exact fun z => c_38 (ho.mpr z.2.2))) rfl
      | exact qI_of (bI_t (by rw [canT, Bool.and_eq_true, Bool.and_eq_true, beq_iff_eq, beq_iff_eq, ← hr, ← hk1, ← hk2]; exact ⟨c_7, c_28, ho.mp c_38⟩)) rfl
    · refine x_aload_n dX0_mayEat_31 rfl rfl ?_
      refine x_iload_n dX0_mayEat_32 rfl rfl ?_
      refine kX0_67 dX0_mayEat_33 rfl (by assumption) (hct) (by decide) (Nat.le_of_ble_eq_true rfl) ?_
      refine x_bipush (v := (-4)) dX0_mayEat_36 (by decide) ?_
      refine x_icmp_ne (tgt := 45) dX0_mayEat_38 (by decide) (fun c_38 => ?_) (fun c_38 => ?_)
      · refine x_iconst (v := 0) dX0_mayEat_45 (by decide) ?_
        refine x_ireturn dX0_mayEat_46 rfl (by first | rfl | exact bI_nar _) ?_
        first
        | exact qI_of (bI_f (by rw [canT, Bool.and_eq_true, Bool.and_eq_true, beq_iff_eq, beq_iff_eq, ← hr, ← hk1, ← hk2]; exact fun z => c_7 z.1)) rfl
        | exact qI_of (bI_f (by rw [canT, Bool.and_eq_true, Bool.and_eq_true, beq_iff_eq, beq_iff_eq, ← hr, ← hk1, ← hk2]; exact fun z => c_28 z.2.1)) rfl
        | exact qI_of (bI_f (by rw [canT, Bool.and_eq_true, Bool.and_eq_true, beq_iff_eq, beq_iff_eq, ← hr, ← hk1, ← hk2]; exact fun z => c_38 (ho.mpr z.2.2))) rfl
        | exact qI_of (bI_t (by rw [canT, Bool.and_eq_true, Bool.and_eq_true, beq_iff_eq, beq_iff_eq, ← hr, ← hk1, ← hk2]; exact ⟨c_7, c_28, ho.mp c_38⟩)) rfl
      · refine x_iconst (v := 1) dX0_mayEat_41 (by decide) ?_
        refine x_goto (tgt := 46) dX0_mayEat_42 (by decide) ?_
        refine x_ireturn dX0_mayEat_46 rfl (by first | rfl | exact bI_nar _) ?_
        first
        | exact qI_of (bI_f (by rw [canT, Bool.and_eq_true, Bool.and_eq_true, beq_iff_eq, beq_iff_eq, ← hr, ← hk1, ← hk2]; exact fun z => c_7 z.1)) rfl
        | exact qI_of (bI_f (by rw [canT, Bool.and_eq_true, Bool.and_eq_true, beq_iff_eq, beq_iff_eq, ← hr, ← hk1, ← hk2]; exact fun z => c_28 z.2.1)) rfl
        | exact qI_of (bI_f (by rw [canT, Bool.and_eq_true, Bool.and_eq_true, beq_iff_eq, beq_iff_eq, ← hr, ← hk1, ← hk2]; exact fun z => c_38 (ho.mpr z.2.2))) rfl
        | exact qI_of (bI_t (by rw [canT, Bool.and_eq_true, Bool.and_eq_true, beq_iff_eq, beq_iff_eq, ← hr, ← hk1, ← hk2]; exact ⟨c_7, c_28, ho.mp c_38⟩)) rfl

set_option maxHeartbeats 1000000 in
set_option maxRecDepth 20000 in
theorem c_browning {B : sB} {S : sSt} {k ln h : Int32} (hk : 0 ≤ k.toInt ∧ k.toInt ≤ 3) (hh : 0 ≤ h.toInt ∧ h.toInt ≤ 30) : CS B yX6_browning cX6_browning 4 (some .int) 1 [.int k, .int ln, .int h] S (qI (brwF k (h + (if ln = 0 then 2 else 0))) S) := by
  refine cs_intro (lv := [(0, .int k), (1, .int ln), (2, .int h)]) rfl ?_
  refine x_iload_n dX6_browning_0 rfl rfl ?_
  refine x_if_ne (tgt := 10) dX6_browning_1 (by decide) (fun c_1 => ?_) (fun c_1 => ?_)
  · refine x_iload_n dX6_browning_10 rfl rfl ?_
    first
    | refine x_re (b := h + (if ln = 0 then 2 else 0)) (by rw [if_pos c_1]) ?_
    | refine x_re (b := h + (if ln = 0 then 2 else 0)) (by rw [if_neg c_1]; exact (Int32.add_zero _).symm) ?_
    generalize hf : h + (if ln = 0 then 2 else 0) = fe
    refine x_istore_n (lv' := [(3, _), (0, _), (1, _), (2, _)]) dX6_browning_11 rfl (by decide) rfl ?_
    refine x_iload_n dX6_browning_12 rfl rfl ?_
    by_cases w_1 : k = 1
    · refine x_tableIn (tgt := 40) dX6_browning_13 (by rw [w_1]; decide) (by rw [w_1]; decide) (by rw [w_1]; rfl) (by decide) ?_
      refine x_iload_n dX6_browning_40 rfl rfl ?_
      refine x_iconst (v := 2) dX6_browning_41 (by decide) ?_
      refine x_idiv dX6_browning_42 (by decide) ?_
      refine x_ireturn dX6_browning_43 rfl rfl ?_
      refine qI_of ?_ rfl
      rw [w_1, brwF, if_neg (by decide), if_pos rfl]
    by_cases w_2 : k = 2
    · refine x_tableIn (tgt := 44) dX6_browning_13 (by rw [w_2]; decide) (by rw [w_2]; decide) (by rw [w_2]; rfl) (by decide) ?_
      refine x_iconst (v := 0) dX6_browning_44 (by decide) ?_
      refine x_iload_n dX6_browning_45 rfl rfl ?_
      refine x_iconst (v := 3) dX6_browning_46 (by decide) ?_
      refine x_isub dX6_browning_47 ?_
      refine kX6_226 dX6_browning_48 rfl (by decide) (Nat.le_of_ble_eq_true rfl) ?_
      refine x_ireturn dX6_browning_51 rfl rfl ?_
      refine qI_of ?_ rfl
      rw [w_2, show brwF 2 fe = (if fe < 3 then 0 else fe - 3) from by rw [brwF, if_neg (by decide), if_neg (by decide), if_pos rfl]]
      rw [← hf]
      exact brw_cl (k := k) hh
    by_cases w_3 : k = 3
    · refine x_tableIn (tgt := 52) dX6_browning_13 (by rw [w_3]; decide) (by rw [w_3]; decide) (by rw [w_3]; rfl) (by decide) ?_
      refine x_iconst (v := 2) dX6_browning_52 (by decide) ?_
      refine x_iload_n dX6_browning_53 rfl rfl ?_
      refine x_imul dX6_browning_54 ?_
      refine x_ireturn dX6_browning_55 rfl rfl ?_
      refine qI_of ?_ rfl
      rw [w_3, brwF, if_neg (by decide), if_neg (by decide), if_neg (by decide)]
    refine x_tableOut (tgt := 56) dX6_browning_13 (by have z0 := sw_ne (n := 1) (by decide) w_1; have z1 := sw_ne (n := 2) (by decide) w_2; have z2 := sw_ne (n := 3) (by decide) w_3; omega) (by decide) ?_
    refine x_iload_n dX6_browning_56 rfl rfl ?_
    refine x_ireturn dX6_browning_57 rfl rfl ?_
    refine qI_of ?_ rfl
    have z1 := sw_ne (n := 1) (by decide) w_1
    have z2 := sw_ne (n := 2) (by decide) w_2
    have z3 := sw_ne (n := 3) (by decide) w_3
    have : k = 0 := Int32.toInt_inj.mp (by show k.toInt = 0; omega)
    rw [this, brwF, if_pos rfl]
  · refine x_iload_n dX6_browning_4 rfl rfl ?_
    refine x_iconst (v := 2) dX6_browning_5 (by decide) ?_
    refine x_iadd dX6_browning_6 ?_
    refine x_goto (tgt := 11) dX6_browning_7 (by decide) ?_
    first
    | refine x_re (b := h + (if ln = 0 then 2 else 0)) (by rw [if_pos c_1]) ?_
    | refine x_re (b := h + (if ln = 0 then 2 else 0)) (by rw [if_neg c_1]; exact (Int32.add_zero _).symm) ?_
    generalize hf : h + (if ln = 0 then 2 else 0) = fe
    refine x_istore_n (lv' := [(3, _), (0, _), (1, _), (2, _)]) dX6_browning_11 rfl (by decide) rfl ?_
    refine x_iload_n dX6_browning_12 rfl rfl ?_
    by_cases w_1 : k = 1
    · refine x_tableIn (tgt := 40) dX6_browning_13 (by rw [w_1]; decide) (by rw [w_1]; decide) (by rw [w_1]; rfl) (by decide) ?_
      refine x_iload_n dX6_browning_40 rfl rfl ?_
      refine x_iconst (v := 2) dX6_browning_41 (by decide) ?_
      refine x_idiv dX6_browning_42 (by decide) ?_
      refine x_ireturn dX6_browning_43 rfl rfl ?_
      refine qI_of ?_ rfl
      rw [w_1, brwF, if_neg (by decide), if_pos rfl]
    by_cases w_2 : k = 2
    · refine x_tableIn (tgt := 44) dX6_browning_13 (by rw [w_2]; decide) (by rw [w_2]; decide) (by rw [w_2]; rfl) (by decide) ?_
      refine x_iconst (v := 0) dX6_browning_44 (by decide) ?_
      refine x_iload_n dX6_browning_45 rfl rfl ?_
      refine x_iconst (v := 3) dX6_browning_46 (by decide) ?_
      refine x_isub dX6_browning_47 ?_
      refine kX6_226 dX6_browning_48 rfl (by decide) (Nat.le_of_ble_eq_true rfl) ?_
      refine x_ireturn dX6_browning_51 rfl rfl ?_
      refine qI_of ?_ rfl
      rw [w_2, show brwF 2 fe = (if fe < 3 then 0 else fe - 3) from by rw [brwF, if_neg (by decide), if_neg (by decide), if_pos rfl]]
      rw [← hf]
      exact brw_cl (k := k) hh
    by_cases w_3 : k = 3
    · refine x_tableIn (tgt := 52) dX6_browning_13 (by rw [w_3]; decide) (by rw [w_3]; decide) (by rw [w_3]; rfl) (by decide) ?_
      refine x_iconst (v := 2) dX6_browning_52 (by decide) ?_
      refine x_iload_n dX6_browning_53 rfl rfl ?_
      refine x_imul dX6_browning_54 ?_
      refine x_ireturn dX6_browning_55 rfl rfl ?_
      refine qI_of ?_ rfl
      rw [w_3, brwF, if_neg (by decide), if_neg (by decide), if_neg (by decide)]
    refine x_tableOut (tgt := 56) dX6_browning_13 (by have z0 := sw_ne (n := 1) (by decide) w_1; have z1 := sw_ne (n := 2) (by decide) w_2; have z2 := sw_ne (n := 3) (by decide) w_3; omega) (by decide) ?_
    refine x_iload_n dX6_browning_56 rfl rfl ?_
    refine x_ireturn dX6_browning_57 rfl rfl ?_
    refine qI_of ?_ rfl
    have z1 := sw_ne (n := 1) (by decide) w_1
    have z2 := sw_ne (n := 2) (by decide) w_2
    have z3 := sw_ne (n := 3) (by decide) w_3
    have : k = 0 := Int32.toInt_inj.mp (by show k.toInt = 0; omega)
    rw [this, brwF, if_pos rfl]

set_option maxHeartbeats 1000000 in
set_option maxRecDepth 20000 in
theorem c_carry {B : sB} {S : sSt} {c pl : Nat} {P : aP} {r : aR} {g : Nat} (hc : shB B c pl) (hp : shP B pl) (hP : rP S pl P) (hB : rB S c r) (hlt : pl + 4 ≤ c) (hiP : iP P) (hg : g < P.1) (h1 : r (3 + g) = 1) (hh : 0 ≤ (r 1).toInt ∧ (r 1).toInt ≤ 30) : CS B yX0_carry cX0_carry 2 none 2 [.ref (s_ad B c), .int (nI g)] S (qB S c (carF P r g)) := by
  refine cs_intro (lv := [(0, .ref (s_ad B c)), (1, .int (nI g))]) rfl ?_
  obtain ⟨hc0, hc1, hc2, hc3, hc4, hc5⟩ := hc
  obtain ⟨hp0, hp1, hp2, hp3⟩ := hp
  obtain ⟨hn9, hn, hlen, hmst, hPi⟩ := id hP
  obtain ⟨e0, e1, e2, e3⟩ := id hB
  obtain ⟨f1, f2, f3, f4, f5⟩ := e3 g (by omega)
  have hkk := hiP.2.2.2.2 g hg
  have fk := (hPi g hg).1
  refine x_aload_n dX0_carry_0 rfl rfl ?_
  refine gX0_21 dX0_carry_1 rfl (by assumption) rfl ?_
  refine x_iload_n dX0_carry_4 rfl rfl ?_
  refine x_dup2 dX0_carry_5 rfl rfl ?_
  first | refine x_ialdN (by assumption) dX0_carry_6 (by omega) (by decide) ?_ | refine x_iald (by assumption) dX0_carry_6 (by assumption) ?_
  refine x_aload_n dX0_carry_7 rfl rfl ?_
  refine gX0_27 dX0_carry_8 rfl (by assumption) rfl ?_
  refine gX0_54 dX0_carry_11 rfl (by assumption) rfl ?_
  refine x_iload_n dX0_carry_14 rfl rfl ?_
  first | refine x_ialdN (by assumption) dX0_carry_15 (by omega) (by decide) ?_ | refine x_iald (by assumption) dX0_carry_15 (by assumption) ?_
  refine x_aload_n dX0_carry_16 rfl rfl ?_
  refine gX0_15 dX0_carry_17 rfl (by assumption) rfl ?_
  refine x_iload_n dX0_carry_20 rfl rfl ?_
  first | refine x_ialdN (by assumption) dX0_carry_21 (by omega) (by decide) ?_ | refine x_iald (by assumption) dX0_carry_21 (by assumption) ?_
  refine x_aload_n dX0_carry_22 rfl rfl ?_
  refine gX0_41 dX0_carry_23 rfl (by assumption) rfl ?_
  refine kX0_87 dX0_carry_26 rfl (c_browning (by rw [fk]; exact hkk) (by rw [e1]; exact hh)) (by decide) (Nat.le_of_ble_eq_true rfl) ?_
  refine x_iadd dX0_carry_29 ?_
  first | refine x_iastN (by assumption) dX0_carry_30 (by omega) (by decide) ?_ | refine x_iast (by assumption) dX0_carry_30 (by assumption) ?_
  refine x_gen (Pz := fun S' => chB S S' c _) (chB_b (chB_rfl hB) (by omega)) (fun S1 H1 => ?_)
  have hP1 := rP_ch H1 hlt hP
  refine x_aload_n dX0_carry_31 rfl rfl ?_
  refine gX0_18 dX0_carry_32 rfl (by assumption) rfl ?_
  refine x_iload_n dX0_carry_35 rfl rfl ?_
  refine x_dup2 dX0_carry_36 rfl rfl ?_
  first | refine x_ialdN (by assumption) dX0_carry_37 (by omega) (by decide) ?_ | refine x_iald (by assumption) dX0_carry_37 (by assumption) ?_
  refine x_aload_n dX0_carry_38 rfl rfl ?_
  refine gX0_37 dX0_carry_39 rfl (by assumption) rfl ?_
  refine x_iadd dX0_carry_42 ?_
  first | refine x_iastN (by assumption) dX0_carry_43 (by omega) (by decide) ?_ | refine x_iast (by assumption) dX0_carry_43 (by assumption) ?_
  refine x_gen (Pz := fun S' => chB S S' c _) (chB_p H1 (by omega)) (fun S2 H2 => ?_)
  have hP2 := rP_ch H2 hlt hP
  refine x_aload_n dX0_carry_44 rfl rfl ?_
  refine gX0_18 dX0_carry_45 rfl (by assumption) rfl ?_
  refine x_iload_n dX0_carry_48 rfl rfl ?_
  first | refine x_ialdN (by assumption) dX0_carry_49 (by omega) (by decide) ?_ | refine x_iald (by assumption) dX0_carry_49 (by assumption) ?_
  refine x_aload_n dX0_carry_50 rfl rfl ?_
  refine gX0_27 dX0_carry_51 rfl (by assumption) rfl ?_
  refine gX0_91 dX0_carry_54 rfl (by assumption) rfl ?_
  have q0 : S1 c 1 = r 0 := by rw [H1.1.1, upd_ne (by omega)]
  have q1 : S1 (c + 3) g = r (21 + g) := by rw [(H1.1.2.2.2 g (by omega)).2.2.1, upd_ne (by omega)]
  have q2 : S2 (c + 3) g = r (21 + g) + r 0 := by rw [(H2.1.2.2.2 g (by omega)).2.2.1, upd_eq, q0, q1]
  have q3 : S2 pl 0 = P.2.1 := hP2.2.2.1
  have q4 : S (c + 4) g + brwF (S (pl + 1) g) (S c 2 + (if S (c + 2) g = 0 then 2 else 0)) = r (30 + g) + brwF (P.2.2.2.1 g) (r 1 + (if r (12 + g) = 0 then 2 else 0)) := by rw [f4, fk, e1, f2]
  rw [q0, q1, q4] at H2
  rw [q2, q3]
  refine x_icmp_lt (tgt := 67) dX0_carry_57 (by decide) (fun c_57 => ?_) (fun c_57 => ?_)
  · refine x_return dX0_carry_67 rfl ?_
    first
    | (refine ⟨rfl, ?_⟩; rw [carF, if_pos h1, if_neg (by rw [Int32.not_le]; exact c_57)]; exact H2)
    | (refine ⟨rfl, ?_⟩; rw [carF, if_pos h1, if_pos (by rw [← Int32.not_lt]; exact c_57)]; exact chB_w H2 (by omega))
  · refine x_aload_n dX0_carry_60 rfl rfl ?_
    refine gX0_9 dX0_carry_61 rfl (by assumption) rfl ?_
    refine x_iload_n dX0_carry_64 rfl rfl ?_
    refine x_iconst (v := 2) dX0_carry_65 (by decide) ?_
    first | refine x_iastN (by assumption) dX0_carry_66 (by omega) (by decide) ?_ | refine x_iast (by assumption) dX0_carry_66 (by assumption) ?_
    refine x_return dX0_carry_67 rfl ?_
    first
    | (refine ⟨rfl, ?_⟩; rw [carF, if_pos h1, if_neg (by rw [Int32.not_le]; exact c_57)]; exact H2)
    | (refine ⟨rfl, ?_⟩; rw [carF, if_pos h1, if_pos (by rw [← Int32.not_lt]; exact c_57)]; exact chB_w H2 (by omega))

def endF (P : aP) (on : Nat) (r1 : aR) : aR := upd (upd r1 1 (heatF P on (r1 1))) 2 (r1 2 + 1)
theorem momF_end (P : aP) (r : aR) : momF P r = endF P (onF P r 1) (carU P P.1 0 r) := rfl

set_option maxHeartbeats 1000000 in
set_option maxRecDepth 20000 in
theorem l_goOn {B : sB} {S : sSt} {c pl on : Nat} {P : aP} (hc : shB B c pl) (hp : shP B pl) (hlt : pl + 4 ≤ c) (hiP : iP P) (hon : on ≤ 9) :
    ∀ (k i : Nat) (S0 : sSt) (r0 : aR), i + k = P.1 → rP S0 pl P → chB S S0 c r0 → (0 ≤ (r0 1).toInt ∧ (r0 1).toInt ≤ 30) → WS B (fun _ => True) yX0_goOn cX0_goOn 3 none 3 8 [(2, .int (nI i)), (1, .int (nI on)), (0, .ref (s_ad B c))] [] S0 (qB S c (endF P on (carU P k i r0))) := by
  have hcc := hc
  have hpp := hp
  obtain ⟨hc0, hc1, hc2, hc3, hc4, hc5⟩ := hc
  obtain ⟨hp0, hp1, hp2, hp3⟩ := hp
  intro k
  induction k with
  | zero =>
    intro i S0 r0 hi hP0 H0 hh
    refine x_iload_n dX0_goOn_8 rfl rfl ?_
    refine x_aload_n dX0_goOn_9 rfl rfl ?_
    refine gX0_27 dX0_goOn_10 rfl (by assumption) rfl ?_
    refine gX0_51 dX0_goOn_13 rfl (by assumption) rfl ?_
    refine x_icmp_ge (tgt := 40) dX0_goOn_16 (by decide) (fun c_16 => ?_) (fun c_16 => ?_)
    · refine x_iload_n dX0_goOn_40 rfl rfl ?_
      refine x_if_le (tgt := 63) dX0_goOn_41 (by decide) (fun c_41 => ?_) (fun c_41 => ?_)
      · have hz : on = 0 := by
          rcases Nat.eq_zero_or_pos on with h | h
          · exact h
          · exact absurd c_41 (nI_nle h (by omega))
        refine x_aload_n dX0_goOn_63 rfl rfl ?_
        refine gX0_41 dX0_goOn_64 rfl (by assumption) rfl ?_
        refine x_aload_n dX0_goOn_67 rfl rfl ?_
        refine gX0_27 dX0_goOn_68 rfl (by assumption) rfl ?_
        refine gX0_84 dX0_goOn_71 rfl (by assumption) rfl ?_
        refine x_icmp_ge (tgt := 87) dX0_goOn_74 (by decide) (fun c_74 => ?_) (fun c_74 => ?_)
        · have hS1 : chB S S0 c (upd r0 1 (heatF P on (r0 1))) := by
            rw [heatF, if_pos hz, if_neg (by rw [Int32.not_lt, ← hP0.2.2.2.1, ← H0.1.2.1]; exact c_74)]
            rw [show upd r0 1 (r0 1) = r0 from by funext j; by_cases hj : j = 1 <;> simp [upd, hj]]
            exact H0
          generalize S0 = S1 at hS1 ⊢
          have H1 := hS1
          refine x_aload_n dX0_goOn_87 rfl rfl ?_
          refine x_dup dX0_goOn_88 rfl ?_
          refine gX0_42 dX0_goOn_89 rfl (by assumption) rfl ?_
          refine x_iconst (v := 1) dX0_goOn_92 (by decide) ?_
          refine x_iadd dX0_goOn_93 ?_
          refine pX0_42 dX0_goOn_94 rfl (by assumption) rfl ?_
          refine x_return dX0_goOn_97 rfl ?_
          refine ⟨rfl, ?_⟩
          have H2 := chB_m (v := S1 c 3 + 1) H1
          rw [show S1 c 3 = r0 2 from by rw [H1.1.2.2.1, upd_ne (by decide)]] at H2 ⊢
          exact H2
        · refine x_aload_n dX0_goOn_77 rfl rfl ?_
          refine x_dup dX0_goOn_78 rfl ?_
          refine gX0_41 dX0_goOn_79 rfl (by assumption) rfl ?_
          refine x_iconst (v := 1) dX0_goOn_82 (by decide) ?_
          refine x_iadd dX0_goOn_83 ?_
          refine pX0_41 dX0_goOn_84 rfl (by assumption) rfl ?_
          refine x_gen (Pz := fun S' => chB S S' c _) (chB_h H0) (fun S1 H1 => ?_)
          rw [show S0 c 2 + 1 = heatF P on (r0 1) from by rw [heatF, if_pos hz, if_pos (by rw [← Int32.not_le, ← hP0.2.2.2.1, ← H0.1.2.1]; exact c_74), H0.1.2.1]] at H1
          refine x_aload_n dX0_goOn_87 rfl rfl ?_
          refine x_dup dX0_goOn_88 rfl ?_
          refine gX0_42 dX0_goOn_89 rfl (by assumption) rfl ?_
          refine x_iconst (v := 1) dX0_goOn_92 (by decide) ?_
          refine x_iadd dX0_goOn_93 ?_
          refine pX0_42 dX0_goOn_94 rfl (by assumption) rfl ?_
          refine x_return dX0_goOn_97 rfl ?_
          refine ⟨rfl, ?_⟩
          have H2 := chB_m (v := S1 c 3 + 1) H1
          rw [show S1 c 3 = r0 2 from by rw [H1.1.2.2.1, upd_ne (by decide)]] at H2 ⊢
          exact H2
      · have hz : on ≠ 0 := by
          intro h
          subst h
          exact c_41 (by decide)
        refine x_aload_n dX0_goOn_44 rfl rfl ?_
        refine x_iconst (v := 0) dX0_goOn_45 (by decide) ?_
        refine x_aload_n dX0_goOn_46 rfl rfl ?_
        refine gX0_41 dX0_goOn_47 rfl (by assumption) rfl ?_
        refine x_iload_n dX0_goOn_50 rfl rfl ?_
        refine x_iconst (v := 2) dX0_goOn_51 (by decide) ?_
        refine x_idiv dX0_goOn_52 (by decide) ?_
        refine x_isub dX0_goOn_53 ?_
        refine kX0_78 dX0_goOn_54 rfl (by decide) (Nat.le_of_ble_eq_true rfl) ?_
        refine pX0_41 dX0_goOn_57 rfl (by assumption) rfl ?_
        refine x_gen (Pz := fun S' => chB S S' c _) (chB_h H0) (fun S1 H1 => ?_)
        rw [H0.1.2.1, heat_cl (P := P) hon hz hh] at H1
        refine x_goto (tgt := 87) dX0_goOn_60 (by decide) ?_
        refine x_aload_n dX0_goOn_87 rfl rfl ?_
        refine x_dup dX0_goOn_88 rfl ?_
        refine gX0_42 dX0_goOn_89 rfl (by assumption) rfl ?_
        refine x_iconst (v := 1) dX0_goOn_92 (by decide) ?_
        refine x_iadd dX0_goOn_93 ?_
        refine pX0_42 dX0_goOn_94 rfl (by assumption) rfl ?_
        refine x_return dX0_goOn_97 rfl ?_
        refine ⟨rfl, ?_⟩
        have H2 := chB_m (v := S1 c 3 + 1) H1
        rw [show S1 c 3 = r0 2 from by rw [H1.1.2.2.1, upd_ne (by decide)]] at H2 ⊢
        exact H2
    · exact absurd (by have := hP0.1; rw [hP0.2.1, ← hi]; exact nI_le (by omega) (by omega)) c_16
  | succ k ih =>
    intro i S0 r0 hi hP0 H0 hh
    refine x_iload_n dX0_goOn_8 rfl rfl ?_
    refine x_aload_n dX0_goOn_9 rfl rfl ?_
    refine gX0_27 dX0_goOn_10 rfl (by assumption) rfl ?_
    refine gX0_51 dX0_goOn_13 rfl (by assumption) rfl ?_
    refine x_icmp_ge (tgt := 40) dX0_goOn_16 (by decide) (fun c_16 => ?_) (fun c_16 => ?_)
    · exact absurd c_16 (by have := hP0.1; rw [hP0.2.1]; exact nI_ge (by omega) (by omega))
    · refine x_aload_n dX0_goOn_19 rfl rfl ?_
      refine gX0_9 dX0_goOn_20 rfl (by assumption) rfl ?_
      refine x_iload_n dX0_goOn_23 rfl rfl ?_
      refine x_ialdN (by assumption) dX0_goOn_24 (by have := hP0.1; omega) (by decide) ?_
      refine x_iconst (v := 1) dX0_goOn_25 (by decide) ?_
      refine x_icmp_ne (tgt := 34) dX0_goOn_26 (by decide) (fun c_26 => ?_) (fun c_26 => ?_)
      · first | refine x_inc1N (lv' := [(2, _), (1, _), (0, _)]) dX0_goOn_34 rfl (by decide) rfl ?_ | refine x_iinc (v := _ + 1) (lv' := [(2, _), (1, _), (0, _)]) dX0_goOn_34 rfl rfl (by decide) rfl ?_
        refine x_goto (tgt := 8) dX0_goOn_37 (by decide) ?_
        first
        | (rw [carU]; exact ih (i + 1) S1 _ (by omega) hP1 H1 (by rw [carF_lo (by decide)]; exact hh))
        | (rw [carU, carF, if_neg (by rw [← (H0.1.2.2.2 i (by have := hP0.1; omega)).1]; exact c_26)]; exact ih (i + 1) S0 r0 (by omega) hP0 H0 hh)
      · refine x_aload_n dX0_goOn_29 rfl rfl ?_
        refine x_iload_n dX0_goOn_30 rfl rfl ?_
        refine kX0_74r dX0_goOn_31 rfl (by assumption) (c_carry hcc hpp hP0 H0.1 hlt hiP (by omega) (by rw [← (H0.1.2.2.2 i (by have := hP0.1; omega)).1]; exact c_26) hh) (by decide) (Nat.le_of_ble_eq_true rfl) (fun S1 hq => ?_)
        obtain ⟨-, hq1⟩ := hq
        have H1 := chB_trans H0 hq1
        have hP1 := rP_ch hq1 hlt hP0
        first | refine x_inc1N (lv' := [(2, _), (1, _), (0, _)]) dX0_goOn_34 rfl (by decide) rfl ?_ | refine x_iinc (v := _ + 1) (lv' := [(2, _), (1, _), (0, _)]) dX0_goOn_34 rfl rfl (by decide) rfl ?_
        refine x_goto (tgt := 8) dX0_goOn_37 (by decide) ?_
        first
        | (rw [carU]; exact ih (i + 1) S1 _ (by omega) hP1 H1 (by rw [carF_lo (by decide)]; exact hh))
        | (rw [carU, carF, if_neg (by rw [← (H0.1.2.2.2 i (by have := hP0.1; omega)).1]; exact c_26)]; exact ih (i + 1) S0 r0 (by omega) hP0 H0 hh)

set_option maxHeartbeats 1000000 in
set_option maxRecDepth 20000 in
theorem c_goOn {B : sB} {S : sSt} {c pl : Nat} {P : aP} {r : aR} (hc : shB B c pl) (hp : shP B pl) (hP : rP S pl P) (hB : rB S c r) (hlt : pl + 4 ≤ c) (hiP : iP P) (hh : 0 ≤ (r 1).toInt ∧ (r 1).toInt ≤ 30) : CS B yX0_goOn cX0_goOn 3 none 3 [.ref (s_ad B c)] S (qB S c (momF P r)) := by
  refine cs_intro (lv := [(0, .ref (s_ad B c))]) rfl ?_
  have hcs := hc.1
  refine x_aload_n dX0_goOn_0 rfl rfl ?_
  refine x_iconst (v := 1) dX0_goOn_1 (by decide) ?_
  refine kX0_71 dX0_goOn_2 rfl (by assumption) (c_howMany hc hp hP hB) (by decide) (Nat.le_of_ble_eq_true rfl) ?_
  refine x_istore_n (lv' := [(1, _), (0, _)]) dX0_goOn_5 rfl (by decide) rfl ?_
  refine x_iconst (v := 0) dX0_goOn_6 (by decide) ?_
  refine x_istore_n (lv' := [(2, _), (1, _), (0, _)]) dX0_goOn_7 rfl (by decide) rfl ?_
  exact l_goOn hc hp hlt hiP (Nat.le_trans (onF_le P r 1) hP.1) P.1 0 S r (by omega) hP (chB_rfl hB) hh
end
section
theorem heatF_in {P : aP} (hiP : iP P) {on : Nat} {h : Int32} (hon : on ≤ 9) (hh : 0 ≤ h.toInt ∧ h.toInt ≤ 30) : 0 ≤ (heatF P on h).toInt ∧ (heatF P on h).toInt ≤ 30 := by
  obtain ⟨j, hj, rfl⟩ := nI_of3 (n := 30) hh.1 (by omega) (by decide)
  unfold heatF
  have hm := hiP.2.2.2.1
  split
  · split
    · rename_i h1
      rw [Int32.lt_iff_toInt_lt, nI_toInt (by omega)] at h1
      rw [show nI j + 1 = nI (j + 1) from nI_1 j, nI_toInt (by omega)]
      omega
    · rw [nI_toInt (by omega)]; omega
  · split
    · decide
    · rename_i h1
      rw [Int32.lt_iff_toInt_lt, nI_toInt (by omega), nI_toInt (by omega)] at h1
      rw [pk_sub (by omega), nI_toInt (by omega)]; omega
theorem momF_1 (P : aP) (r : aR) : momF P r 1 = heatF P (onF P r 1) (r 1) := by
  rw [momF, upd_ne (by decide), upd_eq, carU_lo (by decide)]
theorem momF_heat {P : aP} (hiP : iP P) {r : aR} (hh : 0 ≤ (r 1).toInt ∧ (r 1).toInt ≤ 30) : 0 ≤ (momF P r 1).toInt ∧ (momF P r 1).toInt ≤ 30 := by
  rw [momF_1]; exact heatF_in hiP (Nat.le_trans (onF_le P r 1) hiP.2.1) hh
theorem putF_1 (r : aR) (g : Nat) (x : Int32) : putF r g x 1 = r 1 := by rw [putF, upd_ne (by omega), upd_ne (by omega), upd_ne (by omega)]
theorem tilU_heat {P : aP} (hiP : iP P) {g : Nat} : ∀ (k : Nat) (r : aR), (0 ≤ (r 1).toInt ∧ (r 1).toInt ≤ 30) → 0 ≤ (tilU P k g r 1).toInt ∧ (tilU P k g r 1).toInt ≤ 30 := by
  intro k; induction k with
  | zero => intro r h; exact h
  | succ k ih => intro r h; rw [tilU]; split
                 · exact ih _ (momF_heat hiP h)
                 · exact h

set_option maxHeartbeats 1000000 in
set_option maxRecDepth 20000 in
theorem l_goOnTillFallen {B : sB} {S : sSt} {c pl g : Nat} {P : aP} (hc : shB B c pl) (hp : shP B pl) (hlt : pl + 4 ≤ c) (hiP : iP P) (hg : g < 9) :
    ∀ (k i : Nat) (S0 : sSt) (r0 : aR), i + k = 40 → rP S0 pl P → chB S S0 c r0 → (0 ≤ (r0 1).toInt ∧ (r0 1).toInt ≤ 30) → WS B (fun _ => True) yX0_goOnTillFallen cX0_goOnTillFallen 3 none 4 2 [(2, .int (nI i)), (0, .ref (s_ad B c)), (1, .int (nI g))] [] S0 (qB S c (tilU P k g r0)) := by
  have hcc := hc
  obtain ⟨hc0, hc1, hc2, hc3, hc4, hc5⟩ := hc
  intro k
  induction k with
  | zero =>
    intro i S0 r0 hi hP0 H0 hh
    refine x_iload_n dX0_goOnTillFallen_2 rfl rfl ?_
    refine x_bipush (v := 40) dX0_goOnTillFallen_3 (by decide) ?_
    refine x_icmp_ge (tgt := 28) dX0_goOnTillFallen_5 (by decide) (fun c_5 => ?_) (fun c_5 => ?_)
    · refine x_return dX0_goOnTillFallen_28 rfl ?_
      exact ⟨rfl, H0⟩
    · exact absurd (by rw [show i = 40 by omega]; decide) c_5
  | succ k ih =>
    intro i S0 r0 hi hP0 H0 hh
    refine x_iload_n dX0_goOnTillFallen_2 rfl rfl ?_
    refine x_bipush (v := 40) dX0_goOnTillFallen_3 (by decide) ?_
    refine x_icmp_ge (tgt := 28) dX0_goOnTillFallen_5 (by decide) (fun c_5 => ?_) (fun c_5 => ?_)
    · exact absurd c_5 (by exact nI_ge (b := 40) (by omega) (by decide))
    · refine x_aload_n dX0_goOnTillFallen_8 rfl rfl ?_
      refine gX0_9 dX0_goOnTillFallen_9 rfl (by assumption) rfl ?_
      refine x_iload_n dX0_goOnTillFallen_12 rfl rfl ?_
      first | refine x_ialdN (by assumption) dX0_goOnTillFallen_13 (by omega) (by decide) ?_ | refine x_iald (by assumption) dX0_goOnTillFallen_13 (by assumption) ?_
      refine x_iconst (v := 1) dX0_goOnTillFallen_14 (by decide) ?_
      refine x_icmp_ne (tgt := 28) dX0_goOnTillFallen_15 (by decide) (fun c_15 => ?_) (fun c_15 => ?_)
      · have hw : ¬ r0 (3 + g) = 1 := by rw [← (H0.1.2.2.2 g hg).1]; exact c_15
        refine x_return dX0_goOnTillFallen_28 rfl ?_
        rw [tilU, if_neg hw]
        exact ⟨rfl, H0⟩
      · have hw : r0 (3 + g) = 1 := by rw [← (H0.1.2.2.2 g hg).1]; exact c_15
        refine x_aload_n dX0_goOnTillFallen_18 rfl rfl ?_
        refine kX0_93r dX0_goOnTillFallen_19 rfl (by assumption) (c_goOn hcc hp hP0 H0.1 hlt hiP hh) (by decide) (Nat.le_of_ble_eq_true rfl) (fun S1 hq => ?_)
        obtain ⟨-, hq1⟩ := hq
        have H1 := chB_trans H0 hq1
        have hP1 := rP_ch hq1 hlt hP0
        first | refine x_inc1N (lv' := [(2, _), (0, _), (1, _)]) dX0_goOnTillFallen_22 rfl (by decide) rfl ?_ | refine x_iinc (v := _ + 1) (lv' := [(2, _), (0, _), (1, _)]) dX0_goOnTillFallen_22 rfl rfl (by decide) rfl ?_
        refine x_goto (tgt := 2) dX0_goOnTillFallen_25 (by decide) ?_
        rw [tilU, if_pos hw]
        exact ih (i + 1) S1 _ (by omega) hP1 H1 (momF_heat hiP hh)

set_option maxHeartbeats 1000000 in
set_option maxRecDepth 20000 in
theorem c_goOnTillFallen {B : sB} {S : sSt} {c pl : Nat} {P : aP} {r : aR} {g : Nat} (hc : shB B c pl) (hp : shP B pl) (hP : rP S pl P) (hB : rB S c r) (hlt : pl + 4 ≤ c) (hiP : iP P) (hg : g < 9) (hh : 0 ≤ (r 1).toInt ∧ (r 1).toInt ≤ 30) : CS B yX0_goOnTillFallen cX0_goOnTillFallen 3 none 4 [.ref (s_ad B c), .int (nI g)] S (qB S c (tilU P 40 g r)) := by
  refine cs_intro (lv := [(0, .ref (s_ad B c)), (1, .int (nI g))]) rfl ?_
  refine x_iconst (v := 0) dX0_goOnTillFallen_0 (by decide) ?_
  refine x_istore_n (lv' := [(2, _), (0, _), (1, _)]) dX0_goOnTillFallen_1 rfl (by decide) rfl ?_
  exact l_goOnTillFallen hc hp hlt hiP hg 40 0 S r (by omega) hP (chB_rfl hB) hh

set_option maxHeartbeats 1000000 in
set_option maxRecDepth 20000 in
theorem c_isRightAfterRide {B : sB} {S : sSt} {c pl : Nat} {P : aP} {r : aR} {g : Nat} {x : Int32} (hc : shB B c pl) (hp : shP B pl) (hP : rP S pl P) (hB : rB S c r) (hlt : pl + 4 ≤ c) (hiP : iP P) (hg : g < P.1) (hh : 0 ≤ (r 1).toInt ∧ (r 1).toInt ≤ 30) : CS B yX0_isRightAfterRide cX0_isRightAfterRide 3 (some .boolean) 5 [.ref (s_ad B c), .int (nI g), .int x] S (qIB (bI (rgt P (rideF P r g x) g g = true)) S c (rideF P r g x)) := by
  refine cs_intro (lv := [(0, .ref (s_ad B c)), (1, .int (nI g)), (2, .int x)]) rfl ?_
  have hcs := hc.1
  have hg9 : g < 9 := by have := hP.1; omega
  refine x_aload_n dX0_isRightAfterRide_0 rfl rfl ?_
  refine x_iload_n dX0_isRightAfterRide_1 rfl rfl ?_
  refine x_iload_n dX0_isRightAfterRide_2 rfl rfl ?_
  refine kX0_96r dX0_isRightAfterRide_3 rfl (by assumption) (c_setAtStart hc hB hg9) (by decide) (Nat.le_of_ble_eq_true rfl) (fun S1 hq => ?_)
  obtain ⟨-, H1⟩ := hq
  have hP1 := rP_ch H1 hlt hP
  refine x_aload_n dX0_isRightAfterRide_6 rfl rfl ?_
  refine x_iload_n dX0_isRightAfterRide_7 rfl rfl ?_
  refine kX0_100r dX0_isRightAfterRide_8 rfl (by assumption) (c_goOnTillFallen hc hp hP1 H1.1 hlt hiP hg9 (by rw [putF_1]; exact hh)) (by decide) (Nat.le_of_ble_eq_true rfl) (fun S2 hq => ?_)
  obtain ⟨-, H2⟩ := hq
  have hP2 := rP_ch H2 hlt hP1
  refine x_aload_n dX0_isRightAfterRide_11 rfl rfl ?_
  refine x_iload_n dX0_isRightAfterRide_12 rfl rfl ?_
  refine x_iload_n dX0_isRightAfterRide_13 rfl rfl ?_
  refine kX0_103 dX0_isRightAfterRide_14 rfl (by assumption) (c_isRight hc hp hP2 H2.1 hg hg) (by decide) (Nat.le_of_ble_eq_true rfl) ?_
  refine x_ireturn dX0_isRightAfterRide_17 rfl (by first | rfl | exact bI_nar _) ?_
  exact ⟨rfl, chB_trans H1 H2⟩

theorem neg4_lt : (-4 : Int32) < 0 := by decide
theorem nI_ne4 {j : Nat} (h : j < 2 ^ 31) : ¬ nI j = -4 := by
  intro q
  have := congrArg Int32.toInt q
  rw [nI_toInt h] at this
  have e : (-4 : Int32).toInt = -4 := by decide
  omega

set_option maxHeartbeats 1000000 in
set_option maxRecDepth 20000 in
theorem l_contentBits {B : sB} {S : sSt} {c pl : Nat} {P : aP} {r : aR} (hc : shB B c pl) (hp : shP B pl) (hP : rP S pl P) (hB : rB S c r) (he : ∀ i, i < P.1 → r (39 + i) = -4 ∨ ∃ j, j < P.1 ∧ r (39 + i) = nI j) :
    ∀ (k i : Nat) (a : Int32), i + k = P.1 → WS B (fun _ => True) yX0_contentBits cX0_contentBits 4 (some .int) 3 4 [(2, .int (nI i)), (1, .int a), (0, .ref (s_ad B c))] [] S (qI (conU P r k i a) S) := by
  have hcc := hc
  have hpp := hp
  obtain ⟨hc0, hc1, hc2, hc3, hc4, hc5⟩ := hc
  obtain ⟨hp0, hp1, hp2, hp3⟩ := hp
  obtain ⟨hn9, hn, hlen, hmst, hPi⟩ := id hP
  intro k
  induction k with
  | zero =>
    intro i a hi
    refine x_iload_n dX0_contentBits_4 rfl rfl ?_
    refine x_aload_n dX0_contentBits_5 rfl rfl ?_
    refine gX0_27 dX0_contentBits_6 rfl (by assumption) rfl ?_
    refine gX0_51 dX0_contentBits_9 rfl (by assumption) rfl ?_
    refine x_icmp_ge (tgt := 47) dX0_contentBits_12 (by decide) (fun c_12 => ?_) (fun c_12 => ?_)
    · refine x_iload_n dX0_contentBits_47 rfl rfl ?_
      refine x_ireturn dX0_contentBits_48 rfl rfl ?_
      exact ⟨rfl, rfl⟩
    · exact absurd (by rw [hn, ← hi]; exact nI_le (by omega) (by omega)) c_12
  | succ k ih =>
    intro i a hi
    have hr := (hB.2.2.2 i (by omega)).2.2.2.2
    refine x_iload_n dX0_contentBits_4 rfl rfl ?_
    refine x_aload_n dX0_contentBits_5 rfl rfl ?_
    refine gX0_27 dX0_contentBits_6 rfl (by assumption) rfl ?_
    refine gX0_51 dX0_contentBits_9 rfl (by assumption) rfl ?_
    refine x_icmp_ge (tgt := 47) dX0_contentBits_12 (by decide) (fun c_12 => ?_) (fun c_12 => ?_)
    · exact absurd c_12 (by rw [hn]; exact nI_ge (by omega) (by omega))
    · refine x_aload_n dX0_contentBits_15 rfl rfl ?_
      refine gX0_24 dX0_contentBits_16 rfl (by assumption) rfl ?_
      refine x_iload_n dX0_contentBits_19 rfl rfl ?_
      first | refine x_ialdN (by assumption) dX0_contentBits_20 (by omega) (by decide) ?_ | refine x_iald (by assumption) dX0_contentBits_20 (by assumption) ?_
      refine x_istore_n (lv' := [(3, _), (2, _), (1, _), (0, _)]) dX0_contentBits_21 rfl (by decide) rfl ?_
      refine x_iload_n dX0_contentBits_22 rfl rfl ?_
      refine x_if_lt (tgt := 41) dX0_contentBits_23 (by decide) (fun c_23 => ?_) (fun c_23 => ?_)
      · have hr4 : r (39 + i) = -4 := by
          rcases he i (by omega) with h | ⟨j, hj, h⟩
          · exact h
          · rw [hr, h] at c_23
            exact absurd c_23 (nI_pos (by omega))
        first | refine x_inc1N (lv' := [(2, _), (3, _), (1, _), (0, _)]) dX0_contentBits_41 rfl (by decide) rfl ?_ | refine x_iinc (v := _ + 1) (lv' := [(2, _), (3, _), (1, _), (0, _)]) dX0_contentBits_41 rfl rfl (by decide) rfl ?_
        refine x_goto (tgt := 4) dX0_contentBits_44 (by decide) ?_
        refine x_wk [0, 2, 3] rfl ?_
        first
        | (rw [conU, if_pos hr4]; exact ih (i + 1) a (by omega))
        | (rw [conU, if_neg hr4, ← ej, nI_clamp (by omega), if_neg c_32]; exact ih (i + 1) a (by omega))
        | (rw [conU, if_neg hr4, ← ej, nI_clamp (by omega), if_pos c_32]; exact ih (i + 1) _ (by omega))
      · have hr4 : ¬ r (39 + i) = -4 := by
          intro h
          rw [hr, h] at c_23
          exact c_23 neg4_lt
        obtain ⟨j, hj, ej⟩ : ∃ j, j < P.1 ∧ nI j = r (39 + i) := by
          rcases he i (by omega) with h | ⟨j, hj, h⟩
          · exact absurd h hr4
          · exact ⟨j, hj, h.symm⟩
        rw [hr, ← ej]
        refine x_aload_n dX0_contentBits_26 rfl rfl ?_
        refine x_iload_n dX0_contentBits_27 rfl rfl ?_
        refine x_iload_n dX0_contentBits_28 rfl rfl ?_
        refine kX0_103 dX0_contentBits_29 rfl (by assumption) (c_isRight hcc hpp hP hB hj (by omega)) (by decide) (Nat.le_of_ble_eq_true rfl) ?_
        refine x_ifeq_b (tgt := 41) dX0_contentBits_32 (by decide) (fun c_32 => ?_) (fun c_32 => ?_)
        · first | refine x_inc1N (lv' := [(2, _), (3, _), (1, _), (0, _)]) dX0_contentBits_41 rfl (by decide) rfl ?_ | refine x_iinc (v := _ + 1) (lv' := [(2, _), (3, _), (1, _), (0, _)]) dX0_contentBits_41 rfl rfl (by decide) rfl ?_
          refine x_goto (tgt := 4) dX0_contentBits_44 (by decide) ?_
          refine x_wk [0, 2, 3] rfl ?_
          first
          | (rw [conU, if_pos hr4]; exact ih (i + 1) a (by omega))
          | (rw [conU, if_neg hr4, ← ej, nI_clamp (by omega), if_neg c_32]; exact ih (i + 1) a (by omega))
          | (rw [conU, if_neg hr4, ← ej, nI_clamp (by omega), if_pos c_32]; exact ih (i + 1) _ (by omega))
        · refine x_iload_n dX0_contentBits_35 rfl rfl ?_
          refine x_iconst (v := 1) dX0_contentBits_36 (by decide) ?_
          refine x_iload_n dX0_contentBits_37 rfl rfl ?_
          refine x_ishl dX0_contentBits_38 ?_
          refine x_ior dX0_contentBits_39 ?_
          refine x_istore_n (lv' := [(1, _), (3, _), (2, _), (0, _)]) dX0_contentBits_40 rfl (by decide) rfl ?_
          first | refine x_inc1N (lv' := [(2, _), (1, _), (3, _), (0, _)]) dX0_contentBits_41 rfl (by decide) rfl ?_ | refine x_iinc (v := _ + 1) (lv' := [(2, _), (1, _), (3, _), (0, _)]) dX0_contentBits_41 rfl rfl (by decide) rfl ?_
          refine x_goto (tgt := 4) dX0_contentBits_44 (by decide) ?_
          refine x_wk [0, 1, 3] rfl ?_
          first
          | (rw [conU, if_pos hr4]; exact ih (i + 1) a (by omega))
          | (rw [conU, if_neg hr4, ← ej, nI_clamp (by omega), if_neg c_32]; exact ih (i + 1) a (by omega))
          | (rw [conU, if_neg hr4, ← ej, nI_clamp (by omega), if_pos c_32]; exact ih (i + 1) _ (by omega))

set_option maxHeartbeats 1000000 in
set_option maxRecDepth 20000 in
theorem c_contentBits {B : sB} {S : sSt} {c pl : Nat} {P : aP} {r : aR} (hc : shB B c pl) (hp : shP B pl) (hP : rP S pl P) (hB : rB S c r) (he : ∀ i, i < P.1 → r (39 + i) = -4 ∨ ∃ j, j < P.1 ∧ r (39 + i) = nI j) : CS B yX0_contentBits cX0_contentBits 4 (some .int) 3 [.ref (s_ad B c)] S (qI (conU P r P.1 0 0) S) := by
  refine cs_intro (lv := [(0, .ref (s_ad B c))]) rfl ?_
  refine x_iconst (v := 0) dX0_contentBits_0 (by decide) ?_
  refine x_istore_n (lv' := [(1, _), (0, _)]) dX0_contentBits_1 rfl (by decide) rfl ?_
  refine x_iconst (v := 0) dX0_contentBits_2 (by decide) ?_
  refine x_istore_n (lv' := [(2, _), (1, _), (0, _)]) dX0_contentBits_3 rfl (by decide) rfl ?_
  exact l_contentBits hc hp hP hB he P.1 0 0 (by omega)

set_option maxHeartbeats 1000000 in
set_option maxRecDepth 20000 in
theorem l_eatLowestRight {B : sB} {S : sSt} {c pl : Nat} {P : aP} {r : aR} {g : Nat} (hc : shB B c pl) (hp : shP B pl) (hP : rP S pl P) (hB : rB S c r) (hg : g < P.1) :
    ∀ (k i : Nat), i + k = P.1 → WS B (fun _ => True) yX0_eatLowestRight cX0_eatLowestRight 3 none 4 2 [(2, .int (nI i)), (0, .ref (s_ad B c)), (1, .int (nI g))] [] S (qB S c (match fndU (fun s => canT P r g s && rgt P r g s) k i with | some s => eatF r g s | none => r)) := by
  have hcc := hc
  have hpp := hp
  obtain ⟨hc0, hc1, hc2, hc3, hc4, hc5⟩ := hc
  obtain ⟨hp0, hp1, hp2, hp3⟩ := hp
  obtain ⟨hn9, hn, hlen, hmst, hPi⟩ := id hP
  intro k
  induction k with
  | zero =>
    intro i hi
    refine x_iload_n dX0_eatLowestRight_2 rfl rfl ?_
    refine x_aload_n dX0_eatLowestRight_3 rfl rfl ?_
    refine gX0_27 dX0_eatLowestRight_4 rfl (by assumption) rfl ?_
    refine gX0_51 dX0_eatLowestRight_7 rfl (by assumption) rfl ?_
    refine x_icmp_ge (tgt := 44) dX0_eatLowestRight_10 (by decide) (fun c_10 => ?_) (fun c_10 => ?_)
    · refine x_return dX0_eatLowestRight_44 rfl ?_
      exact ⟨rfl, chB_rfl hB⟩
    · exact absurd (by rw [hn, ← hi]; exact nI_le (by omega) (by omega)) c_10
  | succ k ih =>
    intro i hi
    refine x_iload_n dX0_eatLowestRight_2 rfl rfl ?_
    refine x_aload_n dX0_eatLowestRight_3 rfl rfl ?_
    refine gX0_27 dX0_eatLowestRight_4 rfl (by assumption) rfl ?_
    refine gX0_51 dX0_eatLowestRight_7 rfl (by assumption) rfl ?_
    refine x_icmp_ge (tgt := 44) dX0_eatLowestRight_10 (by decide) (fun c_10 => ?_) (fun c_10 => ?_)
    · exact absurd c_10 (by rw [hn]; exact nI_ge (by omega) (by omega))
    · refine x_aload_n dX0_eatLowestRight_13 rfl rfl ?_
      refine x_iload_n dX0_eatLowestRight_14 rfl rfl ?_
      refine x_iload_n dX0_eatLowestRight_15 rfl rfl ?_
      refine kX0_114 dX0_eatLowestRight_16 rfl (by assumption) (c_mayEat hcc hpp hP hB hg (by omega)) (by decide) (Nat.le_of_ble_eq_true rfl) ?_
      refine x_ifeq_b (tgt := 38) dX0_eatLowestRight_19 (by decide) (fun c_19 => ?_) (fun c_19 => ?_)
      · first | refine x_inc1N (lv' := [(2, _), (0, _), (1, _)]) dX0_eatLowestRight_38 rfl (by decide) rfl ?_ | refine x_iinc (v := _ + 1) (lv' := [(2, _), (0, _), (1, _)]) dX0_eatLowestRight_38 rfl rfl (by decide) rfl ?_
        refine x_goto (tgt := 2) dX0_eatLowestRight_41 (by decide) ?_
        first
        | (rw [fndU, if_neg (by rw [Bool.and_eq_true]; exact fun z => c_19 z.1)]; exact ih (i + 1) (by omega))
        | (rw [fndU, if_neg (by rw [Bool.and_eq_true]; exact fun z => c_28 z.2)]; exact ih (i + 1) (by omega))
      · refine x_aload_n dX0_eatLowestRight_22 rfl rfl ?_
        refine x_iload_n dX0_eatLowestRight_23 rfl rfl ?_
        refine x_iload_n dX0_eatLowestRight_24 rfl rfl ?_
        refine kX0_103 dX0_eatLowestRight_25 rfl (by assumption) (c_isRight hcc hpp hP hB hg (by omega)) (by decide) (Nat.le_of_ble_eq_true rfl) ?_
        refine x_ifeq_b (tgt := 38) dX0_eatLowestRight_28 (by decide) (fun c_28 => ?_) (fun c_28 => ?_)
        · first | refine x_inc1N (lv' := [(2, _), (0, _), (1, _)]) dX0_eatLowestRight_38 rfl (by decide) rfl ?_ | refine x_iinc (v := _ + 1) (lv' := [(2, _), (0, _), (1, _)]) dX0_eatLowestRight_38 rfl rfl (by decide) rfl ?_
          refine x_goto (tgt := 2) dX0_eatLowestRight_41 (by decide) ?_
          first
          | (rw [fndU, if_neg (by rw [Bool.and_eq_true]; exact fun z => c_19 z.1)]; exact ih (i + 1) (by omega))
          | (rw [fndU, if_neg (by rw [Bool.and_eq_true]; exact fun z => c_28 z.2)]; exact ih (i + 1) (by omega))
        · refine x_aload_n dX0_eatLowestRight_31 rfl rfl ?_
          refine x_iload_n dX0_eatLowestRight_32 rfl rfl ?_
          refine x_iload_n dX0_eatLowestRight_33 rfl rfl ?_
          refine kX0_117r dX0_eatLowestRight_34 rfl (by assumption) (c_eat hcc hB (by omega)) (by decide) (Nat.le_of_ble_eq_true rfl) (fun S1 hq => ?_)
          refine x_return dX0_eatLowestRight_37 rfl ?_
          rw [fndU, if_pos (by rw [Bool.and_eq_true]; exact ⟨c_19, c_28⟩)]
          exact hq

set_option maxHeartbeats 1000000 in
set_option maxRecDepth 20000 in
theorem c_eatLowestRight {B : sB} {S : sSt} {c pl : Nat} {P : aP} {r : aR} {g : Nat} (hc : shB B c pl) (hp : shP B pl) (hP : rP S pl P) (hB : rB S c r) (hg : g < P.1) : CS B yX0_eatLowestRight cX0_eatLowestRight 3 none 4 [.ref (s_ad B c), .int (nI g)] S (qB S c (lowF P r g)) := by
  refine cs_intro (lv := [(0, .ref (s_ad B c)), (1, .int (nI g))]) rfl ?_
  refine x_iconst (v := 0) dX0_eatLowestRight_0 (by decide) ?_
  refine x_istore_n (lv' := [(2, _), (0, _), (1, _)]) dX0_eatLowestRight_1 rfl (by decide) rfl ?_
  exact l_eatLowestRight hc hp hP hB hg P.1 0 (by omega)

set_option maxHeartbeats 1000000 in
set_option maxRecDepth 20000 in
theorem c_actByDraw {B : sB} {S : sSt} {c pl : Nat} {P : aP} {r : aR} {dr : Nat} (hc : shB B c pl) (hp : shP B pl) (hP : rP S pl P) (hB : rB S c r) (hlt : pl + 4 ≤ c) (hn1 : 1 ≤ P.1) (hdr : dr < 2 ^ 31) : CS B yX0_actByDraw cX0_actByDraw 4 none 5 [.ref (s_ad B c), .int (nI dr)] S (qB S c (actF P r dr)) := by
  refine cs_intro (lv := [(0, .ref (s_ad B c)), (1, .int (nI dr))]) rfl ?_
  have hcc := hc
  have hpp := hp
  obtain ⟨hc0, hc1, hc2, hc3, hc4, hc5⟩ := hc
  obtain ⟨hp0, hp1, hp2, hp3⟩ := hp
  obtain ⟨hn9, hn, hlen, hmst, hPi⟩ := id hP
  have hmod : dr % P.1 < P.1 := Nat.mod_lt _ (by omega)
  have hr := (hB.2.2.2 (dr % P.1) (by omega)).1
  refine x_aload_n dX0_actByDraw_0 rfl rfl ?_
  refine gX0_27 dX0_actByDraw_1 rfl (by assumption) rfl ?_
  refine gX0_51 dX0_actByDraw_4 rfl (by assumption) rfl ?_
  refine x_iconst (v := 1) dX0_actByDraw_7 (by decide) ?_
  refine x_icmp_ge (tgt := 12) dX0_actByDraw_8 (by decide) (fun c_8 => ?_) (fun c_8 => ?_)
  · clear c_8
    refine x_iload_n dX0_actByDraw_12 rfl rfl ?_
    refine x_aload_n dX0_actByDraw_13 rfl rfl ?_
    refine gX0_27 dX0_actByDraw_14 rfl (by assumption) rfl ?_
    refine gX0_51 dX0_actByDraw_17 rfl (by assumption) rfl ?_
    refine x_irem dX0_actByDraw_20 (by rw [hn]; exact nI_ne0 (by omega) (by omega)) ?_
    refine x_re (b := nI (dr % P.1)) (by rw [hn]; exact pk_rem hdr (by omega) (by omega)) ?_
    refine x_istore_n (lv' := [(2, _), (0, _), (1, _)]) dX0_actByDraw_21 rfl (by decide) rfl ?_
    refine x_iload_n dX0_actByDraw_22 rfl rfl ?_
    refine x_bipush (v := 16) dX0_actByDraw_23 (by decide) ?_
    refine x_idiv dX0_actByDraw_25 (by decide) ?_
    refine x_re (b := nI (dr / 16)) (pk_div (d := 16) hdr (by decide) (by decide)) ?_
    refine x_iconst (v := 2) dX0_actByDraw_26 (by decide) ?_
    refine x_irem dX0_actByDraw_27 (by decide) ?_
    refine x_re (b := nI (dr / 16 % 2)) (pk_rem (d := 2) (by omega) (by decide) (by decide)) ?_
    refine x_istore_n (lv' := [(3, _), (2, _), (0, _), (1, _)]) dX0_actByDraw_28 rfl (by decide) rfl ?_
    refine x_aload_n dX0_actByDraw_29 rfl rfl ?_
    refine gX0_9 dX0_actByDraw_30 rfl (by assumption) rfl ?_
    refine x_iload_n dX0_actByDraw_33 rfl rfl ?_
    first | refine x_ialdN (by assumption) dX0_actByDraw_34 (by omega) (by decide) ?_ | refine x_iald (by assumption) dX0_actByDraw_34 (by assumption) ?_
    refine x_if_ne (tgt := 52) dX0_actByDraw_35 (by decide) (fun c_35 => ?_) (fun c_35 => ?_)
    · refine x_gen (Pz := fun S' => chB S S' c (if (r (3 + dr % P.1) == 0 && freeL P r (nI (dr / 16 % 2))) = true then putF r (dr % P.1) (nI (dr / 16 % 2)) else r)) (by
        first
        | (rw [if_neg (by rw [Bool.and_eq_true, beq_iff_eq, ← hr]; exact fun z => c_35 z.1)]; exact chB_rfl hB)
        | (rw [if_neg (by rw [Bool.and_eq_true, beq_iff_eq, ← hr]; exact fun z => c_43 z.2)]; exact chB_rfl hB)
        | (rw [if_pos (by rw [Bool.and_eq_true, beq_iff_eq, ← hr]; exact ⟨c_35, c_43⟩)]; exact H1)) (fun SZ HZ => ?_)
      have hPz := rP_ch HZ hlt hP
      refine x_aload_n dX0_actByDraw_52 rfl rfl ?_
      refine x_iload_n dX0_actByDraw_53 rfl rfl ?_
      refine kX0_111r dX0_actByDraw_54 rfl (by assumption) (c_eatLowestRight hcc hpp hPz HZ.1 hmod) (by decide) (Nat.le_of_ble_eq_true rfl) (fun S2 hq2 => ?_)
      refine x_return dX0_actByDraw_57 rfl ?_
      exact ⟨rfl, chB_trans HZ hq2.2⟩
    · refine x_aload_n dX0_actByDraw_38 rfl rfl ?_
      refine x_iload_n dX0_actByDraw_39 rfl rfl ?_
      refine kX0_107 dX0_actByDraw_40 rfl (by assumption) (c_isFreeAtStart hcc hpp hP hB) (by decide) (Nat.le_of_ble_eq_true rfl) ?_
      refine x_ifeq_b (tgt := 52) dX0_actByDraw_43 (by decide) (fun c_43 => ?_) (fun c_43 => ?_)
      · refine x_gen (Pz := fun S' => chB S S' c (if (r (3 + dr % P.1) == 0 && freeL P r (nI (dr / 16 % 2))) = true then putF r (dr % P.1) (nI (dr / 16 % 2)) else r)) (by
          first
          | (rw [if_neg (by rw [Bool.and_eq_true, beq_iff_eq, ← hr]; exact fun z => c_35 z.1)]; exact chB_rfl hB)
          | (rw [if_neg (by rw [Bool.and_eq_true, beq_iff_eq, ← hr]; exact fun z => c_43 z.2)]; exact chB_rfl hB)
          | (rw [if_pos (by rw [Bool.and_eq_true, beq_iff_eq, ← hr]; exact ⟨c_35, c_43⟩)]; exact H1)) (fun SZ HZ => ?_)
        have hPz := rP_ch HZ hlt hP
        refine x_aload_n dX0_actByDraw_52 rfl rfl ?_
        refine x_iload_n dX0_actByDraw_53 rfl rfl ?_
        refine kX0_111r dX0_actByDraw_54 rfl (by assumption) (c_eatLowestRight hcc hpp hPz HZ.1 hmod) (by decide) (Nat.le_of_ble_eq_true rfl) (fun S2 hq2 => ?_)
        refine x_return dX0_actByDraw_57 rfl ?_
        exact ⟨rfl, chB_trans HZ hq2.2⟩
      · refine x_aload_n dX0_actByDraw_46 rfl rfl ?_
        refine x_iload_n dX0_actByDraw_47 rfl rfl ?_
        refine x_iload_n dX0_actByDraw_48 rfl rfl ?_
        refine kX0_96r dX0_actByDraw_49 rfl (by assumption) (c_setAtStart hcc hB (by omega)) (by decide) (Nat.le_of_ble_eq_true rfl) (fun S1 hq => ?_)
        obtain ⟨-, H1⟩ := hq
        have hP1 := rP_ch H1 hlt hP
        refine x_gen (Pz := fun S' => chB S S' c (if (r (3 + dr % P.1) == 0 && freeL P r (nI (dr / 16 % 2))) = true then putF r (dr % P.1) (nI (dr / 16 % 2)) else r)) (by
          first
          | (rw [if_neg (by rw [Bool.and_eq_true, beq_iff_eq, ← hr]; exact fun z => c_35 z.1)]; exact chB_rfl hB)
          | (rw [if_neg (by rw [Bool.and_eq_true, beq_iff_eq, ← hr]; exact fun z => c_43 z.2)]; exact chB_rfl hB)
          | (rw [if_pos (by rw [Bool.and_eq_true, beq_iff_eq, ← hr]; exact ⟨c_35, c_43⟩)]; exact H1)) (fun SZ HZ => ?_)
        have hPz := rP_ch HZ hlt hP
        refine x_aload_n dX0_actByDraw_52 rfl rfl ?_
        refine x_iload_n dX0_actByDraw_53 rfl rfl ?_
        refine kX0_111r dX0_actByDraw_54 rfl (by assumption) (c_eatLowestRight hcc hpp hPz HZ.1 hmod) (by decide) (Nat.le_of_ble_eq_true rfl) (fun S2 hq2 => ?_)
        refine x_return dX0_actByDraw_57 rfl ?_
        exact ⟨rfl, chB_trans HZ hq2.2⟩
  · exact absurd (by rw [hn]; exact nI_le (a := 1) (by omega) (by omega)) c_8

def bgnF (kn ht : Int32) : aR := fun k => if k = 0 then kn else if k = 1 then ht else if k < 39 then 0 else -4

set_option maxHeartbeats 1000000 in
set_option maxRecDepth 20000 in
theorem l_begin {B : sB} {S : sSt} {c pl : Nat} {kn ht : Int32} (hc : shB B c pl) :
    ∀ (k i : Nat) (S0 : sSt), i + k = 9 → (S0 c 1 = kn ∧ S0 c 2 = ht ∧ S0 c 3 = 0 ∧ ∀ j, j < i → S0 (c + 1) j = 0 ∧ S0 (c + 2) j = 0 ∧ S0 (c + 3) j = 0 ∧ S0 (c + 4) j = 0 ∧ S0 (c + 5) j = -4) → (∀ a, (a < c ∨ c + 6 ≤ a) → S0 a = S a) → WS B (fun _ => True) yX0_begin cX0_begin 2 none 1 29 [(1, .int (nI i)), (0, .ref (s_ad B c))] [] S0 (qB S c (bgnF kn ht)) := by
  obtain ⟨hc0, hc1, hc2, hc3, hc4, hc5⟩ := hc
  intro k
  induction k with
  | zero =>
    intro i S0 hi h1 h2
    refine x_iload_n dX0_begin_29 rfl rfl ?_
    refine x_bipush (v := 9) dX0_begin_30 (by decide) ?_
    refine x_icmp_ge (tgt := 77) dX0_begin_32 (by decide) (fun c_32 => ?_) (fun c_32 => ?_)
    · refine x_return dX0_begin_77 rfl ?_
      refine ⟨rfl, ⟨h1.1, h1.2.1, h1.2.2.1, fun j hj => ?_⟩, h2⟩
      have h3 := h1.2.2.2 j (by omega)
      refine ⟨h3.1.trans ?_, h3.2.1.trans ?_, h3.2.2.1.trans ?_, h3.2.2.2.1.trans ?_, h3.2.2.2.2.trans ?_⟩
      all_goals unfold bgnF
      · rw [if_neg (by omega), if_neg (by omega), if_pos (by omega)]
      · rw [if_neg (by omega), if_neg (by omega), if_pos (by omega)]
      · rw [if_neg (by omega), if_neg (by omega), if_pos (by omega)]
      · rw [if_neg (by omega), if_neg (by omega), if_pos (by omega)]
      · rw [if_neg (by omega), if_neg (by omega), if_neg (by omega)]
    · exact absurd (by rw [show i = 9 by omega]; decide) c_32
  | succ k ih =>
    intro i S0 hi h1 h2
    refine x_iload_n dX0_begin_29 rfl rfl ?_
    refine x_bipush (v := 9) dX0_begin_30 (by decide) ?_
    refine x_icmp_ge (tgt := 77) dX0_begin_32 (by decide) (fun c_32 => ?_) (fun c_32 => ?_)
    · exact absurd c_32 (by exact nI_ge (b := 9) (by omega) (by decide))
    · refine x_aload_n dX0_begin_35 rfl rfl ?_
      refine gX0_9 dX0_begin_36 rfl (by assumption) rfl ?_
      refine x_iload_n dX0_begin_39 rfl rfl ?_
      refine x_iconst (v := 0) dX0_begin_40 (by decide) ?_
      first | refine x_iastN (by assumption) dX0_begin_41 (by omega) (by decide) ?_ | refine x_iast (by assumption) dX0_begin_41 (by assumption) ?_
      refine x_aload_n dX0_begin_42 rfl rfl ?_
      refine gX0_15 dX0_begin_43 rfl (by assumption) rfl ?_
      refine x_iload_n dX0_begin_46 rfl rfl ?_
      refine x_iconst (v := 0) dX0_begin_47 (by decide) ?_
      first | refine x_iastN (by assumption) dX0_begin_48 (by omega) (by decide) ?_ | refine x_iast (by assumption) dX0_begin_48 (by assumption) ?_
      refine x_aload_n dX0_begin_49 rfl rfl ?_
      refine gX0_18 dX0_begin_50 rfl (by assumption) rfl ?_
      refine x_iload_n dX0_begin_53 rfl rfl ?_
      refine x_iconst (v := 0) dX0_begin_54 (by decide) ?_
      first | refine x_iastN (by assumption) dX0_begin_55 (by omega) (by decide) ?_ | refine x_iast (by assumption) dX0_begin_55 (by assumption) ?_
      refine x_aload_n dX0_begin_56 rfl rfl ?_
      refine gX0_21 dX0_begin_57 rfl (by assumption) rfl ?_
      refine x_iload_n dX0_begin_60 rfl rfl ?_
      refine x_iconst (v := 0) dX0_begin_61 (by decide) ?_
      first | refine x_iastN (by assumption) dX0_begin_62 (by omega) (by decide) ?_ | refine x_iast (by assumption) dX0_begin_62 (by assumption) ?_
      refine x_aload_n dX0_begin_63 rfl rfl ?_
      refine gX0_24 dX0_begin_64 rfl (by assumption) rfl ?_
      refine x_iload_n dX0_begin_67 rfl rfl ?_
      refine x_bipush (v := (-4)) dX0_begin_68 (by decide) ?_
      first | refine x_iastN (by assumption) dX0_begin_70 (by omega) (by decide) ?_ | refine x_iast (by assumption) dX0_begin_70 (by assumption) ?_
      first | refine x_inc1N (lv' := [(1, _), (0, _)]) dX0_begin_71 rfl (by decide) rfl ?_ | refine x_iinc (v := _ + 1) (lv' := [(1, _), (0, _)]) dX0_begin_71 rfl rfl (by decide) rfl ?_
      refine x_goto (tgt := 29) dX0_begin_74 (by decide) ?_
      refine ih (i + 1) _ (by omega) ?_ ?_
      · refine ⟨?_, ?_, ?_, fun j hj => ?_⟩
        · rw [s_put_ne (by omega), s_put_ne (by omega), s_put_ne (by omega), s_put_ne (by omega), s_put_ne (by omega)]; exact h1.1
        · rw [s_put_ne (by omega), s_put_ne (by omega), s_put_ne (by omega), s_put_ne (by omega), s_put_ne (by omega)]; exact h1.2.1
        · rw [s_put_ne (by omega), s_put_ne (by omega), s_put_ne (by omega), s_put_ne (by omega), s_put_ne (by omega)]; exact h1.2.2.1
        · by_cases hj2 : j = i
          · subst hj2
            simp [s_put]
          · have h3 := h1.2.2.2 j (by omega)
            simp [s_put, hj2, h3]
      · intro a ha
        rw [s_put_ne (by omega), s_put_ne (by omega), s_put_ne (by omega), s_put_ne (by omega), s_put_ne (by omega)]; exact h2 a ha

set_option maxHeartbeats 1000000 in
set_option maxRecDepth 20000 in
theorem c_begin {B : sB} {S : sSt} {c pl : Nat} (hc : shB B c pl) (hp : shP B pl) (hlt : pl + 4 ≤ c) : CS B yX0_begin cX0_begin 2 none 1 [.ref (s_ad B c)] S (qB S c (bgnF (S pl 1) (S pl 2))) := by
  refine cs_intro (lv := [(0, .ref (s_ad B c))]) rfl ?_
  have hcc := hc
  obtain ⟨hc0, hc1, hc2, hc3, hc4, hc5⟩ := hc
  obtain ⟨hp0, hp1, hp2, hp3⟩ := hp
  refine x_aload_n dX0_begin_0 rfl rfl ?_
  refine x_aload_n dX0_begin_1 rfl rfl ?_
  refine gX0_27 dX0_begin_2 rfl (by assumption) rfl ?_
  refine gX0_31 dX0_begin_5 rfl (by assumption) rfl ?_
  refine pX0_37 dX0_begin_8 rfl (by assumption) rfl ?_
  refine x_aload_n dX0_begin_11 rfl rfl ?_
  refine x_aload_n dX0_begin_12 rfl rfl ?_
  refine gX0_27 dX0_begin_13 rfl (by assumption) rfl ?_
  refine gX0_38 dX0_begin_16 rfl (by assumption) rfl ?_
  refine pX0_41 dX0_begin_19 rfl (by assumption) rfl ?_
  refine x_aload_n dX0_begin_22 rfl rfl ?_
  refine x_iconst (v := 0) dX0_begin_23 (by decide) ?_
  refine pX0_42 dX0_begin_24 rfl (by assumption) rfl ?_
  refine x_iconst (v := 0) dX0_begin_27 (by decide) ?_
  refine x_istore_n (lv' := [(1, _), (0, _)]) dX0_begin_28 rfl (by decide) rfl ?_
  refine l_begin hcc 9 0 _ (by omega) ⟨?_, ?_, ?_, fun j hj => absurd hj (Nat.not_lt_zero j)⟩ ?_
  · simp [s_put]
  · rw [s_put_eq, if_neg (by decide), s_put_eq, if_pos rfl, s_put_ne (by omega)]
  · simp [s_put]
  · intro a ha
    rw [s_put_ne (by omega), s_put_ne (by omega), s_put_ne (by omega)]

set_option maxHeartbeats 1000000 in
set_option maxRecDepth 20000 in
theorem c_copyFrom {B : sB} {S : sSt} {c c2 pl pl2 : Nat} {r : aR} (hc : shB B c pl) (hd : shB B c2 pl2) (hB : rB S c2 r) (hdj : c2 + 6 ≤ c ∨ c + 6 ≤ c2) : CS B yX0_copyFrom cX0_copyFrom 2 none 1 [.ref (s_ad B c), .ref (s_ad B c2)] S (qB S c r) := by
  refine cs_intro (lv := [(0, .ref (s_ad B c)), (1, .ref (s_ad B c2))]) rfl ?_
  obtain ⟨hc0, hc1, hc2, hc3, hc4, hc5⟩ := hc
  obtain ⟨hd0, hd1, hd2, hd3, hd4, hd5⟩ := hd
  have n00 : ¬ c2 = c := by omega
  have n01 : ¬ c2 = c + 1 := by omega
  have n02 : ¬ c2 = c + 2 := by omega
  have n03 : ¬ c2 = c + 3 := by omega
  have n04 : ¬ c2 = c + 4 := by omega
  have n05 : ¬ c2 = c + 5 := by omega
  have n10 : ¬ c2 + 1 = c := by omega
  have n11 : ¬ c2 + 1 = c + 1 := by omega
  have n12 : ¬ c2 + 1 = c + 2 := by omega
  have n13 : ¬ c2 + 1 = c + 3 := by omega
  have n14 : ¬ c2 + 1 = c + 4 := by omega
  have n15 : ¬ c2 + 1 = c + 5 := by omega
  have n20 : ¬ c2 + 2 = c := by omega
  have n21 : ¬ c2 + 2 = c + 1 := by omega
  have n22 : ¬ c2 + 2 = c + 2 := by omega
  have n23 : ¬ c2 + 2 = c + 3 := by omega
  have n24 : ¬ c2 + 2 = c + 4 := by omega
  have n25 : ¬ c2 + 2 = c + 5 := by omega
  have n30 : ¬ c2 + 3 = c := by omega
  have n31 : ¬ c2 + 3 = c + 1 := by omega
  have n32 : ¬ c2 + 3 = c + 2 := by omega
  have n33 : ¬ c2 + 3 = c + 3 := by omega
  have n34 : ¬ c2 + 3 = c + 4 := by omega
  have n35 : ¬ c2 + 3 = c + 5 := by omega
  have n40 : ¬ c2 + 4 = c := by omega
  have n41 : ¬ c2 + 4 = c + 1 := by omega
  have n42 : ¬ c2 + 4 = c + 2 := by omega
  have n43 : ¬ c2 + 4 = c + 3 := by omega
  have n44 : ¬ c2 + 4 = c + 4 := by omega
  have n45 : ¬ c2 + 4 = c + 5 := by omega
  have n50 : ¬ c2 + 5 = c := by omega
  have n51 : ¬ c2 + 5 = c + 1 := by omega
  have n52 : ¬ c2 + 5 = c + 2 := by omega
  have n53 : ¬ c2 + 5 = c + 3 := by omega
  have n54 : ¬ c2 + 5 = c + 4 := by omega
  have n55 : ¬ c2 + 5 = c + 5 := by omega
  obtain ⟨b1, b2, b3, b4⟩ := hB
  have e9 : (9 : Int32).toNatClampNeg = 9 := by decide
  refine x_aload_n dX0_copyFrom_0 rfl rfl ?_
  refine x_aload_n dX0_copyFrom_1 rfl rfl ?_
  refine gX0_37 dX0_copyFrom_2 rfl (by assumption) rfl ?_
  refine pX0_37 dX0_copyFrom_5 rfl (by assumption) rfl ?_
  refine x_aload_n dX0_copyFrom_8 rfl rfl ?_
  refine x_aload_n dX0_copyFrom_9 rfl rfl ?_
  refine gX0_41 dX0_copyFrom_10 rfl (by assumption) rfl ?_
  refine pX0_41 dX0_copyFrom_13 rfl (by assumption) rfl ?_
  refine x_aload_n dX0_copyFrom_16 rfl rfl ?_
  refine x_aload_n dX0_copyFrom_17 rfl rfl ?_
  refine gX0_42 dX0_copyFrom_18 rfl (by assumption) rfl ?_
  refine pX0_42 dX0_copyFrom_21 rfl (by assumption) rfl ?_
  refine x_aload_n dX0_copyFrom_24 rfl rfl ?_
  refine gX0_9 dX0_copyFrom_25 rfl (by assumption) rfl ?_
  refine x_iconst (v := 0) dX0_copyFrom_28 (by decide) ?_
  refine x_aload_n dX0_copyFrom_29 rfl rfl ?_
  refine gX0_9 dX0_copyFrom_30 rfl (by assumption) rfl ?_
  refine x_iconst (v := 0) dX0_copyFrom_33 (by decide) ?_
  refine x_bipush (v := 9) dX0_copyFrom_34 (by decide) ?_
  refine kX0_45 dX0_copyFrom_36 rfl (by assumption) (by assumption) (by decide) (by decide) (by decide) (by decide) ?_
  refine x_aload_n dX0_copyFrom_39 rfl rfl ?_
  refine gX0_15 dX0_copyFrom_40 rfl (by assumption) rfl ?_
  refine x_iconst (v := 0) dX0_copyFrom_43 (by decide) ?_
  refine x_aload_n dX0_copyFrom_44 rfl rfl ?_
  refine gX0_15 dX0_copyFrom_45 rfl (by assumption) rfl ?_
  refine x_iconst (v := 0) dX0_copyFrom_48 (by decide) ?_
  refine x_bipush (v := 9) dX0_copyFrom_49 (by decide) ?_
  refine kX0_45 dX0_copyFrom_51 rfl (by assumption) (by assumption) (by decide) (by decide) (by decide) (by decide) ?_
  refine x_aload_n dX0_copyFrom_54 rfl rfl ?_
  refine gX0_18 dX0_copyFrom_55 rfl (by assumption) rfl ?_
  refine x_iconst (v := 0) dX0_copyFrom_58 (by decide) ?_
  refine x_aload_n dX0_copyFrom_59 rfl rfl ?_
  refine gX0_18 dX0_copyFrom_60 rfl (by assumption) rfl ?_
  refine x_iconst (v := 0) dX0_copyFrom_63 (by decide) ?_
  refine x_bipush (v := 9) dX0_copyFrom_64 (by decide) ?_
  refine kX0_45 dX0_copyFrom_66 rfl (by assumption) (by assumption) (by decide) (by decide) (by decide) (by decide) ?_
  refine x_aload_n dX0_copyFrom_69 rfl rfl ?_
  refine gX0_21 dX0_copyFrom_70 rfl (by assumption) rfl ?_
  refine x_iconst (v := 0) dX0_copyFrom_73 (by decide) ?_
  refine x_aload_n dX0_copyFrom_74 rfl rfl ?_
  refine gX0_21 dX0_copyFrom_75 rfl (by assumption) rfl ?_
  refine x_iconst (v := 0) dX0_copyFrom_78 (by decide) ?_
  refine x_bipush (v := 9) dX0_copyFrom_79 (by decide) ?_
  refine kX0_45 dX0_copyFrom_81 rfl (by assumption) (by assumption) (by decide) (by decide) (by decide) (by decide) ?_
  refine x_aload_n dX0_copyFrom_84 rfl rfl ?_
  refine gX0_24 dX0_copyFrom_85 rfl (by assumption) rfl ?_
  refine x_iconst (v := 0) dX0_copyFrom_88 (by decide) ?_
  refine x_aload_n dX0_copyFrom_89 rfl rfl ?_
  refine gX0_24 dX0_copyFrom_90 rfl (by assumption) rfl ?_
  refine x_iconst (v := 0) dX0_copyFrom_93 (by decide) ?_
  refine x_bipush (v := 9) dX0_copyFrom_94 (by decide) ?_
  refine kX0_45 dX0_copyFrom_96 rfl (by assumption) (by assumption) (by decide) (by decide) (by decide) (by decide) ?_
  refine x_return dX0_copyFrom_99 rfl ?_
  refine ⟨rfl, ⟨?_, ?_, ?_, fun j hj => ?_⟩, fun a ha => ?_⟩
  · simp [s_cp, s_put, b1, n00, n01, n02, n03, n04, n05, n10, n11, n12, n13, n14, n15, n20, n21, n22, n23, n24, n25, n30, n31, n32, n33, n34, n35, n40, n41, n42, n43, n44, n45, n50, n51, n52, n53, n54, n55]
  · simp [s_cp, s_put, b2, n00, n01, n02, n03, n04, n05, n10, n11, n12, n13, n14, n15, n20, n21, n22, n23, n24, n25, n30, n31, n32, n33, n34, n35, n40, n41, n42, n43, n44, n45, n50, n51, n52, n53, n54, n55]
  · simp [s_cp, s_put, b3, n00, n01, n02, n03, n04, n05, n10, n11, n12, n13, n14, n15, n20, n21, n22, n23, n24, n25, n30, n31, n32, n33, n34, n35, n40, n41, n42, n43, n44, n45, n50, n51, n52, n53, n54, n55]
  · have h4 := b4 j hj
    simp [s_cp, s_put, e9, va_cpy, hj, h4, n00, n01, n02, n03, n04, n05, n10, n11, n12, n13, n14, n15, n20, n21, n22, n23, n24, n25, n30, n31, n32, n33, n34, n35, n40, n41, n42, n43, n44, n45, n50, n51, n52, n53, n54, n55]
  · rw [s_cp_o _ _ _ _ (by omega), s_cp_o _ _ _ _ (by omega), s_cp_o _ _ _ _ (by omega), s_cp_o _ _ _ _ (by omega), s_cp_o _ _ _ _ (by omega), s_put_ne (by omega), s_put_ne (by omega), s_put_ne (by omega)]
end
