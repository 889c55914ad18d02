/-! THE FIRST TEXT: a literal's length and letters, by the JDK's own methods; what the start says of it is carried along (E) -/
def sPo (B : sB) (E : State → Prop) : Prop := (∀ (s U : State) (locs : List Loc), E s → va_S B.2.2 s.heap U.heap locs → s.WarmedH U.vm → E U) ∧ ∀ (U : State) (g : JFrame) (mk : MethodId) (a : Array Value), E U → E (U.calling g mk a)
def sPreE (B : sB) (E : State → Prop) (av : List Value) (S : sSt) : Array Value → State → Prop := va_Pc av (fun U => va_P B.1.1 vwCl (s_w B S) U.heap ∧ sKn B U ∧ E U)
theorem x_metE {B : sB} {E : State → Prop} {y : MethodName} {cc : ByteArray} {mL : Nat} {rt : Option FieldType} {d : Nat} {av : List Value} {S : sSt} {Q : Option Value → sSt → Prop} (l : Launch) (hap : sAp B) (hpl : plainName y.cls = true) (hln : (lg_sl av).length ≤ mL) (h : WS B E y cc mL rt d 0 (lv_args 0 av) [] S Q) :
    Met l y (Cond.code y cc mL rt :: sT) (sRm d) (sPreE B E av S) (sQ B rt Q) 0 0 B.2.2 := by
  refine Met.ofW (cc := cc) (maxL := mL) (ret := rt) hpl rfl ?_
  intro p e s m args below meth c s₁ Bd hml hv
  obtain ⟨rfl, hP, hK, hE⟩ := hv
  have hts := atoms_spec (ws := Cond.code y cc mL rt :: sT) Bd.pre
  have hown : s.vm.findClass y.cls = some m.cls := findClass_of_methodNamed Bd.named
  have hl := lv_entry av (n := mL) hln
  rw [lg_entry_eq]
  refine h p l e _ s m av.toArray below meth c ⟨Bd.exec, Bd.bytes, hml, Bd.returns, Bd.notSynchronized, hown, fun w hw => hts w (List.mem_cons_of_mem _ hw), Nat.le_refl _, Nat.le_refl _, hK, hap, hE⟩ s.heap [] 0 0 _ _ hP va_S.rf hl ⟨Nat.zero_le _, Nat.zero_le _⟩ ?_
  intro v S' H' locs' pc' ls' hq hP' hS' hend
  have hlocks := Bd.notSynchronized
  rcases hend with ⟨rfl, hr, hdd⟩ | ⟨x, ty, rfl, hr, hn, hdd⟩
  · exact W.vret Bd.exec Bd.bytes (Bd.returns.trans hr) (fun t ht hW => ⟨⟨none, S', rfl, Or.inl ⟨rfl, hr⟩, hq, by rw [ht]; exact hP'⟩, hS'.F ht⟩) hS'.2.2 hdd
  · exact W.zret Bd.exec Bd.bytes (Bd.returns.trans hr) hn (fun t ht hW => ⟨⟨some (.int x), S', rfl, Or.inr ⟨x, ty, rfl, hr, hn⟩, hq, by rw [ht]; exact hP'⟩, hS'.F ht⟩) hS'.2.2 hdd
theorem sPreE_blind {B : sB} {E : State → Prop} (hE : sPo B E) {av : List Value} {S : sSt} : FrameBlind (sPreE B E av S) := by
  intro a U g mk h
  obtain ⟨h1, h2, h3, h4⟩ := h
  exact ⟨h1, h2, sKn_same (s := U) (U := U.calling g mk a) rfl h3, hE.2 U g mk a h4⟩
section XE
variable {B : sB} {E : State → Prop} {y y2 : MethodName} {cc cc2 : ByteArray} {mL mL2 : Nat} {rt rt2 : Option FieldType} {d d2 pc i n : Nat} {lv : List (Nat × Value)} {st stk : List Value} {S : sSt} {Q Q2 : Option Value → sSt → Prop} {av : List Value}
theorem x_callSE (hE : sPo B E) (h2 : WS B E y2 cc2 mL2 rt2 d2 0 (lv_args 0 av) [] S Q2) (hm : sM y2 cc2 mL2 rt2 n) (hlen : av.length = n) (hln : (lg_sl av).length ≤ mL2) (hw : Cond.methodLink y.cls i y2 ∈ sT) (hw2 : Cond.static y2 ∈ sT) (hd2 : d2 < d) (hstk : stk = av.reverse ++ st) (hst : (st.map fun v => v.category).sum ≤ 8) (hd : decode cc pc = .ok (.invokestatic i, 3))
    (k : ∀ (v : Option Value) (S' : sSt), ((v = none ∧ rt2 = none) ∨ ∃ (x : Int32) (ty : FieldType), v = some (.int x) ∧ rt2 = some ty ∧ narrow ty (.int x) = .int x) → Q2 v S' → WS B E y cc mL rt d (pc + 3) lv (v.toList ++ st) S' Q) : WS B E y cc mL rt d pc lv stk S Q := by
  intro p l e R s m args below meth c C H locs cells slots ls QQ hP hS hl hc fin
  have hts := C.2.2.2.2.2.2.1
  refine x_run C hS hl hc (va_runS (As := av) (Ts := sT) (n := n) ⟨C.1, C.2.1, C.2.2.1, C.2.2.2.2.2.1, hts⟩ (x_metE l C.2.2.2.2.2.2.2.2.2.2.1 hm.2.2.2.1 hln h2) ⟨callB_of n hts (sT_goodIn hm.1) rfl rfl rfl (hts _ hm.2.1) (hts _ hw) hm.2.2.1 ⟨by have := C.2.2.2.2.2.2.2.1; show d2 + 1 ≤ R.frames; omega, by have := C.2.2.2.2.2.2.2.2.1; have := hm.2.2.2.2; show 8 + (mL2 + 11) + 100 * d2 ≤ R.locals; omega⟩, hts _ hw2⟩ ⟨sPreE_blind hE, fun U hU hW => ⟨rfl, by rw [hU]; exact hP, sKn_moved hW C.2.2.2.2.2.2.2.2.2.1, hE.1 s U locs C.2.2.2.2.2.2.2.2.2.2.2 (by rw [hU]; exact hS) hW⟩⟩ rfl hlen hl.1 hstk (lv_room hst) hd ⟨hc.1, hc.2⟩) fin k
theorem x_callVE {a : Nat} (hE : sPo B E) (hrc : ∀ (s : State) (H : Heap) (locs : List Loc), E s → va_S B.2.2 s.heap H locs → ∃ cell : Cell, H[a]? = some cell ∧ cell.vm.isStatics = false ∧ s.vm.findClass y2.cls = some cell.cls) (h2 : WS B E y2 cc2 mL2 rt2 d2 0 (lv_args 0 (.ref a :: av)) [] S Q2) (hm : sM y2 cc2 mL2 rt2 n) (hlen : av.length = n) (hln : (lg_sl (.ref a :: av)).length ≤ mL2) (hw : Cond.methodLink y.cls i y2 ∈ sT) (hw2 : Cond.instanceMethod y2 ∈ sT ∧ Cond.selects y2.cls y2 y2 ∈ sT) (hd2 : d2 < d) (hstk : stk = av.reverse ++ .ref a :: st) (hst : (st.map fun v => v.category).sum ≤ 8) (hd : decode cc pc = .ok (.invokevirtual i, 3))
    (k : ∀ (v : Option Value) (S' : sSt), ((v = none ∧ rt2 = none) ∨ ∃ (x : Int32) (ty : FieldType), v = some (.int x) ∧ rt2 = some ty ∧ narrow ty (.int x) = .int x) → Q2 v S' → WS B E y cc mL rt d (pc + 3) lv (v.toList ++ st) S' Q) : WS B E y cc mL rt d pc lv stk S Q := by
  intro p l e R s m args below meth c C H locs cells slots ls QQ hP hS hl hc fin
  have hts := C.2.2.2.2.2.2.1
  have hEs := C.2.2.2.2.2.2.2.2.2.2.2
  refine x_run C hS hl hc (va_runV (As := av) (Ts := sT) (n := n) (C := y2.cls) ⟨C.1, C.2.1, C.2.2.1, C.2.2.2.2.2.1, hts⟩ (x_metE l C.2.2.2.2.2.2.2.2.2.2.1 hm.2.2.2.1 hln h2) ⟨callB_of n hts (sT_goodIn hm.1) rfl rfl rfl (hts _ hm.2.1) (hts _ hw) hm.2.2.1 ⟨by have := C.2.2.2.2.2.2.2.1; show d2 + 1 ≤ R.frames; omega, by have := C.2.2.2.2.2.2.2.2.1; have := hm.2.2.2.2; show 8 + (mL2 + 11) + 100 * d2 ≤ R.locals; omega⟩, hts _ hw2.1, hts _ hw2.2⟩ ⟨sPreE_blind hE, hrc s H locs hEs hS, fun U hU hW => ⟨rfl, by rw [hU]; exact hP, sKn_moved hW C.2.2.2.2.2.2.2.2.2.1, hE.1 s U locs hEs (by rw [hU]; exact hS) hW⟩⟩ rfl hlen hl.1 hstk (lv_room hst) hd ⟨hc.1, hc.2⟩) fin k
theorem x_tlen {a N : Nat} {f : Nat → Value} {ty : FieldType} (hE : ∀ s, E s → va_T ty a N f B.2.2 s s.heap) (hd : decode cc pc = .ok (.arraylength, 1)) (k : WS B E y cc mL rt d (pc + 1) lv (.int (nI N) :: st) S Q) : WS B E y cc mL rt d pc lv (.ref a :: st) S Q := by
  intro p l e R s m args below meth c C H locs cells slots ls QQ hP hS hl hc fin
  exact va_tlen C.1 C.2.1 (hE s C.2.2.2.2.2.2.2.2.2.2.2) hS rfl hd (k p l e R s m args below meth c C H locs cells slots ls QQ hP hS hl hc fin)
theorem x_tbald {a N : Nat} {f : Nat → Int32} {j : Nat} (hE : ∀ s, E s → va_T .byte a N (fun j => .int (f j)) B.2.2 s s.heap) (hj : j < N) (hN : N < 2 ^ 31) (hd : decode cc pc = .ok (.baload, 1)) (k : WS B E y cc mL rt d (pc + 1) lv (.int (f j) :: st) S Q) : WS B E y cc mL rt d pc lv (.int (nI j) :: .ref a :: st) S Q := by
  intro p l e R s m args below meth c C H locs cells slots ls QQ hP hS hl hc fin
  exact va_tb C.1 C.2.1 (hE s C.2.2.2.2.2.2.2.2.2.2.2) hS (vp_in_nI hj hN) (v := .int (f j)) (by rw [nI_clamp (by omega)]) hd (k p l e R s m args below meth c C H locs cells slots ls QQ hP hS hl hc fin)
theorem x_getE {o fn fd : String} {a : Nat} {v : Value} {index : Nat} (hE : ∀ s, E s → va_OF o fn fd v a B.2.2 s s.heap) (hw : Cond.fieldLink y.cls index o fn fd ∈ sT) (hd : decode cc pc = .ok (.getfield index, 3)) (k : WS B E y cc mL rt d (pc + 3) lv (v :: st) S Q) : WS B E y cc mL rt d pc lv (.ref a :: st) S Q := by
  intro p l e R s m args below meth c C H locs cells slots ls QQ hP hS hl hc fin
  exact vk_getf C.1 C.2.1 (hE s C.2.2.2.2.2.2.2.2.2.2.2) hS C.2.2.2.2.2.1 (C.2.2.2.2.2.2.1 _ hw) (fun _ h => h) hd (k p l e R s m args below meth c C H locs cells slots ls QQ hP hS hl hc fin)
theorem x_getsE {o fn fd : String} {v : Value} {index : Nat} (hE : ∀ s, E s → va_Z o fn fd v B.2.2 s s.heap) (hw : Cond.fieldLink y.cls index o fn fd ∈ sT) (hd : decode cc pc = .ok (.getstatic index, 3)) (k : WS B E y cc mL rt d (pc + 3) lv (v :: st) S Q) : WS B E y cc mL rt d pc lv st S Q := by
  intro p l e R s m args below meth c C H locs cells slots ls QQ hP hS hl hc fin
  exact va_gets C.1 C.2.1 (hE s C.2.2.2.2.2.2.2.2.2.2.2) hS C.2.2.2.2.2.1 (C.2.2.2.2.2.2.1 _ hw) (fun _ h => h) hd (k p l e R s m args below meth c C H locs cells slots ls QQ hP hS hl hc fin)
theorem x_getsQ {o fn fd : String} {index : Nat} (hE : ∀ s, E s → va_Zq o fn fd B.2.2 s s.heap) (hw : Cond.fieldLink y.cls index o fn fd ∈ sT) (hd : decode cc pc = .ok (.getstatic index, 3)) (k : ∀ v : Value, (v = .null ∨ ∃ t, v = .ref t) → WS B E y cc mL rt d (pc + 3) lv (v :: st) S Q) : WS B E y cc mL rt d pc lv st S Q := by
  intro p l e R s m args below meth c C H locs cells slots ls QQ hP hS hl hc fin
  rcases hE s C.2.2.2.2.2.2.2.2.2.2.2 with h | ⟨t, h⟩
  · exact va_gets C.1 C.2.1 h hS C.2.2.2.2.2.1 (C.2.2.2.2.2.2.1 _ hw) (fun _ h => h) hd (k _ (Or.inl rfl) p l e R s m args below meth c C H locs cells slots ls QQ hP hS hl hc fin)
  · exact va_gets C.1 C.2.1 h hS C.2.2.2.2.2.1 (C.2.2.2.2.2.2.1 _ hw) (fun _ h => h) hd (k _ (Or.inr ⟨t, rfl⟩) p l e R s m args below meth c C H locs cells slots ls QQ hP hS hl hc fin)
theorem x_ldcE {own tx : String} {index a : Nat} (hy : y.cls = own) (hE : ∀ s, E s → vk_R own index tx a s) (hd : decode cc pc = .ok (.ldc index, 2)) (k : WS B E y cc mL rt d (pc + 2) lv (.ref a :: st) S Q) : WS B E y cc mL rt d pc lv st S Q := by
  intro p l e R s m args below meth c C H locs cells slots ls QQ hP hS hl hc fin
  exact va_ldcS C.1 C.2.1 (hy ▸ C.2.2.2.2.2.1) (hE s C.2.2.2.2.2.2.2.2.2.2.2) hd (k p l e R s m args below meth c C H locs cells slots ls QQ hP hS hl hc fin)
end XE
def stT : String := "l18;k3;h8,12;g0,40,60;g0,50,80;g1,20,40;g2,30,60;g3,60,99;g0,10,45;"
def sEz (A : Nat → Prop) (aK aV n : Nat) (f : Nat → Int32) (U : State) : Prop :=
  va_O "java/lang/String" aK A U U.heap ∧ va_OF "java/lang/String" "coder" "B" (.int 0) aK A U U.heap ∧ va_OF "java/lang/String" "value" "[B" (.ref aV) aK A U U.heap ∧ va_T .byte aV n (fun j => .int (f j)) A U U.heap ∧ va_Z "java/lang/String" "COMPACT_STRINGS" "Z" (.int 1) A U U.heap ∧ va_Zq "jdk/internal/util/Preconditions" "SIOOBE_FORMATTER" "Ljava/util/function/BiFunction;" A U U.heap ∧ vk_R "ToastBelt" 66 stT aK U
theorem sEz_po {B : sB} {aK aV n : Nat} {f : Nat → Int32} : sPo B (sEz B.2.2 aK aV n f) := by
  refine ⟨fun s U locs h hS hW => ?_, fun U g mk a h => ?_⟩
  · obtain ⟨h1, h2, h3, h4, h5, h6, h7⟩ := h
    exact ⟨(h1.kept hS.2.1).moved hW.alike, (h2.kept hS.2.1).moved hW.alike, (h3.kept hS.2.1).moved hW.alike, (h4.kept hS.2.1).moved hW.alike, (h5.kept hS.2.1).moved hW.alike, (h6.kept hS.2.1).moved hW.alike, h7.warm hW⟩
  · obtain ⟨h1, h2, h3, h4, h5, h6, h7⟩ := h
    have hv : U.vm.Alike (U.calling g mk a).vm := Vm.Alike.refl U.vm
    exact ⟨h1.moved hv, h2.moved hv, h3.moved hv, h4.moved hv, h5.moved hv, h6.moved hv, h7.same rfl⟩
def RS1 : String := "java/lang/String"
def RS2 : String := "java/lang/StringLatin1"
def RS3 : String := "jdk/internal/util/Preconditions"
def yS_length : MethodName := ⟨RS1, "length", "()I"⟩
def yS_coder : MethodName := ⟨RS1, "coder", "()B"⟩
def yS_charAt : MethodName := ⟨RS1, "charAt", "(I)C"⟩
def yS_isLatin1 : MethodName := ⟨RS1, "isLatin1", "()Z"⟩
def yS_checkIndex : MethodName := ⟨RS1, "checkIndex", "(II)V"⟩
def yS_charAt2 : MethodName := ⟨RS2, "charAt", "([BI)C"⟩
def yS_checkIndex3 : MethodName := ⟨RS3, "checkIndex", "(IILjava/util/function/BiFunction;)I"⟩
abbrev cS_length : ByteArray := prog_11_method_54_code
abbrev cS_coder : ByteArray := prog_11_method_152_code
abbrev cS_charAt : ByteArray := prog_11_method_56_code
abbrev cS_isLatin1 : ByteArray := prog_11_method_154_code
abbrev cS_checkIndex : ByteArray := prog_11_method_155_code
abbrev cS_charAt2 : ByteArray := prog_12_method_2_code
abbrev cS_checkIndex3 : ByteArray := prog_15_method_11_code
theorem mS_length : sM yS_length cS_length 1 (some .int) 0 := ⟨sT_1 206 rfl rfl, sT_1 8 rfl rfl, by decide +kernel, by decide +kernel, by decide⟩
theorem mS_coder : sM yS_coder cS_coder 1 (some .byte) 0 := ⟨sT_1 210 rfl rfl, sT_1 8 rfl rfl, by decide +kernel, by decide +kernel, by decide⟩
theorem mS_charAt : sM yS_charAt cS_charAt 2 (some .char) 1 := ⟨sT_1 216 rfl rfl, sT_1 8 rfl rfl, by decide +kernel, by decide +kernel, by decide⟩
theorem mS_isLatin1 : sM yS_isLatin1 cS_isLatin1 1 (some .boolean) 0 := ⟨sT_1 220 rfl rfl, sT_1 8 rfl rfl, by decide +kernel, by decide +kernel, by decide⟩
theorem mS_checkIndex : sM yS_checkIndex cS_checkIndex 2 none 2 := ⟨sT_1 226 rfl rfl, sT_1 8 rfl rfl, by decide +kernel, by decide +kernel, by decide⟩
theorem mS_charAt2 : sM yS_charAt2 cS_charAt2 2 (some .char) 2 := ⟨sT_1 223 rfl rfl, sT_1 9 rfl rfl, by decide +kernel, by decide +kernel, by decide⟩
theorem mS_checkIndex3 : sM yS_checkIndex3 cS_checkIndex3 3 (some .int) 3 := ⟨sT_1 231 rfl rfl, sT_1 10 rfl rfl, by decide +kernel, by decide +kernel, by decide⟩
theorem dS_coder_0 : decode cS_coder 0 = .ok (.getstatic 38, 3) := by decide +kernel
theorem dS_coder_3 : decode cS_coder 3 = .ok (.ifCond .eq 10, 3) := by decide +kernel
theorem dS_coder_6 : decode cS_coder 6 = .ok (.aload_n 0, 1) := by decide +kernel
theorem dS_coder_7 : decode cS_coder 7 = .ok (.getfield 15, 3) := by decide +kernel
theorem dS_coder_10 : decode cS_coder 10 = .ok (.goto 4, 3) := by decide +kernel
theorem dS_coder_14 : decode cS_coder 14 = .ok (.ireturn, 1) := by decide +kernel
theorem dS_isLatin1_0 : decode cS_isLatin1 0 = .ok (.getstatic 38, 3) := by decide +kernel
theorem dS_isLatin1_3 : decode cS_isLatin1 3 = .ok (.ifCond .eq 14, 3) := by decide +kernel
theorem dS_isLatin1_6 : decode cS_isLatin1 6 = .ok (.aload_n 0, 1) := by decide +kernel
theorem dS_isLatin1_7 : decode cS_isLatin1 7 = .ok (.getfield 15, 3) := by decide +kernel
theorem dS_isLatin1_10 : decode cS_isLatin1 10 = .ok (.ifCond .ne 7, 3) := by decide +kernel
theorem dS_isLatin1_13 : decode cS_isLatin1 13 = .ok (.iconst 1, 1) := by decide +kernel
theorem dS_isLatin1_14 : decode cS_isLatin1 14 = .ok (.goto 4, 3) := by decide +kernel
theorem dS_isLatin1_18 : decode cS_isLatin1 18 = .ok (.ireturn, 1) := by decide +kernel
theorem dS_length_0 : decode cS_length 0 = .ok (.aload_n 0, 1) := by decide +kernel
theorem dS_length_1 : decode cS_length 1 = .ok (.getfield 9, 3) := by decide +kernel
theorem dS_length_4 : decode cS_length 4 = .ok (.arraylength, 1) := by decide +kernel
theorem dS_length_5 : decode cS_length 5 = .ok (.aload_n 0, 1) := by decide +kernel
theorem dS_length_6 : decode cS_length 6 = .ok (.invokevirtual 335, 3) := by decide +kernel
theorem dS_length_9 : decode cS_length 9 = .ok (.ishr, 1) := by decide +kernel
theorem dS_length_10 : decode cS_length 10 = .ok (.ireturn, 1) := by decide +kernel
theorem dS_checkIndex3_0 : decode cS_checkIndex3 0 = .ok (.iload_n 0, 1) := by decide +kernel
theorem dS_checkIndex3_1 : decode cS_checkIndex3 1 = .ok (.ifCond .lt 8, 3) := by decide +kernel
theorem dS_checkIndex3_4 : decode cS_checkIndex3 4 = .ok (.iload_n 0, 1) := by decide +kernel
theorem dS_checkIndex3_5 : decode cS_checkIndex3 5 = .ok (.iload_n 1, 1) := by decide +kernel
theorem dS_checkIndex3_6 : decode cS_checkIndex3 6 = .ok (.if_icmp .lt 10, 3) := by decide +kernel
theorem dS_checkIndex3_16 : decode cS_checkIndex3 16 = .ok (.iload_n 0, 1) := by decide +kernel
theorem dS_checkIndex3_17 : decode cS_checkIndex3 17 = .ok (.ireturn, 1) := by decide +kernel
theorem dS_checkIndex_0 : decode cS_checkIndex 0 = .ok (.iload_n 0, 1) := by decide +kernel
theorem dS_checkIndex_1 : decode cS_checkIndex 1 = .ok (.iload_n 1, 1) := by decide +kernel
theorem dS_checkIndex_2 : decode cS_checkIndex 2 = .ok (.getstatic 1053, 3) := by decide +kernel
theorem dS_checkIndex_5 : decode cS_checkIndex 5 = .ok (.invokestatic 1059, 3) := by decide +kernel
theorem dS_checkIndex_8 : decode cS_checkIndex 8 = .ok (.pop, 1) := by decide +kernel
theorem dS_checkIndex_9 : decode cS_checkIndex 9 = .ok (.return_, 1) := by decide +kernel
theorem dS_charAt2_0 : decode cS_charAt2 0 = .ok (.iload_n 1, 1) := by decide +kernel
theorem dS_charAt2_1 : decode cS_charAt2 1 = .ok (.aload_n 0, 1) := by decide +kernel
theorem dS_charAt2_2 : decode cS_charAt2 2 = .ok (.arraylength, 1) := by decide +kernel
theorem dS_charAt2_3 : decode cS_charAt2 3 = .ok (.invokestatic 9, 3) := by decide +kernel
theorem dS_charAt2_6 : decode cS_charAt2 6 = .ok (.aload_n 0, 1) := by decide +kernel
theorem dS_charAt2_7 : decode cS_charAt2 7 = .ok (.iload_n 1, 1) := by decide +kernel
theorem dS_charAt2_8 : decode cS_charAt2 8 = .ok (.baload, 1) := by decide +kernel
theorem dS_charAt2_9 : decode cS_charAt2 9 = .ok (.sipush 255, 3) := by decide +kernel
theorem dS_charAt2_12 : decode cS_charAt2 12 = .ok (.iand, 1) := by decide +kernel
theorem dS_charAt2_13 : decode cS_charAt2 13 = .ok (.i2c, 1) := by decide +kernel
theorem dS_charAt2_14 : decode cS_charAt2 14 = .ok (.ireturn, 1) := by decide +kernel
theorem dS_charAt_0 : decode cS_charAt 0 = .ok (.aload_n 0, 1) := by decide +kernel
theorem dS_charAt_1 : decode cS_charAt 1 = .ok (.invokevirtual 492, 3) := by decide +kernel
theorem dS_charAt_4 : decode cS_charAt 4 = .ok (.ifCond .eq 12, 3) := by decide +kernel
theorem dS_charAt_7 : decode cS_charAt 7 = .ok (.aload_n 0, 1) := by decide +kernel
theorem dS_charAt_8 : decode cS_charAt 8 = .ok (.getfield 9, 3) := by decide +kernel
theorem dS_charAt_11 : decode cS_charAt 11 = .ok (.iload_n 1, 1) := by decide +kernel
theorem dS_charAt_12 : decode cS_charAt 12 = .ok (.invokestatic 495, 3) := by decide +kernel
theorem dS_charAt_15 : decode cS_charAt 15 = .ok (.ireturn, 1) := by decide +kernel
section SM
variable {B : sB} {aK aV n : Nat} {f : Nat → Int32} {S : sSt}
theorem cs_coder : WS B (sEz B.2.2 aK aV n f) yS_coder cS_coder 1 (some .byte) 1 0 (lv_args 0 [.ref aK]) [] S (qI 0 S) := by
  show WS B (sEz B.2.2 aK aV n f) yS_coder cS_coder 1 (some .byte) 1 0 [(0, .ref aK)] [] S (qI 0 S)
  refine x_getsE (index := 38) (fun s h => h.2.2.2.2.1) (sT_1 211 rfl rfl) dS_coder_0 ?_
  refine x_if_eq (tgt := 13) (off := 10) dS_coder_3 (by decide) (fun h => absurd h (by decide)) (fun _ => ?_)
  refine x_aload_n dS_coder_6 rfl rfl ?_
  refine x_getE (index := 15) (fun s h => h.2.1) (sT_4 236 rfl rfl) dS_coder_7 ?_
  refine x_goto (tgt := 14) (off := 4) dS_coder_10 (by decide) ?_
  refine x_ireturn dS_coder_14 rfl rfl ?_
  exact ⟨rfl, rfl⟩
theorem cs_isLatin1 : WS B (sEz B.2.2 aK aV n f) yS_isLatin1 cS_isLatin1 1 (some .boolean) 1 0 (lv_args 0 [.ref aK]) [] S (qI 1 S) := by
  show WS B (sEz B.2.2 aK aV n f) yS_isLatin1 cS_isLatin1 1 (some .boolean) 1 0 [(0, .ref aK)] [] S (qI 1 S)
  refine x_getsE (index := 38) (fun s h => h.2.2.2.2.1) (sT_1 211 rfl rfl) dS_isLatin1_0 ?_
  refine x_if_eq (tgt := 17) (off := 14) dS_isLatin1_3 (by decide) (fun h => absurd h (by decide)) (fun _ => ?_)
  refine x_aload_n dS_isLatin1_6 rfl rfl ?_
  refine x_getE (index := 15) (fun s h => h.2.1) (sT_4 236 rfl rfl) dS_isLatin1_7 ?_
  refine x_if_ne (tgt := 17) (off := 7) dS_isLatin1_10 (by decide) (fun h => absurd rfl h) (fun _ => ?_)
  refine x_iconst (v := 1) dS_isLatin1_13 (by decide) ?_
  refine x_goto (tgt := 18) (off := 4) dS_isLatin1_14 (by decide) ?_
  refine x_ireturn dS_isLatin1_18 rfl rfl ?_
  exact ⟨rfl, rfl⟩
theorem cs_length (hn : n < 2 ^ 31) : WS B (sEz B.2.2 aK aV n f) yS_length cS_length 1 (some .int) 2 0 (lv_args 0 [.ref aK]) [] S (qI (nI n) S) := by
  show WS B (sEz B.2.2 aK aV n f) yS_length cS_length 1 (some .int) 2 0 [(0, .ref aK)] [] S (qI (nI n) S)
  refine x_aload_n dS_length_0 rfl rfl ?_
  refine x_getE (index := 9) (fun s h => h.2.2.1) (sT_4 235 rfl rfl) dS_length_1 ?_
  refine x_tlen (fun s h => h.2.2.2.1) dS_length_4 ?_
  refine x_aload_n dS_length_5 rfl rfl ?_
  refine x_callVE (i := 335) (n := 0) (av := []) sEz_po (fun s H locs h hS => ?_) cs_coder mS_coder rfl (Nat.le_of_ble_eq_true rfl) (sT_1 207 rfl rfl) ⟨sT_1 208 rfl rfl, sT_1 209 rfl rfl⟩ (by decide) rfl (Nat.le_of_ble_eq_true rfl) dS_length_6 (fun v S' _ hq => ?_)
  · obtain ⟨cell, h1, h2, h3, -⟩ := h.1.kept hS.2.1
    exact ⟨cell, h1, h2, h3⟩
  · obtain ⟨rfl, rfl⟩ := hq
    refine x_ishr dS_length_9 ?_
    refine x_re (b := nI n) ?_ ?_
    · exact sc_shr0 hn
    · refine x_ireturn (by decide +kernel) rfl rfl ?_
      exact ⟨rfl, rfl⟩
theorem cs_checkIndex3 {j : Nat} {v : Value} (hn : n < 2 ^ 31) (hj : j < n) : WS B (sEz B.2.2 aK aV n f) yS_checkIndex3 cS_checkIndex3 3 (some .int) 1 0 (lv_args 0 [.int (nI j), .int (nI n), v]) [] S (qI (nI j) S) := by
  show WS B (sEz B.2.2 aK aV n f) yS_checkIndex3 cS_checkIndex3 3 (some .int) 1 0 [(0, .int (nI j)), (1, .int (nI n)), (2, v)] [] S (qI (nI j) S)
  refine x_iload_n dS_checkIndex3_0 rfl rfl ?_
  refine x_if_lt (tgt := 9) (off := 8) dS_checkIndex3_1 (by decide) (fun h => absurd h (nI_pos (by omega))) (fun _ => ?_)
  refine x_iload_n dS_checkIndex3_4 rfl rfl ?_
  refine x_iload_n dS_checkIndex3_5 rfl rfl ?_
  refine x_icmp_lt (tgt := 16) (off := 10) dS_checkIndex3_6 (by decide) (fun _ => ?_) (fun h => absurd (nI_lt hj hn) h)
  refine x_iload_n dS_checkIndex3_16 rfl rfl ?_
  refine x_ireturn dS_checkIndex3_17 rfl rfl ?_
  exact ⟨rfl, rfl⟩
theorem cs_checkIndex {j : Nat} (hn : n < 2 ^ 31) (hj : j < n) : WS B (sEz B.2.2 aK aV n f) yS_checkIndex cS_checkIndex 2 none 2 0 (lv_args 0 [.int (nI j), .int (nI n)]) [] S (qV S) := by
  show WS B (sEz B.2.2 aK aV n f) yS_checkIndex cS_checkIndex 2 none 2 0 [(0, .int (nI j)), (1, .int (nI n))] [] S (qV S)
  refine x_iload_n dS_checkIndex_0 rfl rfl ?_
  refine x_iload_n dS_checkIndex_1 rfl rfl ?_
  refine x_getsQ (index := 1053) (fun s h => h.2.2.2.2.2.1) (sT_1 227 rfl rfl) dS_checkIndex_2 (fun v hv => ?_)
  refine x_callSE (i := 1059) (n := 3) (av := [.int (nI j), .int (nI n), v]) sEz_po (cs_checkIndex3 hn hj) mS_checkIndex3 rfl ?_ (sT_1 229 rfl rfl) (sT_1 230 rfl rfl) (by decide) rfl (Nat.le_of_ble_eq_true rfl) dS_checkIndex_5 (fun v S' _ hq => ?_)
  · rcases hv with rfl | ⟨t, rfl⟩ <;> exact Nat.le_of_ble_eq_true rfl
  · obtain ⟨rfl, rfl⟩ := hq
    refine x_pop dS_checkIndex_8 rfl ?_
    refine x_return dS_checkIndex_9 rfl ?_
    exact ⟨rfl, rfl⟩
theorem cs_charAt2 {j : Nat} (hn : n < 2 ^ 31) (hj : j < n) : WS B (sEz B.2.2 aK aV n f) yS_charAt2 cS_charAt2 2 (some .char) 3 0 (lv_args 0 [.ref aV, .int (nI j)]) [] S (qI (f j &&& 255) S) := by
  show WS B (sEz B.2.2 aK aV n f) yS_charAt2 cS_charAt2 2 (some .char) 3 0 [(0, .ref aV), (1, .int (nI j))] [] S (qI (f j &&& 255) S)
  refine x_iload_n dS_charAt2_0 rfl rfl ?_
  refine x_aload_n dS_charAt2_1 rfl rfl ?_
  refine x_tlen (fun s h => h.2.2.2.1) dS_charAt2_2 ?_
  refine x_callSE (i := 9) (n := 2) (av := [.int (nI j), .int (nI n)]) sEz_po (cs_checkIndex hn hj) mS_checkIndex rfl (Nat.le_of_ble_eq_true rfl) (sT_1 224 rfl rfl) (sT_1 225 rfl rfl) (by decide) rfl (Nat.le_of_ble_eq_true rfl) dS_charAt2_3 (fun v S' _ hq => ?_)
  obtain ⟨rfl, rfl⟩ := hq
  refine x_aload_n dS_charAt2_6 rfl rfl ?_
  refine x_iload_n dS_charAt2_7 rfl rfl ?_
  refine x_tbald (fun s h => h.2.2.2.1) hj hn dS_charAt2_8 ?_
  refine x_sipush (v := 255) dS_charAt2_9 (by decide) ?_
  refine x_iand dS_charAt2_12 ?_
  refine x_i2c dS_charAt2_13 ?_
  refine x_re (sc_c2 _) ?_
  refine x_ireturn dS_charAt2_14 rfl (sc_nar _) ?_
  exact ⟨rfl, rfl⟩
theorem cs_charAt {j : Nat} (hn : n < 2 ^ 31) (hj : j < n) : WS B (sEz B.2.2 aK aV n f) yS_charAt cS_charAt 2 (some .char) 4 0 (lv_args 0 [.ref aK, .int (nI j)]) [] S (qI (f j &&& 255) S) := by
  show WS B (sEz B.2.2 aK aV n f) yS_charAt cS_charAt 2 (some .char) 4 0 [(0, .ref aK), (1, .int (nI j))] [] S (qI (f j &&& 255) S)
  refine x_aload_n dS_charAt_0 rfl rfl ?_
  refine x_callVE (i := 492) (n := 0) (av := []) sEz_po (fun s H locs h hS => ?_) cs_isLatin1 mS_isLatin1 rfl (Nat.le_of_ble_eq_true rfl) (sT_1 217 rfl rfl) ⟨sT_1 218 rfl rfl, sT_1 219 rfl rfl⟩ (by decide) rfl (Nat.le_of_ble_eq_true rfl) dS_charAt_1 (fun v S' _ hq => ?_)
  · obtain ⟨cell, h1, h2, h3, -⟩ := h.1.kept hS.2.1
    exact ⟨cell, h1, h2, h3⟩
  · obtain ⟨rfl, rfl⟩ := hq
    refine x_if_eq (tgt := 16) (off := 12) dS_charAt_4 (by decide) (fun h => absurd h (by decide)) (fun _ => ?_)
    refine x_aload_n dS_charAt_7 rfl rfl ?_
    refine x_getE (index := 9) (fun s h => h.2.2.1) (sT_4 235 rfl rfl) dS_charAt_8 ?_
    refine x_iload_n dS_charAt_11 rfl rfl ?_
    refine x_callSE (i := 495) (n := 2) (av := [.ref aV, .int (nI j)]) sEz_po (cs_charAt2 hn hj) mS_charAt2 rfl (Nat.le_of_ble_eq_true rfl) (sT_1 221 rfl rfl) (sT_1 222 rfl rfl) (by decide) rfl (Nat.le_of_ble_eq_true rfl) dS_charAt_12 (fun v S'' hn2 hq => ?_)
    obtain ⟨rfl, rfl⟩ := hq
    refine x_ireturn dS_charAt_15 rfl ?_ ?_
    · rcases hn2 with ⟨h, -⟩ | ⟨x, ty, h1, h2, h3⟩
      · cases h
      · cases h1; cases h2; exact h3
    · exact ⟨rfl, rfl⟩
end SM
