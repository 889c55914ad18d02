set_option maxHeartbeats 1000000 in
set_option maxRecDepth 20000 in
theorem c_setAtStart {B : sB} {S : sSt} {c pl g : Nat} {r : aR} {x : Int32} (hc : shB B c pl) (hB : rB S c r) (hg : g < 9) : CS B yX0_setAtStart cX0_setAtStart 3 none 1 [.ref (s_ad B c), .int (nI g), .int x] S (qB S c (putF r g x)) := by
  refine cs_intro (lv := [(0, .ref (s_ad B c)), (1, .int (nI g)), (2, .int x)]) rfl ?_
  obtain ⟨hc0, hc1, hc2, hc3, hc4, hc5⟩ := hc
  refine x_aload_n dX0_setAtStart_0 rfl rfl ?_
  refine gX0_9 dX0_setAtStart_1 rfl (by assumption) rfl ?_
  refine x_iload_n dX0_setAtStart_4 rfl rfl ?_
  refine x_iconst (v := 1) dX0_setAtStart_5 (by decide) ?_
  first | refine x_iastN (by assumption) dX0_setAtStart_6 (by omega) (by decide) ?_ | refine x_iast (by assumption) dX0_setAtStart_6 (by assumption) ?_
  refine x_aload_n dX0_setAtStart_7 rfl rfl ?_
  refine gX0_15 dX0_setAtStart_8 rfl (by assumption) rfl ?_
  refine x_iload_n dX0_setAtStart_11 rfl rfl ?_
  refine x_iload_n dX0_setAtStart_12 rfl rfl ?_
  first | refine x_iastN (by assumption) dX0_setAtStart_13 (by omega) (by decide) ?_ | refine x_iast (by assumption) dX0_setAtStart_13 (by assumption) ?_
  refine x_aload_n dX0_setAtStart_14 rfl rfl ?_
  refine gX0_18 dX0_setAtStart_15 rfl (by assumption) rfl ?_
  refine x_iload_n dX0_setAtStart_18 rfl rfl ?_
  refine x_iconst (v := 0) dX0_setAtStart_19 (by decide) ?_
  first | refine x_iastN (by assumption) dX0_setAtStart_20 (by omega) (by decide) ?_ | refine x_iast (by assumption) dX0_setAtStart_20 (by assumption) ?_
  refine x_return dX0_setAtStart_21 rfl ?_
  exact ⟨rfl, chB_p (chB_l (chB_w (chB_rfl hB) hg) hg) hg⟩

set_option maxHeartbeats 1000000 in
set_option maxRecDepth 20000 in
theorem c_eat {B : sB} {S : sSt} {c pl g s : Nat} {r : aR} (hc : shB B c pl) (hB : rB S c r) (hs : s < 9) : CS B yX0_eat cX0_eat 3 none 1 [.ref (s_ad B c), .int (nI g), .int (nI s)] S (qB S c (eatF r g s)) := by
  refine cs_intro (lv := [(0, .ref (s_ad B c)), (1, .int (nI g)), (2, .int (nI s))]) rfl ?_
  obtain ⟨hc0, hc1, hc2, hc3, hc4, hc5⟩ := hc
  refine x_aload_n dX0_eat_0 rfl rfl ?_
  refine gX0_9 dX0_eat_1 rfl (by assumption) rfl ?_
  refine x_iload_n dX0_eat_4 rfl rfl ?_
  refine x_iconst (v := 3) dX0_eat_5 (by decide) ?_
  first | refine x_iastN (by assumption) dX0_eat_6 (by omega) (by decide) ?_ | refine x_iast (by assumption) dX0_eat_6 (by assumption) ?_
  refine x_aload_n dX0_eat_7 rfl rfl ?_
  refine gX0_24 dX0_eat_8 rfl (by assumption) rfl ?_
  refine x_iload_n dX0_eat_11 rfl rfl ?_
  refine x_iload_n dX0_eat_12 rfl rfl ?_
  first | refine x_iastN (by assumption) dX0_eat_13 (by omega) (by decide) ?_ | refine x_iast (by assumption) dX0_eat_13 (by assumption) ?_
  refine x_return dX0_eat_14 rfl ?_
  exact ⟨rfl, chB_e (chB_w (chB_rfl hB) hs) hs⟩

theorem oI_none {o : Option Nat} {n : Nat} (hn : n < 2 ^ 31) (h : ∀ j, o = some j → j < n) : oI o = -4 ↔ o.isNone = true := by
  cases o with
  | none => simp [oI]
  | some j =>
    have hj := h j rfl
    simp only [oI, Option.isNone_some]
    constructor
    · intro q
      have := congrArg Int32.toInt q
      rw [nI_toInt (by omega)] at this
      have e : (-4 : Int32).toInt = -4 := by decide
      omega
    · intro q; cases q
theorem fndU_lt {f : Nat → Bool} : ∀ {k i j : Nat}, fndU f k i = some j → i ≤ j ∧ j < i + k ∧ f j = true := by
  intro k; induction k with
  | zero => intro i j h; cases h
  | succ k ih =>
    intro i j h
    rw [fndU] at h
    split at h
    · rename_i hf; cases h; exact ⟨Nat.le_refl _, by omega, hf⟩
    · obtain ⟨h1, h2, h3⟩ := ih h; exact ⟨by omega, by omega, h3⟩
theorem fndU_none {f : Nat → Bool} : ∀ {k i : Nat}, fndU f k i = none → ∀ j, i ≤ j → j < i + k → f j = false := by
  intro k; induction k with
  | zero => intro i h j h1 h2; omega
  | succ k ih =>
    intro i h j h1 h2
    rw [fndU] at h
    split at h
    · cases h
    · rename_i hf
      by_cases e : j = i
      · subst e; exact Bool.eq_false_iff.mpr hf
      · exact ih h j (by omega) (by omega)

set_option maxHeartbeats 1000000 in
set_option maxRecDepth 20000 in
theorem c_mayEat {B : sB} {S : sSt} {c pl : Nat} {P : aP} {r : aR} {g s : Nat} (hc : shB B c pl) (hp : shP B pl) (hP : rP S pl P) (hB : rB S c r) (hg : g < P.1) (hs : s < P.1) : CS B yX0_mayEat cX0_mayEat 3 (some .boolean) 2 [.ref (s_ad B c), .int (nI g), .int (nI s)] S (qI (bI (canT P r g s = true)) S) := by
  refine cs_intro (lv := [(0, .ref (s_ad B c)), (1, .int (nI g)), (2, .int (nI s))]) rfl ?_
  have hct := c_eatenBy (x := nI g) hc hp hP hB
  obtain ⟨hc0, hc1, hc2, hc3, hc4, hc5⟩ := hc
  obtain ⟨hp0, hp1, hp2, hp3⟩ := hp
  obtain ⟨hn9, hn, hlen, hmst, hPi⟩ := id hP
  have hr := (hB.2.2.2 s (by omega)).1
  have hk1 := (hPi s hs).1
  have hk2 := (hPi g hg).1
  have ho : oI (fndU (fun s => r (39 + s) == nI g) P.1 0) = -4 ↔ (etn P r g).isNone = true := oI_none (n := P.1) (by omega) (fun j hj => by have := fndU_lt hj; omega)
  refine x_aload_n dX0_mayEat_0 rfl rfl ?_
  refine gX0_9 dX0_mayEat_1 rfl (by assumption) rfl ?_
  refine x_iload_n dX0_mayEat_4 rfl rfl ?_
  first | refine x_ialdN (by assumption) dX0_mayEat_5 (by omega) (by decide) ?_ | refine x_iald (by assumption) dX0_mayEat_5 (by assumption) ?_
  refine x_iconst (v := 2) dX0_mayEat_6 (by decide) ?_
  refine x_icmp_ne (tgt := 45) dX0_mayEat_7 (by decide) (fun c_7 => ?_) (fun c_7 => ?_)
  · refine x_iconst (v := 0) dX0_mayEat_45 (by decide) ?_
    refine x_ireturn dX0_mayEat_46 rfl (by first | rfl | exact bI_nar _) ?_
    first
    | exact qI_of (bI_f (by rw [canT, Bool.and_eq_true, Bool.and_eq_true, beq_iff_eq, beq_iff_eq, ← hr, ← hk1, ← hk2]; exact fun z => c_7 z.1)) rfl
    | exact qI_of (bI_f (by rw [canT, Bool.and_eq_true, Bool.and_eq_true, beq_iff_eq, beq_iff_eq, ← hr, ← hk1, ← hk2]; exact fun z => c_28 z.2.1)) rfl
    | exact qI_of (bI_f (by rw [canT, Bool.and_eq_true, Bool.and_eq_true, beq_iff_eq, beq_iff_eq, ← hr, ← hk1, ← hk2]; exact fun z => c_38 (ho.mpr z.2.2))) rfl
    | exact qI_of (bI_t (by rw [canT, Bool.and_eq_true, Bool.and_eq_true, beq_iff_eq, beq_iff_eq, ← hr, ← hk1, ← hk2]; exact ⟨c_7, c_28, ho.mp c_38⟩)) rfl
  · refine x_aload_n dX0_mayEat_10 rfl rfl ?_
    refine gX0_27 dX0_mayEat_11 rfl (by assumption) rfl ?_
    refine gX0_54 dX0_mayEat_14 rfl (by assumption) rfl ?_
    refine x_iload_n dX0_mayEat_17 rfl rfl ?_
    first | refine x_ialdN (by assumption) dX0_mayEat_18 (by omega) (by decide) ?_ | refine x_iald (by assumption) dX0_mayEat_18 (by assumption) ?_
    refine x_aload_n dX0_mayEat_19 rfl rfl ?_
    refine gX0_27 dX0_mayEat_20 rfl (by assumption) rfl ?_
    refine gX0_54 dX0_mayEat_23 rfl (by assumption) rfl ?_
    refine x_iload_n dX0_mayEat_26 rfl rfl ?_
    first | refine x_ialdN (by assumption) dX0_mayEat_27 (by omega) (by decide) ?_ | refine x_iald (by assumption) dX0_mayEat_27 (by assumption) ?_
    refine x_icmp_ne (tgt := 45) dX0_mayEat_28 (by decide) (fun c_28 => ?_) (fun c_28 => ?_)
    · refine x_iconst (v := 0) dX0_mayEat_45 (by decide) ?_
      refine x_ireturn dX0_mayEat_46 rfl (by first | rfl | exact bI_nar _) ?_
      first
      | exact qI_of (bI_f (by rw [canT, Bool.and_eq_true, Bool.and_eq_true, beq_iff_eq, beq_iff_eq, ← hr, ← hk1, ← hk2]; exact fun z => c_7 z.1)) rfl
      | exact qI_of (bI_f (by rw [canT, Bool.and_eq_true, Bool.and_eq_true, beq_iff_eq, beq_iff_eq, ← hr, ← hk1, ← hk2]; exact fun z => c_28 z.2.1)) rfl
      | exact qI_of (bI_f (by rw [canT, Bool.and_eq_true, Bool.and_eq_true, beq_iff_eq, beq_iff_eq, ← hr, ← hk1, ← hk2]; exact fun z => c_38 (ho.mpr z.2.2))) rfl
      | exact qI_of (bI_t (by rw [canT, Bool.and_eq_true, Bool.and_eq_true, beq_iff_eq, beq_iff_eq, ← hr, ← hk1, ← hk2]; exact ⟨c_7, c_28, ho.mp c_38⟩)) rfl
    · refine x_aload_n dX0_mayEat_31 rfl rfl ?_
      refine x_iload_n dX0_mayEat_32 rfl rfl ?_
      refine kX0_67 dX0_mayEat_33 rfl (by assumption) (hct) (by decide) (Nat.le_of_ble_eq_true rfl) ?_
      refine x_bipush (v := (-4)) dX0_mayEat_36 (by decide) ?_
      refine x_icmp_ne (tgt := 45) dX0_mayEat_38 (by decide) (fun c_38 => ?_) (fun c_38 => ?_)
      · refine x_iconst (v := 0) dX0_mayEat_45 (by decide) ?_
        refine x_ireturn dX0_mayEat_46 rfl (by first | rfl | exact bI_nar _) ?_
        first
        | exact qI_of (bI_f (by rw [canT, Bool.and_eq_true, Bool.and_eq_true, beq_iff_eq, beq_iff_eq, ← hr, ← hk1, ← hk2]; exact fun z => c_7 z.1)) rfl
        | exact qI_of (bI_f (by rw [canT, Bool.and_eq_true, Bool.and_eq_true, beq_iff_eq, beq_iff_eq, ← hr, ← hk1, ← hk2]; exact fun z => c_28 z.2.1)) rfl
        | exact qI_of (bI_f (by rw [canT, Bool.and_eq_true, Bool.and_eq_true, beq_iff_eq, beq_iff_eq, ← hr, ← hk1, ← hk2]; exact fun z => c_38 (ho.mpr z.2.2))) rfl
        | exact qI_of (bI_t (by rw [canT, Bool.and_eq_true, Bool.and_eq_true, beq_iff_eq, beq_iff_eq, ← hr, ← hk1, ← hk2]; exact ⟨c_7, c_28, ho.mp c_38⟩)) rfl
      · refine x_iconst (v := 1) dX0_mayEat_41 (by decide) ?_
        refine x_goto (tgt := 46) dX0_mayEat_42 (by decide) ?_
        refine x_ireturn dX0_mayEat_46 rfl (by first | rfl | exact bI_nar _) ?_
        first
        | exact qI_of (bI_f (by rw [canT, Bool.and_eq_true, Bool.and_eq_true, beq_iff_eq, beq_iff_eq, ← hr, ← hk1, ← hk2]; exact fun z => c_7 z.1)) rfl
        | exact qI_of (bI_f (by rw [canT, Bool.and_eq_true, Bool.and_eq_true, beq_iff_eq, beq_iff_eq, ← hr, ← hk1, ← hk2]; exact fun z => c_28 z.2.1)) rfl
        | exact qI_of (bI_f (by rw [canT, Bool.and_eq_true, Bool.and_eq_true, beq_iff_eq, beq_iff_eq, ← hr, ← hk1, ← hk2]; exact fun z => c_38 (ho.mpr z.2.2))) rfl
        | exact qI_of (bI_t (by rw [canT, Bool.and_eq_true, Bool.and_eq_true, beq_iff_eq, beq_iff_eq, ← hr, ← hk1, ← hk2]; exact ⟨c_7, c_28, ho.mp c_38⟩)) rfl

set_option maxHeartbeats 1000000 in
set_option maxRecDepth 20000 in
theorem c_browning {B : sB} {S : sSt} {k ln h : Int32} (hk : 0 ≤ k.toInt ∧ k.toInt ≤ 3) (hh : 0 ≤ h.toInt ∧ h.toInt ≤ 30) : CS B yX6_browning cX6_browning 4 (some .int) 1 [.int k, .int ln, .int h] S (qI (brwF k (h + (if ln = 0 then 2 else 0))) S) := by
  refine cs_intro (lv := [(0, .int k), (1, .int ln), (2, .int h)]) rfl ?_
  refine x_iload_n dX6_browning_0 rfl rfl ?_
  refine x_if_ne (tgt := 10) dX6_browning_1 (by decide) (fun c_1 => ?_) (fun c_1 => ?_)
  · refine x_iload_n dX6_browning_10 rfl rfl ?_
    first
    | refine x_re (b := h + (if ln = 0 then 2 else 0)) (by rw [if_pos c_1]) ?_
    | refine x_re (b := h + (if ln = 0 then 2 else 0)) (by rw [if_neg c_1]; exact (Int32.add_zero _).symm) ?_
    generalize hf : h + (if ln = 0 then 2 else 0) = fe
    refine x_istore_n (lv' := [(3, _), (0, _), (1, _), (2, _)]) dX6_browning_11 rfl (by decide) rfl ?_
    refine x_iload_n dX6_browning_12 rfl rfl ?_
    by_cases w_1 : k = 1
    · refine x_tableIn (tgt := 40) dX6_browning_13 (by rw [w_1]; decide) (by rw [w_1]; decide) (by rw [w_1]; rfl) (by decide) ?_
      refine x_iload_n dX6_browning_40 rfl rfl ?_
      refine x_iconst (v := 2) dX6_browning_41 (by decide) ?_
      refine x_idiv dX6_browning_42 (by decide) ?_
      refine x_ireturn dX6_browning_43 rfl rfl ?_
      refine qI_of ?_ rfl
      rw [w_1, brwF, if_neg (by decide), if_pos rfl]
    by_cases w_2 : k = 2
    · refine x_tableIn (tgt := 44) dX6_browning_13 (by rw [w_2]; decide) (by rw [w_2]; decide) (by rw [w_2]; rfl) (by decide) ?_
      refine x_iconst (v := 0) dX6_browning_44 (by decide) ?_
      refine x_iload_n dX6_browning_45 rfl rfl ?_
      refine x_iconst (v := 3) dX6_browning_46 (by decide) ?_
      refine x_isub dX6_browning_47 ?_
      refine kX6_226 dX6_browning_48 rfl (by decide) (Nat.le_of_ble_eq_true rfl) ?_
      refine x_ireturn dX6_browning_51 rfl rfl ?_
      refine qI_of ?_ rfl
      rw [w_2, show brwF 2 fe = (if fe < 3 then 0 else fe - 3) from by rw [brwF, if_neg (by decide), if_neg (by decide), if_pos rfl]]
      rw [← hf]
      exact brw_cl (k := k) hh
    by_cases w_3 : k = 3
    · refine x_tableIn (tgt := 52) dX6_browning_13 (by rw [w_3]; decide) (by rw [w_3]; decide) (by rw [w_3]; rfl) (by decide) ?_
      refine x_iconst (v := 2) dX6_browning_52 (by decide) ?_
      refine x_iload_n dX6_browning_53 rfl rfl ?_
      refine x_imul dX6_browning_54 ?_
      refine x_ireturn dX6_browning_55 rfl rfl ?_
      refine qI_of ?_ rfl
      rw [w_3, brwF, if_neg (by decide), if_neg (by decide), if_neg (by decide)]
    refine x_tableOut (tgt := 56) dX6_browning_13 (by have z0 := sw_ne (n := 1) (by decide) w_1; have z1 := sw_ne (n := 2) (by decide) w_2; have z2 := sw_ne (n := 3) (by decide) w_3; omega) (by decide) ?_
    refine x_iload_n dX6_browning_56 rfl rfl ?_
    refine x_ireturn dX6_browning_57 rfl rfl ?_
    refine qI_of ?_ rfl
    have z1 := sw_ne (n := 1) (by decide) w_1
    have z2 := sw_ne (n := 2) (by decide) w_2
    have z3 := sw_ne (n := 3) (by decide) w_3
    have : k = 0 := Int32.toInt_inj.mp (by show k.toInt = 0; omega)
    rw [this, brwF, if_pos rfl]
  · refine x_iload_n dX6_browning_4 rfl rfl ?_
    refine x_iconst (v := 2) dX6_browning_5 (by decide) ?_
    refine x_iadd dX6_browning_6 ?_
    refine x_goto (tgt := 11) dX6_browning_7 (by decide) ?_
    first
    | refine x_re (b := h + (if ln = 0 then 2 else 0)) (by rw [if_pos c_1]) ?_
    | refine x_re (b := h + (if ln = 0 then 2 else 0)) (by rw [if_neg c_1]; exact (Int32.add_zero _).symm) ?_
    generalize hf : h + (if ln = 0 then 2 else 0) = fe
    refine x_istore_n (lv' := [(3, _), (0, _), (1, _), (2, _)]) dX6_browning_11 rfl (by decide) rfl ?_
    refine x_iload_n dX6_browning_12 rfl rfl ?_
    by_cases w_1 : k = 1
    · refine x_tableIn (tgt := 40) dX6_browning_13 (by rw [w_1]; decide) (by rw [w_1]; decide) (by rw [w_1]; rfl) (by decide) ?_
      refine x_iload_n dX6_browning_40 rfl rfl ?_
      refine x_iconst (v := 2) dX6_browning_41 (by decide) ?_
      refine x_idiv dX6_browning_42 (by decide) ?_
      refine x_ireturn dX6_browning_43 rfl rfl ?_
      refine qI_of ?_ rfl
      rw [w_1, brwF, if_neg (by decide), if_pos rfl]
    by_cases w_2 : k = 2
    · refine x_tableIn (tgt := 44) dX6_browning_13 (by rw [w_2]; decide) (by rw [w_2]; decide) (by rw [w_2]; rfl) (by decide) ?_
      refine x_iconst (v := 0) dX6_browning_44 (by decide) ?_
      refine x_iload_n dX6_browning_45 rfl rfl ?_
      refine x_iconst (v := 3) dX6_browning_46 (by decide) ?_
      refine x_isub dX6_browning_47 ?_
      refine kX6_226 dX6_browning_48 rfl (by decide) (Nat.le_of_ble_eq_true rfl) ?_
      refine x_ireturn dX6_browning_51 rfl rfl ?_
      refine qI_of ?_ rfl
      rw [w_2, show brwF 2 fe = (if fe < 3 then 0 else fe - 3) from by rw [brwF, if_neg (by decide), if_neg (by decide), if_pos rfl]]
      rw [← hf]
      exact brw_cl (k := k) hh
    by_cases w_3 : k = 3
    · refine x_tableIn (tgt := 52) dX6_browning_13 (by rw [w_3]; decide) (by rw [w_3]; decide) (by rw [w_3]; rfl) (by decide) ?_
      refine x_iconst (v := 2) dX6_browning_52 (by decide) ?_
      refine x_iload_n dX6_browning_53 rfl rfl ?_
      refine x_imul dX6_browning_54 ?_
      refine x_ireturn dX6_browning_55 rfl rfl ?_
      refine qI_of ?_ rfl
      rw [w_3, brwF, if_neg (by decide), if_neg (by decide), if_neg (by decide)]
    refine x_tableOut (tgt := 56) dX6_browning_13 (by have z0 := sw_ne (n := 1) (by decide) w_1; have z1 := sw_ne (n := 2) (by decide) w_2; have z2 := sw_ne (n := 3) (by decide) w_3; omega) (by decide) ?_
    refine x_iload_n dX6_browning_56 rfl rfl ?_
    refine x_ireturn dX6_browning_57 rfl rfl ?_
    refine qI_of ?_ rfl
    have z1 := sw_ne (n := 1) (by decide) w_1
    have z2 := sw_ne (n := 2) (by decide) w_2
    have z3 := sw_ne (n := 3) (by decide) w_3
    have : k = 0 := Int32.toInt_inj.mp (by show k.toInt = 0; omega)
    rw [this, brwF, if_pos rfl]

set_option maxHeartbeats 1000000 in
set_option maxRecDepth 20000 in
theorem c_carry {B : sB} {S : sSt} {c pl : Nat} {P : aP} {r : aR} {g : Nat} (hc : shB B c pl) (hp : shP B pl) (hP : rP S pl P) (hB : rB S c r) (hlt : pl + 4 ≤ c) (hiP : iP P) (hg : g < P.1) (h1 : r (3 + g) = 1) (hh : 0 ≤ (r 1).toInt ∧ (r 1).toInt ≤ 30) : CS B yX0_carry cX0_carry 2 none 2 [.ref (s_ad B c), .int (nI g)] S (qB S c (carF P r g)) := by
  refine cs_intro (lv := [(0, .ref (s_ad B c)), (1, .int (nI g))]) rfl ?_
  obtain ⟨hc0, hc1, hc2, hc3, hc4, hc5⟩ := hc
  obtain ⟨hp0, hp1, hp2, hp3⟩ := hp
  obtain ⟨hn9, hn, hlen, hmst, hPi⟩ := id hP
  obtain ⟨e0, e1, e2, e3⟩ := id hB
  obtain ⟨f1, f2, f3, f4, f5⟩ := e3 g (by omega)
  have hkk := hiP.2.2.2.2 g hg
  have fk := (hPi g hg).1
  refine x_aload_n dX0_carry_0 rfl rfl ?_
  refine gX0_21 dX0_carry_1 rfl (by assumption) rfl ?_
  refine x_iload_n dX0_carry_4 rfl rfl ?_
  refine x_dup2 dX0_carry_5 rfl rfl ?_
  first | refine x_ialdN (by assumption) dX0_carry_6 (by omega) (by decide) ?_ | refine x_iald (by assumption) dX0_carry_6 (by assumption) ?_
  refine x_aload_n dX0_carry_7 rfl rfl ?_
  refine gX0_27 dX0_carry_8 rfl (by assumption) rfl ?_
  refine gX0_54 dX0_carry_11 rfl (by assumption) rfl ?_
  refine x_iload_n dX0_carry_14 rfl rfl ?_
  first | refine x_ialdN (by assumption) dX0_carry_15 (by omega) (by decide) ?_ | refine x_iald (by assumption) dX0_carry_15 (by assumption) ?_
  refine x_aload_n dX0_carry_16 rfl rfl ?_
  refine gX0_15 dX0_carry_17 rfl (by assumption) rfl ?_
  refine x_iload_n dX0_carry_20 rfl rfl ?_
  first | refine x_ialdN (by assumption) dX0_carry_21 (by omega) (by decide) ?_ | refine x_iald (by assumption) dX0_carry_21 (by assumption) ?_
  refine x_aload_n dX0_carry_22 rfl rfl ?_
  refine gX0_41 dX0_carry_23 rfl (by assumption) rfl ?_
  refine kX0_87 dX0_carry_26 rfl (c_browning (by rw [fk]; exact hkk) (by rw [e1]; exact hh)) (by decide) (Nat.le_of_ble_eq_true rfl) ?_
  refine x_iadd dX0_carry_29 ?_
  first | refine x_iastN (by assumption) dX0_carry_30 (by omega) (by decide) ?_ | refine x_iast (by assumption) dX0_carry_30 (by assumption) ?_
  refine x_gen (Pz := fun S' => chB S S' c _) (chB_b (chB_rfl hB) (by omega)) (fun S1 H1 => ?_)
  have hP1 := rP_ch H1 hlt hP
  refine x_aload_n dX0_carry_31 rfl rfl ?_
  refine gX0_18 dX0_carry_32 rfl (by assumption) rfl ?_
  refine x_iload_n dX0_carry_35 rfl rfl ?_
  refine x_dup2 dX0_carry_36 rfl rfl ?_
  first | refine x_ialdN (by assumption) dX0_carry_37 (by omega) (by decide) ?_ | refine x_iald (by assumption) dX0_carry_37 (by assumption) ?_
  refine x_aload_n dX0_carry_38 rfl rfl ?_
  refine gX0_37 dX0_carry_39 rfl (by assumption) rfl ?_
  refine x_iadd dX0_carry_42 ?_
  first | refine x_iastN (by assumption) dX0_carry_43 (by omega) (by decide) ?_ | refine x_iast (by assumption) dX0_carry_43 (by assumption) ?_
  refine x_gen (Pz := fun S' => chB S S' c _) (chB_p H1 (by omega)) (fun S2 H2 => ?_)
  have hP2 := rP_ch H2 hlt hP
  refine x_aload_n dX0_carry_44 rfl rfl ?_
  refine gX0_18 dX0_carry_45 rfl (by assumption) rfl ?_
  refine x_iload_n dX0_carry_48 rfl rfl ?_
  first | refine x_ialdN (by assumption) dX0_carry_49 (by omega) (by decide) ?_ | refine x_iald (by assumption) dX0_carry_49 (by assumption) ?_
  refine x_aload_n dX0_carry_50 rfl rfl ?_
  refine gX0_27 dX0_carry_51 rfl (by assumption) rfl ?_
  refine gX0_91 dX0_carry_54 rfl (by assumption) rfl ?_
  have q0 : S1 c 1 = r 0 := by rw [H1.1.1, upd_ne (by omega)]
  have q1 : S1 (c + 3) g = r (21 + g) := by rw [(H1.1.2.2.2 g (by omega)).2.2.1, upd_ne (by omega)]
  have q2 : S2 (c + 3) g = r (21 + g) + r 0 := by rw [(H2.1.2.2.2 g (by omega)).2.2.1, upd_eq, q0, q1]
  have q3 : S2 pl 0 = P.2.1 := hP2.2.2.1
  have q4 : S (c + 4) g + brwF (S (pl + 1) g) (S c 2 + (if S (c + 2) g = 0 then 2 else 0)) = r (30 + g) + brwF (P.2.2.2.1 g) (r 1 + (if r (12 + g) = 0 then 2 else 0)) := by rw [f4, fk, e1, f2]
  rw [q0, q1, q4] at H2
  rw [q2, q3]
  refine x_icmp_lt (tgt := 67) dX0_carry_57 (by decide) (fun c_57 => ?_) (fun c_57 => ?_)
  · refine x_return dX0_carry_67 rfl ?_
    first
    | (refine ⟨rfl, ?_⟩; rw [carF, if_pos h1, if_neg (by rw [Int32.not_le]; exact c_57)]; exact H2)
    | (refine ⟨rfl, ?_⟩; rw [carF, if_pos h1, if_pos (by rw [← Int32.not_lt]; exact c_57)]; exact chB_w H2 (by omega))
  · refine x_aload_n dX0_carry_60 rfl rfl ?_
    refine gX0_9 dX0_carry_61 rfl (by assumption) rfl ?_
    refine x_iload_n dX0_carry_64 rfl rfl ?_
    refine x_iconst (v := 2) dX0_carry_65 (by decide) ?_
    first | refine x_iastN (by assumption) dX0_carry_66 (by omega) (by decide) ?_ | refine x_iast (by assumption) dX0_carry_66 (by assumption) ?_
    refine x_return dX0_carry_67 rfl ?_
    first
    | (refine ⟨rfl, ?_⟩; rw [carF, if_pos h1, if_neg (by rw [Int32.not_le]; exact c_57)]; exact H2)
    | (refine ⟨rfl, ?_⟩; rw [carF, if_pos h1, if_pos (by rw [← Int32.not_lt]; exact c_57)]; exact chB_w H2 (by omega))

def endF (P : aP) (on : Nat) (r1 : aR) : aR := upd (upd r1 1 (heatF P on (r1 1))) 2 (r1 2 + 1)
theorem momF_end (P : aP) (r : aR) : momF P r = endF P (onF P r 1) (carU P P.1 0 r) := rfl

set_option maxHeartbeats 1000000 in
set_option maxRecDepth 20000 in
theorem l_goOn {B : sB} {S : sSt} {c pl on : Nat} {P : aP} (hc : shB B c pl) (hp : shP B pl) (hlt : pl + 4 ≤ c) (hiP : iP P) (hon : on ≤ 9) :
    ∀ (k i : Nat) (S0 : sSt) (r0 : aR), i + k = P.1 → rP S0 pl P → chB S S0 c r0 → (0 ≤ (r0 1).toInt ∧ (r0 1).toInt ≤ 30) → WS B (fun _ => True) yX0_goOn cX0_goOn 3 none 3 8 [(2, .int (nI i)), (1, .int (nI on)), (0, .ref (s_ad B c))] [] S0 (qB S c (endF P on (carU P k i r0))) := by
  have hcc := hc
  have hpp := hp
  obtain ⟨hc0, hc1, hc2, hc3, hc4, hc5⟩ := hc
  obtain ⟨hp0, hp1, hp2, hp3⟩ := hp
  intro k
  induction k with
  | zero =>
    intro i S0 r0 hi hP0 H0 hh
    refine x_iload_n dX0_goOn_8 rfl rfl ?_
    refine x_aload_n dX0_goOn_9 rfl rfl ?_
    refine gX0_27 dX0_goOn_10 rfl (by assumption) rfl ?_
    refine gX0_51 dX0_goOn_13 rfl (by assumption) rfl ?_
    refine x_icmp_ge (tgt := 40) dX0_goOn_16 (by decide) (fun c_16 => ?_) (fun c_16 => ?_)
    · refine x_iload_n dX0_goOn_40 rfl rfl ?_
      refine x_if_le (tgt := 63) dX0_goOn_41 (by decide) (fun c_41 => ?_) (fun c_41 => ?_)
      · have hz : on = 0 := by
          rcases Nat.eq_zero_or_pos on with h | h
          · exact h
          · exact absurd c_41 (nI_nle h (by omega))
        refine x_aload_n dX0_goOn_63 rfl rfl ?_
        refine gX0_41 dX0_goOn_64 rfl (by assumption) rfl ?_
        refine x_aload_n dX0_goOn_67 rfl rfl ?_
        refine gX0_27 dX0_goOn_68 rfl (by assumption) rfl ?_
        refine gX0_84 dX0_goOn_71 rfl (by assumption) rfl ?_
        refine x_icmp_ge (tgt := 87) dX0_goOn_74 (by decide) (fun c_74 => ?_) (fun c_74 => ?_)
        · have hS1 : chB S S0 c (upd r0 1 (heatF P on (r0 1))) := by
            rw [heatF, if_pos hz, if_neg (by rw [Int32.not_lt, ← hP0.2.2.2.1, ← H0.1.2.1]; exact c_74)]
            rw [show upd r0 1 (r0 1) = r0 from by funext j; by_cases hj : j = 1 <;> simp [upd, hj]]
            exact H0
          generalize S0 = S1 at hS1 ⊢
          have H1 := hS1
          refine x_aload_n dX0_goOn_87 rfl rfl ?_
          refine x_dup dX0_goOn_88 rfl ?_
          refine gX0_42 dX0_goOn_89 rfl (by assumption) rfl ?_
          refine x_iconst (v := 1) dX0_goOn_92 (by decide) ?_
          refine x_iadd dX0_goOn_93 ?_
          refine pX0_42 dX0_goOn_94 rfl (by assumption) rfl ?_
          refine x_return dX0_goOn_97 rfl ?_
          refine ⟨rfl, ?_⟩
          have H2 := chB_m (v := S1 c 3 + 1) H1
          rw [show S1 c 3 = r0 2 from by rw [H1.1.2.2.1, upd_ne (by decide)]] at H2 ⊢
          exact H2
        · refine x_aload_n dX0_goOn_77 rfl rfl ?_
          refine x_dup dX0_goOn_78 rfl ?_
          refine gX0_41 dX0_goOn_79 rfl (by assumption) rfl ?_
          refine x_iconst (v := 1) dX0_goOn_82 (by decide) ?_
          refine x_iadd dX0_goOn_83 ?_
          refine pX0_41 dX0_goOn_84 rfl (by assumption) rfl ?_
          refine x_gen (Pz := fun S' => chB S S' c _) (chB_h H0) (fun S1 H1 => ?_)
          rw [show S0 c 2 + 1 = heatF P on (r0 1) from by rw [heatF, if_pos hz, if_pos (by rw [← Int32.not_le, ← hP0.2.2.2.1, ← H0.1.2.1]; exact c_74), H0.1.2.1]] at H1
          refine x_aload_n dX0_goOn_87 rfl rfl ?_
          refine x_dup dX0_goOn_88 rfl ?_
          refine gX0_42 dX0_goOn_89 rfl (by assumption) rfl ?_
          refine x_iconst (v := 1) dX0_goOn_92 (by decide) ?_
          refine x_iadd dX0_goOn_93 ?_
          refine pX0_42 dX0_goOn_94 rfl (by assumption) rfl ?_
          refine x_return dX0_goOn_97 rfl ?_
          refine ⟨rfl, ?_⟩
          have H2 := chB_m (v := S1 c 3 + 1) H1
          rw [show S1 c 3 = r0 2 from by rw [H1.1.2.2.1, upd_ne (by decide)]] at H2 ⊢
          exact H2
      · have hz : on ≠ 0 := by
          intro h
          subst h
          exact c_41 (by decide)
        refine x_aload_n dX0_goOn_44 rfl rfl ?_
        refine x_iconst (v := 0) dX0_goOn_45 (by decide) ?_
        refine x_aload_n dX0_goOn_46 rfl rfl ?_
        refine gX0_41 dX0_goOn_47 rfl (by assumption) rfl ?_
        refine x_iload_n dX0_goOn_50 rfl rfl ?_
        refine x_iconst (v := 2) dX0_goOn_51 (by decide) ?_
        refine x_idiv dX0_goOn_52 (by decide) ?_
        refine x_isub dX0_goOn_53 ?_
        refine kX0_78 dX0_goOn_54 rfl (by decide) (Nat.le_of_ble_eq_true rfl) ?_
        refine pX0_41 dX0_goOn_57 rfl (by assumption) rfl ?_
        refine x_gen (Pz := fun S' => chB S S' c _) (chB_h H0) (fun S1 H1 => ?_)
        rw [H0.1.2.1, heat_cl (P := P) hon hz hh] at H1
        refine x_goto (tgt := 87) dX0_goOn_60 (by decide) ?_
        refine x_aload_n dX0_goOn_87 rfl rfl ?_
        refine x_dup dX0_goOn_88 rfl ?_
        refine gX0_42 dX0_goOn_89 rfl (by assumption) rfl ?_
        refine x_iconst (v := 1) dX0_goOn_92 (by decide) ?_
        refine x_iadd dX0_goOn_93 ?_
        refine pX0_42 dX0_goOn_94 rfl (by assumption) rfl ?_
        refine x_return dX0_goOn_97 rfl ?_
        refine ⟨rfl, ?_⟩
        have H2 := chB_m (v := S1 c 3 + 1) H1
        rw [show S1 c 3 = r0 2 from by rw [H1.1.2.2.1, upd_ne (by decide)]] at H2 ⊢
        exact H2
    · exact absurd (by have := hP0.1; rw [hP0.2.1, ← hi]; exact nI_le (by omega) (by omega)) c_16
  | succ k ih =>
    intro i S0 r0 hi hP0 H0 hh
    refine x_iload_n dX0_goOn_8 rfl rfl ?_
    refine x_aload_n dX0_goOn_9 rfl rfl ?_
    refine gX0_27 dX0_goOn_10 rfl (by assumption) rfl ?_
    refine gX0_51 dX0_goOn_13 rfl (by assumption) rfl ?_
    refine x_icmp_ge (tgt := 40) dX0_goOn_16 (by decide) (fun c_16 => ?_) (fun c_16 => ?_)
    · exact absurd c_16 (by have := hP0.1; rw [hP0.2.1]; exact nI_ge (by omega) (by omega))
    · refine x_aload_n dX0_goOn_19 rfl rfl ?_
      refine gX0_9 dX0_goOn_20 rfl (by assumption) rfl ?_
      refine x_iload_n dX0_goOn_23 rfl rfl ?_
      refine x_ialdN (by assumption) dX0_goOn_24 (by have := hP0.1; omega) (by decide) ?_
      refine x_iconst (v := 1) dX0_goOn_25 (by decide) ?_
      refine x_icmp_ne (tgt := 34) dX0_goOn_26 (by decide) (fun c_26 => ?_) (fun c_26 => ?_)
      · first | refine x_inc1N (lv' := [(2, _), (1, _), (0, _)]) dX0_goOn_34 rfl (by decide) rfl ?_ | refine x_iinc (v := _ + 1) (lv' := [(2, _), (1, _), (0, _)]) dX0_goOn_34 rfl rfl (by decide) rfl ?_
        refine x_goto (tgt := 8) dX0_goOn_37 (by decide) ?_
        first
        | (rw [carU]; exact ih (i + 1) S1 _ (by omega) hP1 H1 (by rw [carF_lo (by decide)]; exact hh))
        | (rw [carU, carF, if_neg (by rw [← (H0.1.2.2.2 i (by have := hP0.1; omega)).1]; exact c_26)]; exact ih (i + 1) S0 r0 (by omega) hP0 H0 hh)
      · refine x_aload_n dX0_goOn_29 rfl rfl ?_
        refine x_iload_n dX0_goOn_30 rfl rfl ?_
        refine kX0_74r dX0_goOn_31 rfl (by assumption) (c_carry hcc hpp hP0 H0.1 hlt hiP (by omega) (by rw [← (H0.1.2.2.2 i (by have := hP0.1; omega)).1]; exact c_26) hh) (by decide) (Nat.le_of_ble_eq_true rfl) (fun S1 hq => ?_)
        obtain ⟨-, hq1⟩ := hq
        have H1 := chB_trans H0 hq1
        have hP1 := rP_ch hq1 hlt hP0
        first | refine x_inc1N (lv' := [(2, _), (1, _), (0, _)]) dX0_goOn_34 rfl (by decide) rfl ?_ | refine x_iinc (v := _ + 1) (lv' := [(2, _), (1, _), (0, _)]) dX0_goOn_34 rfl rfl (by decide) rfl ?_
        refine x_goto (tgt := 8) dX0_goOn_37 (by decide) ?_
        first
        | (rw [carU]; exact ih (i + 1) S1 _ (by omega) hP1 H1 (by rw [carF_lo (by decide)]; exact hh))
        | (rw [carU, carF, if_neg (by rw [← (H0.1.2.2.2 i (by have := hP0.1; omega)).1]; exact c_26)]; exact ih (i + 1) S0 r0 (by omega) hP0 H0 hh)

set_option maxHeartbeats 1000000 in
set_option maxRecDepth 20000 in
theorem c_goOn {B : sB} {S : sSt} {c pl : Nat} {P : aP} {r : aR} (hc : shB B c pl) (hp : shP B pl) (hP : rP S pl P) (hB : rB S c r) (hlt : pl + 4 ≤ c) (hiP : iP P) (hh : 0 ≤ (r 1).toInt ∧ (r 1).toInt ≤ 30) : CS B yX0_goOn cX0_goOn 3 none 3 [.ref (s_ad B c)] S (qB S c (momF P r)) := by
  refine cs_intro (lv := [(0, .ref (s_ad B c))]) rfl ?_
  have hcs := hc.1
  refine x_aload_n dX0_goOn_0 rfl rfl ?_
  refine x_iconst (v := 1) dX0_goOn_1 (by decide) ?_
  refine kX0_71 dX0_goOn_2 rfl (by assumption) (c_howMany hc hp hP hB) (by decide) (Nat.le_of_ble_eq_true rfl) ?_
  refine x_istore_n (lv' := [(1, _), (0, _)]) dX0_goOn_5 rfl (by decide) rfl ?_
  refine x_iconst (v := 0) dX0_goOn_6 (by decide) ?_
  refine x_istore_n (lv' := [(2, _), (1, _), (0, _)]) dX0_goOn_7 rfl (by decide) rfl ?_
  exact l_goOn hc hp hlt hiP (Nat.le_trans (onF_le P r 1) hP.1) P.1 0 S r (by omega) hP (chB_rfl hB) hh
