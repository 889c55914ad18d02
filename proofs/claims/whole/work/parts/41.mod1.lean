set_option maxHeartbeats 1000000 in
set_option maxRecDepth 20000 in
theorem c_in {B : sB} {S : sSt} {x a b : Int32} : CS B yX7_in cX7_in 3 (some .boolean) 1 [.int x, .int a, .int b] S (qI (bI (a ≤ x ∧ x ≤ b)) S) := by
  refine cs_intro (lv := [(0, .int x), (1, .int a), (2, .int b)]) rfl ?_
  refine x_iload_n dX7_in_0 rfl rfl ?_
  refine x_iload_n dX7_in_1 rfl rfl ?_
  refine x_icmp_lt (tgt := 14) dX7_in_2 (by decide) (fun c_2 => ?_) (fun c_2 => ?_)
  · refine x_iconst (v := 0) dX7_in_14 (by decide) ?_
    refine x_ireturn dX7_in_15 rfl (by first | rfl | exact bI_nar _) ?_
    first | exact qI_of (bI_f (fun h => by simp only [Int32.lt_iff_toInt_lt, Int32.le_iff_toInt_le] at *; omega)) rfl | exact qI_of (bI_t (by simp only [Int32.lt_iff_toInt_lt, Int32.le_iff_toInt_le] at *; omega)) rfl
  · refine x_iload_n dX7_in_5 rfl rfl ?_
    refine x_iload_n dX7_in_6 rfl rfl ?_
    refine x_icmp_gt (tgt := 14) dX7_in_7 (by decide) (fun c_7 => ?_) (fun c_7 => ?_)
    · refine x_iconst (v := 0) dX7_in_14 (by decide) ?_
      refine x_ireturn dX7_in_15 rfl (by first | rfl | exact bI_nar _) ?_
      first | exact qI_of (bI_f (fun h => by simp only [Int32.lt_iff_toInt_lt, Int32.le_iff_toInt_le] at *; omega)) rfl | exact qI_of (bI_t (by simp only [Int32.lt_iff_toInt_lt, Int32.le_iff_toInt_le] at *; omega)) rfl
    · refine x_iconst (v := 1) dX7_in_10 (by decide) ?_
      refine x_goto (tgt := 15) dX7_in_11 (by decide) ?_
      refine x_ireturn dX7_in_15 rfl (by first | rfl | exact bI_nar _) ?_
      first | exact qI_of (bI_f (fun h => by simp only [Int32.lt_iff_toInt_lt, Int32.le_iff_toInt_le] at *; omega)) rfl | exact qI_of (bI_t (by simp only [Int32.lt_iff_toInt_lt, Int32.le_iff_toInt_le] at *; omega)) rfl

set_option maxHeartbeats 1000000 in
set_option maxRecDepth 20000 in
theorem cm_isLane {B : sB} {S : sSt} {x : Int32} : CS B yX7_isLane cX7_isLane 1 (some .boolean) 2 [.int x] S (qI (bI (0 ≤ x ∧ x ≤ 1)) S) := by
  refine cs_intro (lv := [(0, .int x)]) rfl ?_
  refine x_iload_n dX7_isLane_0 rfl rfl ?_
  refine x_iconst (v := 0) dX7_isLane_1 (by decide) ?_
  refine x_iconst (v := 1) dX7_isLane_2 (by decide) ?_
  refine kX7_78 dX7_isLane_3 rfl (c_in) (by decide) (Nat.le_of_ble_eq_true rfl) ?_
  refine x_ireturn dX7_isLane_6 rfl (by first | rfl | exact bI_nar _) ?_
  exact ⟨rfl, rfl⟩

set_option maxHeartbeats 1000000 in
set_option maxRecDepth 20000 in
theorem lm_manyIn {B : sB} {S : sSt} {P : aP} {r : aR} {a : Nat} (hm : shM B) (ha : isA B a) (hP : pM S P) (hr : ag (S a) r) {x : Int32} :
    ∀ (k i q : Nat), i + k = P.1 → q ≤ i → WS B (fun _ => True) yX7_manyIn cX7_manyIn 5 (some .int) 1 5 [(4, .int (nI i)), (3, .int (nI q)), (0, .ref (s_ad B 102)), (1, .ref (s_ad B a)), (2, .int x)] [] S (qI (nI (q + cntU (fun g => r (3 + g) == x) k i)) S) := by
  obtain ⟨hm0, h103, h104, h105, h106, h107, h108, h109, h110, h111, h112, h113, h114, h115, h116, h117, h118, h119, h120, h121, h122⟩ := id hm
  have ha1 := ha.2
  obtain ⟨hn9, hn, hlen, hmst, hPi⟩ := id hP
  intro k
  induction k with
  | zero =>
    intro i q hi hq
    refine x_iload dX7_manyIn_5 rfl ?_
    refine x_aload_n dX7_manyIn_7 rfl rfl ?_
    refine gX7_13 dX7_manyIn_8 rfl (by assumption) rfl ?_
    refine x_iconst (v := 0) dX7_manyIn_11 (by decide) ?_
    refine x_ialdN (j := 0) (by assumption) dX7_manyIn_12 (by decide) (by decide) ?_
    refine x_icmp_ge (tgt := 40) dX7_manyIn_13 (by decide) (fun c_13 => ?_) (fun c_13 => ?_)
    · refine x_iload_n dX7_manyIn_40 rfl rfl ?_
      refine x_ireturn dX7_manyIn_41 rfl rfl ?_
      exact ⟨rfl, rfl⟩
    · exact absurd (by rw [hn, ← hi]; exact nI_le (by omega) (by omega)) c_13
  | succ k ih =>
    intro i q hi hq
    have hri := hr (3 + i) (by omega)
    refine x_iload dX7_manyIn_5 rfl ?_
    refine x_aload_n dX7_manyIn_7 rfl rfl ?_
    refine gX7_13 dX7_manyIn_8 rfl (by assumption) rfl ?_
    refine x_iconst (v := 0) dX7_manyIn_11 (by decide) ?_
    refine x_ialdN (j := 0) (by assumption) dX7_manyIn_12 (by decide) (by decide) ?_
    refine x_icmp_ge (tgt := 40) dX7_manyIn_13 (by decide) (fun c_13 => ?_) (fun c_13 => ?_)
    · exact absurd c_13 (by rw [hn]; exact nI_ge (by omega) (by omega))
    · refine x_iload_n dX7_manyIn_16 rfl rfl ?_
      refine x_aload_n dX7_manyIn_17 rfl rfl ?_
      refine x_iconst (v := 3) dX7_manyIn_18 (by decide) ?_
      refine x_iload dX7_manyIn_19 rfl ?_
      refine x_iadd dX7_manyIn_21 ?_
      first | refine x_re (nI_add 3 _) ?_ | skip
      first | refine x_ialdN (by assumption) dX7_manyIn_22 (by omega) (by decide) ?_ | refine x_iald (by assumption) dX7_manyIn_22 (by assumption) ?_
      refine x_iload_n dX7_manyIn_23 rfl rfl ?_
      refine x_icmp_ne (tgt := 31) dX7_manyIn_24 (by decide) (fun c_24 => ?_) (fun c_24 => ?_)
      · refine x_iconst (v := 0) dX7_manyIn_31 (by decide) ?_
        refine x_iadd dX7_manyIn_32 ?_
        first | refine x_re (nI_add q 1) ?_ | refine x_re (nI_add q 0) ?_
        refine x_istore_n (lv' := [(3, _), (4, _), (0, _), (1, _), (2, _)]) dX7_manyIn_33 rfl (by decide) rfl ?_
        first | refine x_inc1N (lv' := [(4, _), (3, _), (0, _), (1, _), (2, _)]) dX7_manyIn_34 rfl (by decide) rfl ?_ | refine x_iinc (v := _ + 1) (lv' := [(4, _), (3, _), (0, _), (1, _), (2, _)]) dX7_manyIn_34 rfl rfl (by decide) rfl ?_
        refine x_goto (tgt := 5) dX7_manyIn_37 (by decide) ?_
        refine x_wk [0, 1, 2, 3, 4] rfl ?_
        first
        | (rw [show q + cntU (fun g => r (3 + g) == x) (k + 1) i = (q + 1) + cntU (fun g => r (3 + g) == x) k (i + 1) from by rw [cntU, if_pos (by rw [beq_iff_eq, ← hri]; exact c_24)]; omega]; exact ih (i + 1) (q + 1) (by omega) (by omega))
        | (rw [show q + cntU (fun g => r (3 + g) == x) (k + 1) i = q + cntU (fun g => r (3 + g) == x) k (i + 1) from by rw [cntU, if_neg (by rw [beq_iff_eq, ← hri]; exact c_24)]; omega]; exact ih (i + 1) q (by omega) (by omega))
      · refine x_iconst (v := 1) dX7_manyIn_27 (by decide) ?_
        refine x_goto (tgt := 32) dX7_manyIn_28 (by decide) ?_
        refine x_iadd dX7_manyIn_32 ?_
        first | refine x_re (nI_add q 1) ?_ | refine x_re (nI_add q 0) ?_
        refine x_istore_n (lv' := [(3, _), (4, _), (0, _), (1, _), (2, _)]) dX7_manyIn_33 rfl (by decide) rfl ?_
        first | refine x_inc1N (lv' := [(4, _), (3, _), (0, _), (1, _), (2, _)]) dX7_manyIn_34 rfl (by decide) rfl ?_ | refine x_iinc (v := _ + 1) (lv' := [(4, _), (3, _), (0, _), (1, _), (2, _)]) dX7_manyIn_34 rfl rfl (by decide) rfl ?_
        refine x_goto (tgt := 5) dX7_manyIn_37 (by decide) ?_
        refine x_wk [0, 1, 2, 3, 4] rfl ?_
        first
        | (rw [show q + cntU (fun g => r (3 + g) == x) (k + 1) i = (q + 1) + cntU (fun g => r (3 + g) == x) k (i + 1) from by rw [cntU, if_pos (by rw [beq_iff_eq, ← hri]; exact c_24)]; omega]; exact ih (i + 1) (q + 1) (by omega) (by omega))
        | (rw [show q + cntU (fun g => r (3 + g) == x) (k + 1) i = q + cntU (fun g => r (3 + g) == x) k (i + 1) from by rw [cntU, if_neg (by rw [beq_iff_eq, ← hri]; exact c_24)]; omega]; exact ih (i + 1) q (by omega) (by omega))

set_option maxHeartbeats 1000000 in
set_option maxRecDepth 20000 in
theorem c_manyIn {B : sB} {S : sSt} {P : aP} {r : aR} {a : Nat} (hm : shM B) (ha : isA B a) (hP : pM S P) (hr : ag (S a) r) {x : Int32} : CS B yX7_manyIn cX7_manyIn 5 (some .int) 1 [.ref (s_ad B 102), .ref (s_ad B a), .int x] S (qI (nI (onF P r x)) S) := by
  refine cs_intro (lv := [(0, .ref (s_ad B 102)), (1, .ref (s_ad B a)), (2, .int x)]) rfl ?_
  refine x_iconst (v := 0) dX7_manyIn_0 (by decide) ?_
  refine x_istore_n (lv' := [(3, _), (0, _), (1, _), (2, _)]) dX7_manyIn_1 rfl (by decide) rfl ?_
  refine x_iconst (v := 0) dX7_manyIn_2 (by decide) ?_
  refine x_istore (lv' := [(4, _), (3, _), (0, _), (1, _), (2, _)]) dX7_manyIn_3 (by decide) rfl ?_
  have h := lm_manyIn (x := x) hm ha hP hr P.1 0 0 (by omega) (Nat.le_refl 0)
  rw [Nat.zero_add] at h
  exact h

set_option maxHeartbeats 1000000 in
set_option maxRecDepth 20000 in
theorem c_isRightFor {B : sB} {S : sSt} {P : aP} {r : aR} {a : Nat} (hm : shM B) (ha : isA B a) (hP : pM S P) (hr : ag (S a) r) {g s : Nat} (hg : g < P.1) (hs : s < P.1) : CS B yX7_isRightFor cX7_isRightFor 4 (some .boolean) 2 [.ref (s_ad B 102), .ref (s_ad B a), .int (nI g), .int (nI s)] S (qI (bI (rgt P r g s = true)) S) := by
  refine cs_intro (lv := [(0, .ref (s_ad B 102)), (1, .ref (s_ad B a)), (2, .int (nI g)), (3, .int (nI s))]) rfl ?_
  obtain ⟨hm0, h103, h104, h105, h106, h107, h108, h109, h110, h111, h112, h113, h114, h115, h116, h117, h118, h119, h120, h121, h122⟩ := id hm
  have ha1 := ha.2
  obtain ⟨hn9, hn, hlen, hmst, hPi⟩ := id hP
  refine x_aload_n dX7_isRightFor_0 rfl rfl ?_
  refine x_bipush (v := 30) dX7_isRightFor_1 (by decide) ?_
  refine x_iload_n dX7_isRightFor_3 rfl rfl ?_
  refine x_iadd dX7_isRightFor_4 ?_
  first | refine x_re (nI_add 30 _) ?_ | skip
  first | refine x_ialdN (by assumption) dX7_isRightFor_5 (by omega) (by decide) ?_ | refine x_iald (by assumption) dX7_isRightFor_5 (by assumption) ?_
  refine x_aload_n dX7_isRightFor_6 rfl rfl ?_
  refine gX7_32 dX7_isRightFor_7 rfl (by assumption) rfl ?_
  refine x_iload_n dX7_isRightFor_10 rfl rfl ?_
  first | refine x_ialdN (by assumption) dX7_isRightFor_11 (by omega) (by decide) ?_ | refine x_iald (by assumption) dX7_isRightFor_11 (by assumption) ?_
  refine x_aload_n dX7_isRightFor_12 rfl rfl ?_
  refine gX7_35 dX7_isRightFor_13 rfl (by assumption) rfl ?_
  refine x_iload_n dX7_isRightFor_16 rfl rfl ?_
  first | refine x_ialdN (by assumption) dX7_isRightFor_17 (by omega) (by decide) ?_ | refine x_iald (by assumption) dX7_isRightFor_17 (by assumption) ?_
  refine kX7_78 dX7_isRightFor_18 rfl (c_in) (by decide) (Nat.le_of_ble_eq_true rfl) ?_
  refine x_ireturn dX7_isRightFor_21 rfl (by first | rfl | exact bI_nar _) ?_
  refine qI_of (bI_congr ?_) rfl
  rw [rgt, Bool.and_eq_true, decide_eq_true_eq, decide_eq_true_eq, hr (30 + s) (by omega), (hPi g hg).2.1, (hPi g hg).2.2]

set_option maxHeartbeats 1000000 in
set_option maxRecDepth 20000 in
theorem c_browner {B : sB} {S : sSt} {k b : Int32} : CS B yX7_browner cX7_browner 2 (some .int) 1 [.int k, .int b] S (qI (brwF k b) S) := by
  refine cs_intro (lv := [(0, .int k), (1, .int b)]) rfl ?_
  refine x_iload_n dX7_browner_0 rfl rfl ?_
  by_cases w_0 : k = 0
  · refine x_tableIn (tgt := 28) dX7_browner_1 (by rw [w_0]; decide) (by rw [w_0]; decide) (by rw [w_0]; rfl) (by decide) ?_
    refine x_iload_n dX7_browner_28 rfl rfl ?_
    refine x_ireturn dX7_browner_29 rfl rfl ?_
    exact qI_of (by rw [w_0, brwF, if_pos rfl]) rfl
  by_cases w_1 : k = 1
  · refine x_tableIn (tgt := 30) dX7_browner_1 (by rw [w_1]; decide) (by rw [w_1]; decide) (by rw [w_1]; rfl) (by decide) ?_
    refine x_iload_n dX7_browner_30 rfl rfl ?_
    refine x_iconst (v := 2) dX7_browner_31 (by decide) ?_
    refine x_idiv dX7_browner_32 (by decide) ?_
    refine x_ireturn dX7_browner_33 rfl rfl ?_
    exact qI_of (by rw [brwF, if_neg w_0, if_pos w_1]) rfl
  by_cases w_2 : k = 2
  · refine x_tableIn (tgt := 34) dX7_browner_1 (by rw [w_2]; decide) (by rw [w_2]; decide) (by rw [w_2]; rfl) (by decide) ?_
    refine x_iload_n dX7_browner_34 rfl rfl ?_
    refine x_iconst (v := 3) dX7_browner_35 (by decide) ?_
    refine x_icmp_ge (tgt := 43) dX7_browner_36 (by decide) (fun c_36 => ?_) (fun c_36 => ?_)
    · refine x_iload_n dX7_browner_43 rfl rfl ?_
      refine x_iconst (v := 3) dX7_browner_44 (by decide) ?_
      refine x_isub dX7_browner_45 ?_
      refine x_ireturn dX7_browner_46 rfl rfl ?_
      first
      | exact qI_of (by rw [brwF, if_neg w_0, if_neg w_1, if_pos w_2, if_neg (by rw [Int32.not_lt]; exact c_36)]) rfl
      | exact qI_of (by rw [brwF, if_neg w_0, if_neg w_1, if_pos w_2, if_pos (by rw [← Int32.not_le]; exact c_36)]) rfl
    · refine x_iconst (v := 0) dX7_browner_39 (by decide) ?_
      refine x_goto (tgt := 46) dX7_browner_40 (by decide) ?_
      refine x_ireturn dX7_browner_46 rfl rfl ?_
      first
      | exact qI_of (by rw [brwF, if_neg w_0, if_neg w_1, if_pos w_2, if_neg (by rw [Int32.not_lt]; exact c_36)]) rfl
      | exact qI_of (by rw [brwF, if_neg w_0, if_neg w_1, if_pos w_2, if_pos (by rw [← Int32.not_le]; exact c_36)]) rfl
  refine x_tableOut (tgt := 47) dX7_browner_1 (by have z0 := sw_ne (n := 0) (by decide) w_0; have z1 := sw_ne (n := 1) (by decide) w_1; have z2 := sw_ne (n := 2) (by decide) w_2; omega) (by decide) ?_
  refine x_iconst (v := 2) dX7_browner_47 (by decide) ?_
  refine x_iload_n dX7_browner_48 rfl rfl ?_
  refine x_imul dX7_browner_49 ?_
  first | refine x_re (pk_mul 2 _) ?_ | skip
  refine x_ireturn dX7_browner_50 rfl rfl ?_
  exact qI_of (by rw [brwF, if_neg w_0, if_neg w_1, if_neg w_2]) rfl

set_option maxHeartbeats 1000000 in
set_option maxRecDepth 20000 in
theorem c_put {B : sB} {S : sSt} {a g : Nat} {r : aR} {x : Int32} (ha : isA B a) (hr : ag (S a) r) (hg : g < 9) : CS B yX7_put cX7_put 4 none 1 [.ref (s_ad B 102), .ref (s_ad B a), .int (nI g), .int x] S (qM S a (putF r g x)) := by
  refine cs_intro (lv := [(0, .ref (s_ad B 102)), (1, .ref (s_ad B a)), (2, .int (nI g)), (3, .int x)]) rfl ?_
  have ha1 := ha.2
  refine x_aload_n dX7_put_0 rfl rfl ?_
  refine x_iconst (v := 3) dX7_put_1 (by decide) ?_
  refine x_iload_n dX7_put_2 rfl rfl ?_
  refine x_iadd dX7_put_3 ?_
  first | refine x_re (nI_add 3 _) ?_ | skip
  refine x_iconst (v := 1) dX7_put_4 (by decide) ?_
  first | refine x_iastN (by assumption) dX7_put_5 (by omega) (by decide) ?_ | refine x_iast (by assumption) dX7_put_5 (by assumption) ?_
  refine x_aload_n dX7_put_6 rfl rfl ?_
  refine x_bipush (v := 12) dX7_put_7 (by decide) ?_
  refine x_iload_n dX7_put_9 rfl rfl ?_
  refine x_iadd dX7_put_10 ?_
  first | refine x_re (nI_add 12 _) ?_ | skip
  refine x_iload_n dX7_put_11 rfl rfl ?_
  first | refine x_iastN (by assumption) dX7_put_12 (by omega) (by decide) ?_ | refine x_iast (by assumption) dX7_put_12 (by assumption) ?_
  refine x_aload_n dX7_put_13 rfl rfl ?_
  refine x_bipush (v := 21) dX7_put_14 (by decide) ?_
  refine x_iload_n dX7_put_16 rfl rfl ?_
  refine x_iadd dX7_put_17 ?_
  first | refine x_re (nI_add 21 _) ?_ | skip
  refine x_iconst (v := 0) dX7_put_18 (by decide) ?_
  first | refine x_iastN (by assumption) dX7_put_19 (by omega) (by decide) ?_ | refine x_iast (by assumption) dX7_put_19 (by assumption) ?_
  refine x_return dX7_put_20 rfl ?_
  exact ⟨rfl, chM_put (chM_put (chM_put (chM_rfl hr)))⟩

set_option maxHeartbeats 1000000 in
set_option maxRecDepth 20000 in
theorem cm_eat {B : sB} {S : sSt} {a g s : Nat} {r : aR} (ha : isA B a) (hr : ag (S a) r) (hs : s < 9) : CS B yX7_eat cX7_eat 4 none 1 [.ref (s_ad B 102), .ref (s_ad B a), .int (nI g), .int (nI s)] S (qM S a (eatF r g s)) := by
  refine cs_intro (lv := [(0, .ref (s_ad B 102)), (1, .ref (s_ad B a)), (2, .int (nI g)), (3, .int (nI s))]) rfl ?_
  have ha1 := ha.2
  refine x_aload_n dX7_eat_0 rfl rfl ?_
  refine x_iconst (v := 3) dX7_eat_1 (by decide) ?_
  refine x_iload_n dX7_eat_2 rfl rfl ?_
  refine x_iadd dX7_eat_3 ?_
  first | refine x_re (nI_add 3 _) ?_ | skip
  refine x_iconst (v := 3) dX7_eat_4 (by decide) ?_
  first | refine x_iastN (by assumption) dX7_eat_5 (by omega) (by decide) ?_ | refine x_iast (by assumption) dX7_eat_5 (by assumption) ?_
  refine x_aload_n dX7_eat_6 rfl rfl ?_
  refine x_bipush (v := 39) dX7_eat_7 (by decide) ?_
  refine x_iload_n dX7_eat_9 rfl rfl ?_
  refine x_iadd dX7_eat_10 ?_
  first | refine x_re (nI_add 39 _) ?_ | skip
  refine x_iload_n dX7_eat_11 rfl rfl ?_
  first | refine x_iastN (by assumption) dX7_eat_12 (by omega) (by decide) ?_ | refine x_iast (by assumption) dX7_eat_12 (by assumption) ?_
  refine x_return dX7_eat_13 rfl ?_
  exact ⟨rfl, chM_put (chM_put (chM_rfl hr))⟩

set_option maxHeartbeats 1000000 in
set_option maxRecDepth 20000 in
theorem lm_isFree {B : sB} {S : sSt} {P : aP} {r : aR} {a : Nat} (hm : shM B) (ha : isA B a) (hP : pM S P) (hr : ag (S a) r) {x : Int32} :
    ∀ (k i : Nat) (b : Bool), i + k = P.1 → WS B (fun _ => True) yX7_isFree cX7_isFree 5 (some .boolean) 1 5 [(4, .int (nI i)), (3, .int (bI (b = true))), (0, .ref (s_ad B 102)), (1, .ref (s_ad B a)), (2, .int x)] [] S (qI (bI ((b && (fndU (fun g => (r (3 + g) == 1) && ((r (12 + g) == x) && (r (21 + g) == 0))) k i).isNone) = true)) S) := by
  obtain ⟨hm0, h103, h104, h105, h106, h107, h108, h109, h110, h111, h112, h113, h114, h115, h116, h117, h118, h119, h120, h121, h122⟩ := id hm
  have ha1 := ha.2
  obtain ⟨hn9, hn, hlen, hmst, hPi⟩ := id hP
  intro k
  induction k with
  | zero =>
    intro i b hi
    refine x_iload dX7_isFree_5 rfl ?_
    refine x_aload_n dX7_isFree_7 rfl rfl ?_
    refine gX7_13 dX7_isFree_8 rfl (by assumption) rfl ?_
    refine x_iconst (v := 0) dX7_isFree_11 (by decide) ?_
    refine x_ialdN (j := 0) (by assumption) dX7_isFree_12 (by decide) (by decide) ?_
    refine x_icmp_ge (tgt := 63) dX7_isFree_13 (by decide) (fun c_13 => ?_) (fun c_13 => ?_)
    · refine x_iload_n dX7_isFree_63 rfl rfl ?_
      refine x_ireturn dX7_isFree_64 rfl (by first | rfl | exact bI_nar _) ?_
      exact qI_of (bI_congr (by simp [fndU])) rfl
    · exact absurd (by rw [hn, ← hi]; exact nI_le (by omega) (by omega)) c_13
  | succ k ih =>
    intro i b hi
    have hr3 := hr (3 + i) (by omega)
    have hr12 := hr (12 + i) (by omega)
    have hr21 := hr (21 + i) (by omega)
    refine x_iload dX7_isFree_5 rfl ?_
    refine x_aload_n dX7_isFree_7 rfl rfl ?_
    refine gX7_13 dX7_isFree_8 rfl (by assumption) rfl ?_
    refine x_iconst (v := 0) dX7_isFree_11 (by decide) ?_
    refine x_ialdN (j := 0) (by assumption) dX7_isFree_12 (by decide) (by decide) ?_
    refine x_icmp_ge (tgt := 63) dX7_isFree_13 (by decide) (fun c_13 => ?_) (fun c_13 => ?_)
    · exact absurd c_13 (by rw [hn]; exact nI_ge (by omega) (by omega))
    · refine x_iload_n dX7_isFree_16 rfl rfl ?_
      refine x_ifeq_b (tgt := 55) dX7_isFree_17 (by decide) (fun c_17 => ?_) (fun c_17 => ?_)
      · refine x_iconst (v := 0) dX7_isFree_55 (by decide) ?_
        refine x_istore_n (lv' := [(3, _), (4, _), (0, _), (1, _), (2, _)]) dX7_isFree_56 rfl (by decide) rfl ?_
        first | refine x_inc1N (lv' := [(4, _), (3, _), (0, _), (1, _), (2, _)]) dX7_isFree_57 rfl (by decide) rfl ?_ | refine x_iinc (v := _ + 1) (lv' := [(4, _), (3, _), (0, _), (1, _), (2, _)]) dX7_isFree_57 rfl rfl (by decide) rfl ?_
        refine x_goto (tgt := 5) dX7_isFree_60 (by decide) ?_
        refine x_wk [0, 1, 2, 3, 4] rfl ?_
        first
        | (have hb : b = false := Bool.eq_false_iff.mpr c_17
           subst hb
           rw [show (false && (fndU (fun g => (r (3 + g) == 1) && ((r (12 + g) == x) && (r (21 + g) == 0))) (k + 1) i).isNone) = (false && (fndU (fun g => (r (3 + g) == 1) && ((r (12 + g) == x) && (r (21 + g) == 0))) k (i + 1)).isNone) from rfl]
           exact ih (i + 1) false (by omega))
        | (rw [c_17, fndU, if_neg (by rw [Bool.and_eq_true, Bool.and_eq_true, beq_iff_eq, beq_iff_eq, beq_iff_eq, ← hr3, ← hr12, ← hr21]; exact fun z => c_27 z.1)]; exact ih (i + 1) true (by omega))
        | (rw [c_17, fndU, if_neg (by rw [Bool.and_eq_true, Bool.and_eq_true, beq_iff_eq, beq_iff_eq, beq_iff_eq, ← hr3, ← hr12, ← hr21]; exact fun z => c_38 z.2.1)]; exact ih (i + 1) true (by omega))
        | (rw [c_17, fndU, if_neg (by rw [Bool.and_eq_true, Bool.and_eq_true, beq_iff_eq, beq_iff_eq, beq_iff_eq, ← hr3, ← hr12, ← hr21]; exact fun z => c_48 z.2.2)]; exact ih (i + 1) true (by omega))
        | (rw [c_17, fndU, if_pos (by rw [Bool.and_eq_true, Bool.and_eq_true, beq_iff_eq, beq_iff_eq, beq_iff_eq, ← hr3, ← hr12, ← hr21]; exact ⟨c_27, c_38, c_48⟩), show (true && (some i : Option Nat).isNone) = (false && (fndU (fun g => (r (3 + g) == 1) && ((r (12 + g) == x) && (r (21 + g) == 0))) k (i + 1)).isNone) from rfl]; exact ih (i + 1) false (by omega))
      · refine x_aload_n dX7_isFree_20 rfl rfl ?_
        refine x_iconst (v := 3) dX7_isFree_21 (by decide) ?_
        refine x_iload dX7_isFree_22 rfl ?_
        refine x_iadd dX7_isFree_24 ?_
        first | refine x_re (nI_add 3 _) ?_ | skip
        first | refine x_ialdN (by assumption) dX7_isFree_25 (by omega) (by decide) ?_ | refine x_iald (by assumption) dX7_isFree_25 (by assumption) ?_
        refine x_iconst (v := 1) dX7_isFree_26 (by decide) ?_
        refine x_icmp_ne (tgt := 51) dX7_isFree_27 (by decide) (fun c_27 => ?_) (fun c_27 => ?_)
        · refine x_iconst (v := 1) dX7_isFree_51 (by decide) ?_
          refine x_goto (tgt := 56) dX7_isFree_52 (by decide) ?_
          refine x_istore_n (lv' := [(3, _), (4, _), (0, _), (1, _), (2, _)]) dX7_isFree_56 rfl (by decide) rfl ?_
          first | refine x_inc1N (lv' := [(4, _), (3, _), (0, _), (1, _), (2, _)]) dX7_isFree_57 rfl (by decide) rfl ?_ | refine x_iinc (v := _ + 1) (lv' := [(4, _), (3, _), (0, _), (1, _), (2, _)]) dX7_isFree_57 rfl rfl (by decide) rfl ?_
          refine x_goto (tgt := 5) dX7_isFree_60 (by decide) ?_
          refine x_wk [0, 1, 2, 3, 4] rfl ?_
          first
          | (have hb : b = false := Bool.eq_false_iff.mpr c_17
             subst hb
             rw [show (false && (fndU (fun g => (r (3 + g) == 1) && ((r (12 + g) == x) && (r (21 + g) == 0))) (k + 1) i).isNone) = (false && (fndU (fun g => (r (3 + g) == 1) && ((r (12 + g) == x) && (r (21 + g) == 0))) k (i + 1)).isNone) from rfl]
             exact ih (i + 1) false (by omega))
          | (rw [c_17, fndU, if_neg (by rw [Bool.and_eq_true, Bool.and_eq_true, beq_iff_eq, beq_iff_eq, beq_iff_eq, ← hr3, ← hr12, ← hr21]; exact fun z => c_27 z.1)]; exact ih (i + 1) true (by omega))
          | (rw [c_17, fndU, if_neg (by rw [Bool.and_eq_true, Bool.and_eq_true, beq_iff_eq, beq_iff_eq, beq_iff_eq, ← hr3, ← hr12, ← hr21]; exact fun z => c_38 z.2.1)]; exact ih (i + 1) true (by omega))
          | (rw [c_17, fndU, if_neg (by rw [Bool.and_eq_true, Bool.and_eq_true, beq_iff_eq, beq_iff_eq, beq_iff_eq, ← hr3, ← hr12, ← hr21]; exact fun z => c_48 z.2.2)]; exact ih (i + 1) true (by omega))
          | (rw [c_17, fndU, if_pos (by rw [Bool.and_eq_true, Bool.and_eq_true, beq_iff_eq, beq_iff_eq, beq_iff_eq, ← hr3, ← hr12, ← hr21]; exact ⟨c_27, c_38, c_48⟩), show (true && (some i : Option Nat).isNone) = (false && (fndU (fun g => (r (3 + g) == 1) && ((r (12 + g) == x) && (r (21 + g) == 0))) k (i + 1)).isNone) from rfl]; exact ih (i + 1) false (by omega))
        · refine x_aload_n dX7_isFree_30 rfl rfl ?_
          refine x_bipush (v := 12) dX7_isFree_31 (by decide) ?_
          refine x_iload dX7_isFree_33 rfl ?_
          refine x_iadd dX7_isFree_35 ?_
          first | refine x_re (nI_add 12 _) ?_ | skip
          first | refine x_ialdN (by assumption) dX7_isFree_36 (by omega) (by decide) ?_ | refine x_iald (by assumption) dX7_isFree_36 (by assumption) ?_
          refine x_iload_n dX7_isFree_37 rfl rfl ?_
          refine x_icmp_ne (tgt := 51) dX7_isFree_38 (by decide) (fun c_38 => ?_) (fun c_38 => ?_)
          · refine x_iconst (v := 1) dX7_isFree_51 (by decide) ?_
            refine x_goto (tgt := 56) dX7_isFree_52 (by decide) ?_
            refine x_istore_n (lv' := [(3, _), (4, _), (0, _), (1, _), (2, _)]) dX7_isFree_56 rfl (by decide) rfl ?_
            first | refine x_inc1N (lv' := [(4, _), (3, _), (0, _), (1, _), (2, _)]) dX7_isFree_57 rfl (by decide) rfl ?_ | refine x_iinc (v := _ + 1) (lv' := [(4, _), (3, _), (0, _), (1, _), (2, _)]) dX7_isFree_57 rfl rfl (by decide) rfl ?_
            refine x_goto (tgt := 5) dX7_isFree_60 (by decide) ?_
            refine x_wk [0, 1, 2, 3, 4] rfl ?_
            first
            | (have hb : b = false := Bool.eq_false_iff.mpr c_17
               subst hb
               rw [show (false && (fndU (fun g => (r (3 + g) == 1) && ((r (12 + g) == x) && (r (21 + g) == 0))) (k + 1) i).isNone) = (false && (fndU (fun g => (r (3 + g) == 1) && ((r (12 + g) == x) && (r (21 + g) == 0))) k (i + 1)).isNone) from rfl]
               exact ih (i + 1) false (by omega))
            | (rw [c_17, fndU, if_neg (by rw [Bool.and_eq_true, Bool.and_eq_true, beq_iff_eq, beq_iff_eq, beq_iff_eq, ← hr3, ← hr12, ← hr21]; exact fun z => c_27 z.1)]; exact ih (i + 1) true (by omega))
            | (rw [c_17, fndU, if_neg (by rw [Bool.and_eq_true, Bool.and_eq_true, beq_iff_eq, beq_iff_eq, beq_iff_eq, ← hr3, ← hr12, ← hr21]; exact fun z => c_38 z.2.1)]; exact ih (i + 1) true (by omega))
            | (rw [c_17, fndU, if_neg (by rw [Bool.and_eq_true, Bool.and_eq_true, beq_iff_eq, beq_iff_eq, beq_iff_eq, ← hr3, ← hr12, ← hr21]; exact fun z => c_48 z.2.2)]; exact ih (i + 1) true (by omega))
            | (rw [c_17, fndU, if_pos (by rw [Bool.and_eq_true, Bool.and_eq_true, beq_iff_eq, beq_iff_eq, beq_iff_eq, ← hr3, ← hr12, ← hr21]; exact ⟨c_27, c_38, c_48⟩), show (true && (some i : Option Nat).isNone) = (false && (fndU (fun g => (r (3 + g) == 1) && ((r (12 + g) == x) && (r (21 + g) == 0))) k (i + 1)).isNone) from rfl]; exact ih (i + 1) false (by omega))
          · refine x_aload_n dX7_isFree_41 rfl rfl ?_
            refine x_bipush (v := 21) dX7_isFree_42 (by decide) ?_
            refine x_iload dX7_isFree_44 rfl ?_
            refine x_iadd dX7_isFree_46 ?_
            first | refine x_re (nI_add 21 _) ?_ | skip
            first | refine x_ialdN (by assumption) dX7_isFree_47 (by omega) (by decide) ?_ | refine x_iald (by assumption) dX7_isFree_47 (by assumption) ?_
            refine x_if_eq (tgt := 55) dX7_isFree_48 (by decide) (fun c_48 => ?_) (fun c_48 => ?_)
            · refine x_iconst (v := 0) dX7_isFree_55 (by decide) ?_
              refine x_istore_n (lv' := [(3, _), (4, _), (0, _), (1, _), (2, _)]) dX7_isFree_56 rfl (by decide) rfl ?_
              first | refine x_inc1N (lv' := [(4, _), (3, _), (0, _), (1, _), (2, _)]) dX7_isFree_57 rfl (by decide) rfl ?_ | refine x_iinc (v := _ + 1) (lv' := [(4, _), (3, _), (0, _), (1, _), (2, _)]) dX7_isFree_57 rfl rfl (by decide) rfl ?_
              refine x_goto (tgt := 5) dX7_isFree_60 (by decide) ?_
              refine x_wk [0, 1, 2, 3, 4] rfl ?_
              first
              | (have hb : b = false := Bool.eq_false_iff.mpr c_17
                 subst hb
                 rw [show (false && (fndU (fun g => (r (3 + g) == 1) && ((r (12 + g) == x) && (r (21 + g) == 0))) (k + 1) i).isNone) = (false && (fndU (fun g => (r (3 + g) == 1) && ((r (12 + g) == x) && (r (21 + g) == 0))) k (i + 1)).isNone) from rfl]
                 exact ih (i + 1) false (by omega))
              | (rw [c_17, fndU, if_neg (by rw [Bool.and_eq_true, Bool.and_eq_true, beq_iff_eq, beq_iff_eq, beq_iff_eq, ← hr3, ← hr12, ← hr21]; exact fun z => c_27 z.1)]; exact ih (i + 1) true (by omega))
              | (rw [c_17, fndU, if_neg (by rw [Bool.and_eq_true, Bool.and_eq_true, beq_iff_eq, beq_iff_eq, beq_iff_eq, ← hr3, ← hr12, ← hr21]; exact fun z => c_38 z.2.1)]; exact ih (i + 1) true (by omega))
              | (rw [c_17, fndU, if_neg (by rw [Bool.and_eq_true, Bool.and_eq_true, beq_iff_eq, beq_iff_eq, beq_iff_eq, ← hr3, ← hr12, ← hr21]; exact fun z => c_48 z.2.2)]; exact ih (i + 1) true (by omega))
              | (rw [c_17, fndU, if_pos (by rw [Bool.and_eq_true, Bool.and_eq_true, beq_iff_eq, beq_iff_eq, beq_iff_eq, ← hr3, ← hr12, ← hr21]; exact ⟨c_27, c_38, c_48⟩), show (true && (some i : Option Nat).isNone) = (false && (fndU (fun g => (r (3 + g) == 1) && ((r (12 + g) == x) && (r (21 + g) == 0))) k (i + 1)).isNone) from rfl]; exact ih (i + 1) false (by omega))
            · refine x_iconst (v := 1) dX7_isFree_51 (by decide) ?_
              refine x_goto (tgt := 56) dX7_isFree_52 (by decide) ?_
              refine x_istore_n (lv' := [(3, _), (4, _), (0, _), (1, _), (2, _)]) dX7_isFree_56 rfl (by decide) rfl ?_
              first | refine x_inc1N (lv' := [(4, _), (3, _), (0, _), (1, _), (2, _)]) dX7_isFree_57 rfl (by decide) rfl ?_ | refine x_iinc (v := _ + 1) (lv' := [(4, _), (3, _), (0, _), (1, _), (2, _)]) dX7_isFree_57 rfl rfl (by decide) rfl ?_
              refine x_goto (tgt := 5) dX7_isFree_60 (by decide) ?_
              refine x_wk [0, 1, 2, 3, 4] rfl ?_
              first
              | (have hb : b = false := Bool.eq_false_iff.mpr c_17
                 subst hb
                 rw [show (false && (fndU (fun g => (r (3 + g) == 1) && ((r (12 + g) == x) && (r (21 + g) == 0))) (k + 1) i).isNone) = (false && (fndU (fun g => (r (3 + g) == 1) && ((r (12 + g) == x) && (r (21 + g) == 0))) k (i + 1)).isNone) from rfl]
                 exact ih (i + 1) false (by omega))
              | (rw [c_17, fndU, if_neg (by rw [Bool.and_eq_true, Bool.and_eq_true, beq_iff_eq, beq_iff_eq, beq_iff_eq, ← hr3, ← hr12, ← hr21]; exact fun z => c_27 z.1)]; exact ih (i + 1) true (by omega))
              | (rw [c_17, fndU, if_neg (by rw [Bool.and_eq_true, Bool.and_eq_true, beq_iff_eq, beq_iff_eq, beq_iff_eq, ← hr3, ← hr12, ← hr21]; exact fun z => c_38 z.2.1)]; exact ih (i + 1) true (by omega))
              | (rw [c_17, fndU, if_neg (by rw [Bool.and_eq_true, Bool.and_eq_true, beq_iff_eq, beq_iff_eq, beq_iff_eq, ← hr3, ← hr12, ← hr21]; exact fun z => c_48 z.2.2)]; exact ih (i + 1) true (by omega))
              | (rw [c_17, fndU, if_pos (by rw [Bool.and_eq_true, Bool.and_eq_true, beq_iff_eq, beq_iff_eq, beq_iff_eq, ← hr3, ← hr12, ← hr21]; exact ⟨c_27, c_38, c_48⟩), show (true && (some i : Option Nat).isNone) = (false && (fndU (fun g => (r (3 + g) == 1) && ((r (12 + g) == x) && (r (21 + g) == 0))) k (i + 1)).isNone) from rfl]; exact ih (i + 1) false (by omega))

set_option maxHeartbeats 1000000 in
set_option maxRecDepth 20000 in
theorem c_isFree {B : sB} {S : sSt} {P : aP} {r : aR} {a : Nat} (hm : shM B) (ha : isA B a) (hP : pM S P) (hr : ag (S a) r) {x : Int32} : CS B yX7_isFree cX7_isFree 5 (some .boolean) 1 [.ref (s_ad B 102), .ref (s_ad B a), .int x] S (qI (bI (freeL P r x = true)) S) := by
  refine cs_intro (lv := [(0, .ref (s_ad B 102)), (1, .ref (s_ad B a)), (2, .int x)]) rfl ?_
  refine x_iconst (v := 1) dX7_isFree_0 (by decide) ?_
  refine x_istore_n (lv' := [(3, _), (0, _), (1, _), (2, _)]) dX7_isFree_1 rfl (by decide) rfl ?_
  refine x_iconst (v := 0) dX7_isFree_2 (by decide) ?_
  refine x_istore (lv' := [(4, _), (3, _), (0, _), (1, _), (2, _)]) dX7_isFree_3 (by decide) rfl ?_
  have h := lm_isFree (x := x) hm ha hP hr P.1 0 true (by omega)
  rw [Bool.true_and] at h
  exact h

set_option maxHeartbeats 1000000 in
set_option maxRecDepth 20000 in
theorem lm_hasEaten {B : sB} {S : sSt} {P : aP} {r : aR} {a : Nat} (hm : shM B) (ha : isA B a) (hP : pM S P) (hr : ag (S a) r) {g : Nat} :
    ∀ (k i : Nat) (b : Bool), i + k = P.1 → WS B (fun _ => True) yX7_hasEaten cX7_hasEaten 5 (some .boolean) 1 5 [(4, .int (nI i)), (3, .int (bI (b = true))), (0, .ref (s_ad B 102)), (1, .ref (s_ad B a)), (2, .int (nI g))] [] S (qI (bI ((b || (fndU (fun s => r (39 + s) == nI g) k i).isSome) = true)) S) := by
  obtain ⟨hm0, h103, h104, h105, h106, h107, h108, h109, h110, h111, h112, h113, h114, h115, h116, h117, h118, h119, h120, h121, h122⟩ := id hm
  have ha1 := ha.2
  obtain ⟨hn9, hn, hlen, hmst, hPi⟩ := id hP
  intro k
  induction k with
  | zero =>
    intro i b hi
    refine x_iload dX7_hasEaten_5 rfl ?_
    refine x_aload_n dX7_hasEaten_7 rfl rfl ?_
    refine gX7_13 dX7_hasEaten_8 rfl (by assumption) rfl ?_
    refine x_iconst (v := 0) dX7_hasEaten_11 (by decide) ?_
    refine x_ialdN (j := 0) (by assumption) dX7_hasEaten_12 (by decide) (by decide) ?_
    refine x_icmp_ge (tgt := 43) dX7_hasEaten_13 (by decide) (fun c_13 => ?_) (fun c_13 => ?_)
    · refine x_iload_n dX7_hasEaten_43 rfl rfl ?_
      refine x_ireturn dX7_hasEaten_44 rfl (by first | rfl | exact bI_nar _) ?_
      exact qI_of (bI_congr (by simp [fndU])) rfl
    · exact absurd (by rw [hn, ← hi]; exact nI_le (by omega) (by omega)) c_13
  | succ k ih =>
    intro i b hi
    have hr39 := hr (39 + i) (by omega)
    refine x_iload dX7_hasEaten_5 rfl ?_
    refine x_aload_n dX7_hasEaten_7 rfl rfl ?_
    refine gX7_13 dX7_hasEaten_8 rfl (by assumption) rfl ?_
    refine x_iconst (v := 0) dX7_hasEaten_11 (by decide) ?_
    refine x_ialdN (j := 0) (by assumption) dX7_hasEaten_12 (by decide) (by decide) ?_
    refine x_icmp_ge (tgt := 43) dX7_hasEaten_13 (by decide) (fun c_13 => ?_) (fun c_13 => ?_)
    · exact absurd c_13 (by rw [hn]; exact nI_ge (by omega) (by omega))
    · refine x_iload_n dX7_hasEaten_16 rfl rfl ?_
      refine x_ifne_b (tgt := 31) dX7_hasEaten_17 (by decide) (fun c_17 => ?_) (fun c_17 => ?_)
      · refine x_iconst (v := 1) dX7_hasEaten_31 (by decide) ?_
        refine x_goto (tgt := 36) dX7_hasEaten_32 (by decide) ?_
        refine x_istore_n (lv' := [(3, _), (4, _), (0, _), (1, _), (2, _)]) dX7_hasEaten_36 rfl (by decide) rfl ?_
        first | refine x_inc1N (lv' := [(4, _), (3, _), (0, _), (1, _), (2, _)]) dX7_hasEaten_37 rfl (by decide) rfl ?_ | refine x_iinc (v := _ + 1) (lv' := [(4, _), (3, _), (0, _), (1, _), (2, _)]) dX7_hasEaten_37 rfl rfl (by decide) rfl ?_
        refine x_goto (tgt := 5) dX7_hasEaten_40 (by decide) ?_
        refine x_wk [0, 1, 2, 3, 4] rfl ?_
        first
        | (rw [c_17, show (true || (fndU (fun s => r (39 + s) == nI g) (k + 1) i).isSome) = (true || (fndU (fun s => r (39 + s) == nI g) k (i + 1)).isSome) from rfl]
           exact ih (i + 1) true (by omega))
        | (rw [Bool.eq_false_iff.mpr c_17, fndU, if_neg (by rw [beq_iff_eq, ← hr39]; exact c_28)]; exact ih (i + 1) false (by omega))
        | (rw [Bool.eq_false_iff.mpr c_17, fndU, if_pos (by rw [beq_iff_eq, ← hr39]; exact c_28), show (false || (some i : Option Nat).isSome) = (true || (fndU (fun s => r (39 + s) == nI g) k (i + 1)).isSome) from rfl]; exact ih (i + 1) true (by omega))
      · refine x_aload_n dX7_hasEaten_20 rfl rfl ?_
        refine x_bipush (v := 39) dX7_hasEaten_21 (by decide) ?_
        refine x_iload dX7_hasEaten_23 rfl ?_
        refine x_iadd dX7_hasEaten_25 ?_
        first | refine x_re (nI_add 39 _) ?_ | skip
        first | refine x_ialdN (by assumption) dX7_hasEaten_26 (by omega) (by decide) ?_ | refine x_iald (by assumption) dX7_hasEaten_26 (by assumption) ?_
        refine x_iload_n dX7_hasEaten_27 rfl rfl ?_
        refine x_icmp_ne (tgt := 35) dX7_hasEaten_28 (by decide) (fun c_28 => ?_) (fun c_28 => ?_)
        · refine x_iconst (v := 0) dX7_hasEaten_35 (by decide) ?_
          refine x_istore_n (lv' := [(3, _), (4, _), (0, _), (1, _), (2, _)]) dX7_hasEaten_36 rfl (by decide) rfl ?_
          first | refine x_inc1N (lv' := [(4, _), (3, _), (0, _), (1, _), (2, _)]) dX7_hasEaten_37 rfl (by decide) rfl ?_ | refine x_iinc (v := _ + 1) (lv' := [(4, _), (3, _), (0, _), (1, _), (2, _)]) dX7_hasEaten_37 rfl rfl (by decide) rfl ?_
          refine x_goto (tgt := 5) dX7_hasEaten_40 (by decide) ?_
          refine x_wk [0, 1, 2, 3, 4] rfl ?_
          first
          | (rw [c_17, show (true || (fndU (fun s => r (39 + s) == nI g) (k + 1) i).isSome) = (true || (fndU (fun s => r (39 + s) == nI g) k (i + 1)).isSome) from rfl]
             exact ih (i + 1) true (by omega))
          | (rw [Bool.eq_false_iff.mpr c_17, fndU, if_neg (by rw [beq_iff_eq, ← hr39]; exact c_28)]; exact ih (i + 1) false (by omega))
          | (rw [Bool.eq_false_iff.mpr c_17, fndU, if_pos (by rw [beq_iff_eq, ← hr39]; exact c_28), show (false || (some i : Option Nat).isSome) = (true || (fndU (fun s => r (39 + s) == nI g) k (i + 1)).isSome) from rfl]; exact ih (i + 1) true (by omega))
        · refine x_iconst (v := 1) dX7_hasEaten_31 (by decide) ?_
          refine x_goto (tgt := 36) dX7_hasEaten_32 (by decide) ?_
          refine x_istore_n (lv' := [(3, _), (4, _), (0, _), (1, _), (2, _)]) dX7_hasEaten_36 rfl (by decide) rfl ?_
          first | refine x_inc1N (lv' := [(4, _), (3, _), (0, _), (1, _), (2, _)]) dX7_hasEaten_37 rfl (by decide) rfl ?_ | refine x_iinc (v := _ + 1) (lv' := [(4, _), (3, _), (0, _), (1, _), (2, _)]) dX7_hasEaten_37 rfl rfl (by decide) rfl ?_
          refine x_goto (tgt := 5) dX7_hasEaten_40 (by decide) ?_
          refine x_wk [0, 1, 2, 3, 4] rfl ?_
          first
          | (rw [c_17, show (true || (fndU (fun s => r (39 + s) == nI g) (k + 1) i).isSome) = (true || (fndU (fun s => r (39 + s) == nI g) k (i + 1)).isSome) from rfl]
             exact ih (i + 1) true (by omega))
          | (rw [Bool.eq_false_iff.mpr c_17, fndU, if_neg (by rw [beq_iff_eq, ← hr39]; exact c_28)]; exact ih (i + 1) false (by omega))
          | (rw [Bool.eq_false_iff.mpr c_17, fndU, if_pos (by rw [beq_iff_eq, ← hr39]; exact c_28), show (false || (some i : Option Nat).isSome) = (true || (fndU (fun s => r (39 + s) == nI g) k (i + 1)).isSome) from rfl]; exact ih (i + 1) true (by omega))

set_option maxHeartbeats 1000000 in
set_option maxRecDepth 20000 in
theorem c_hasEaten {B : sB} {S : sSt} {P : aP} {r : aR} {a : Nat} (hm : shM B) (ha : isA B a) (hP : pM S P) (hr : ag (S a) r) {g : Nat} : CS B yX7_hasEaten cX7_hasEaten 5 (some .boolean) 1 [.ref (s_ad B 102), .ref (s_ad B a), .int (nI g)] S (qI (bI ((etn P r g).isSome = true)) S) := by
  refine cs_intro (lv := [(0, .ref (s_ad B 102)), (1, .ref (s_ad B a)), (2, .int (nI g))]) rfl ?_
  refine x_iconst (v := 0) dX7_hasEaten_0 (by decide) ?_
  refine x_istore_n (lv' := [(3, _), (0, _), (1, _), (2, _)]) dX7_hasEaten_1 rfl (by decide) rfl ?_
  refine x_iconst (v := 0) dX7_hasEaten_2 (by decide) ?_
  refine x_istore (lv' := [(4, _), (3, _), (0, _), (1, _), (2, _)]) dX7_hasEaten_3 (by decide) rfl ?_
  have h := lm_hasEaten (g := g) hm ha hP hr P.1 0 false (by omega)
  rw [Bool.false_or] at h
  exact h

set_option maxHeartbeats 1000000 in
set_option maxRecDepth 20000 in
theorem c_canTake {B : sB} {S : sSt} {P : aP} {r : aR} {a : Nat} (hm : shM B) (ha : isA B a) (hP : pM S P) (hr : ag (S a) r) {g s : Nat} (hg : g < P.1) (hs : s < P.1) : CS B yX7_canTake cX7_canTake 4 (some .boolean) 2 [.ref (s_ad B 102), .ref (s_ad B a), .int (nI g), .int (nI s)] S (qI (bI (canT P r g s = true)) S) := by
  refine cs_intro (lv := [(0, .ref (s_ad B 102)), (1, .ref (s_ad B a)), (2, .int (nI g)), (3, .int (nI s))]) rfl ?_
  obtain ⟨hm0, h103, h104, h105, h106, h107, h108, h109, h110, h111, h112, h113, h114, h115, h116, h117, h118, h119, h120, h121, h122⟩ := id hm
  have ha1 := ha.2
  obtain ⟨hn9, hn, hlen, hmst, hPi⟩ := id hP
  have hr3 := hr (3 + s) (by omega)
  have hk1 := (hPi s hs).1
  have hk2 := (hPi g hg).1
  have hsn : (etn P r g).isNone = true ↔ ¬ (etn P r g).isSome = true := by cases etn P r g <;> simp
  refine x_aload_n dX7_canTake_0 rfl rfl ?_
  refine x_iconst (v := 3) dX7_canTake_1 (by decide) ?_
  refine x_iload_n dX7_canTake_2 rfl rfl ?_
  refine x_iadd dX7_canTake_3 ?_
  first | refine x_re (nI_add 3 _) ?_ | skip
  first | refine x_ialdN (by assumption) dX7_canTake_4 (by omega) (by decide) ?_ | refine x_iald (by assumption) dX7_canTake_4 (by assumption) ?_
  refine x_iconst (v := 2) dX7_canTake_5 (by decide) ?_
  refine x_icmp_ne (tgt := 37) dX7_canTake_6 (by decide) (fun c_6 => ?_) (fun c_6 => ?_)
  · refine x_iconst (v := 0) dX7_canTake_37 (by decide) ?_
    refine x_ireturn dX7_canTake_38 rfl (by first | rfl | exact bI_nar _) ?_
    first
    | exact qI_of (bI_f (by rw [canT, Bool.and_eq_true, Bool.and_eq_true, beq_iff_eq, beq_iff_eq, ← hr3, ← hk1, ← hk2]; exact fun z => c_6 z.1)) rfl
    | exact qI_of (bI_f (by rw [canT, Bool.and_eq_true, Bool.and_eq_true, beq_iff_eq, beq_iff_eq, ← hr3, ← hk1, ← hk2]; exact fun z => c_21 z.2.1.symm)) rfl
    | exact qI_of (bI_f (by rw [canT, Bool.and_eq_true, Bool.and_eq_true, beq_iff_eq, beq_iff_eq, ← hr3, ← hk1, ← hk2]; exact fun z => hsn.mp z.2.2 c_30)) rfl
    | exact qI_of (bI_t (by rw [canT, Bool.and_eq_true, Bool.and_eq_true, beq_iff_eq, beq_iff_eq, ← hr3, ← hk1, ← hk2]; exact ⟨c_6, c_21.symm, hsn.mpr c_30⟩)) rfl
  · refine x_aload_n dX7_canTake_9 rfl rfl ?_
    refine gX7_29 dX7_canTake_10 rfl (by assumption) rfl ?_
    refine x_iload_n dX7_canTake_13 rfl rfl ?_
    first | refine x_ialdN (by assumption) dX7_canTake_14 (by omega) (by decide) ?_ | refine x_iald (by assumption) dX7_canTake_14 (by assumption) ?_
    refine x_aload_n dX7_canTake_15 rfl rfl ?_
    refine gX7_29 dX7_canTake_16 rfl (by assumption) rfl ?_
    refine x_iload_n dX7_canTake_19 rfl rfl ?_
    first | refine x_ialdN (by assumption) dX7_canTake_20 (by omega) (by decide) ?_ | refine x_iald (by assumption) dX7_canTake_20 (by assumption) ?_
    refine x_icmp_ne (tgt := 37) dX7_canTake_21 (by decide) (fun c_21 => ?_) (fun c_21 => ?_)
    · refine x_iconst (v := 0) dX7_canTake_37 (by decide) ?_
      refine x_ireturn dX7_canTake_38 rfl (by first | rfl | exact bI_nar _) ?_
      first
      | exact qI_of (bI_f (by rw [canT, Bool.and_eq_true, Bool.and_eq_true, beq_iff_eq, beq_iff_eq, ← hr3, ← hk1, ← hk2]; exact fun z => c_6 z.1)) rfl
      | exact qI_of (bI_f (by rw [canT, Bool.and_eq_true, Bool.and_eq_true, beq_iff_eq, beq_iff_eq, ← hr3, ← hk1, ← hk2]; exact fun z => c_21 z.2.1.symm)) rfl
      | exact qI_of (bI_f (by rw [canT, Bool.and_eq_true, Bool.and_eq_true, beq_iff_eq, beq_iff_eq, ← hr3, ← hk1, ← hk2]; exact fun z => hsn.mp z.2.2 c_30)) rfl
      | exact qI_of (bI_t (by rw [canT, Bool.and_eq_true, Bool.and_eq_true, beq_iff_eq, beq_iff_eq, ← hr3, ← hk1, ← hk2]; exact ⟨c_6, c_21.symm, hsn.mpr c_30⟩)) rfl
    · refine x_aload_n dX7_canTake_24 rfl rfl ?_
      refine x_aload_n dX7_canTake_25 rfl rfl ?_
      refine x_iload_n dX7_canTake_26 rfl rfl ?_
      refine kX7_128 dX7_canTake_27 rfl (by assumption) (c_hasEaten hm ha hP hr) (by decide) (Nat.le_of_ble_eq_true rfl) ?_
      refine x_ifne_b (tgt := 37) dX7_canTake_30 (by decide) (fun c_30 => ?_) (fun c_30 => ?_)
      · refine x_iconst (v := 0) dX7_canTake_37 (by decide) ?_
        refine x_ireturn dX7_canTake_38 rfl (by first | rfl | exact bI_nar _) ?_
        first
        | exact qI_of (bI_f (by rw [canT, Bool.and_eq_true, Bool.and_eq_true, beq_iff_eq, beq_iff_eq, ← hr3, ← hk1, ← hk2]; exact fun z => c_6 z.1)) rfl
        | exact qI_of (bI_f (by rw [canT, Bool.and_eq_true, Bool.and_eq_true, beq_iff_eq, beq_iff_eq, ← hr3, ← hk1, ← hk2]; exact fun z => c_21 z.2.1.symm)) rfl
        | exact qI_of (bI_f (by rw [canT, Bool.and_eq_true, Bool.and_eq_true, beq_iff_eq, beq_iff_eq, ← hr3, ← hk1, ← hk2]; exact fun z => hsn.mp z.2.2 c_30)) rfl
        | exact qI_of (bI_t (by rw [canT, Bool.and_eq_true, Bool.and_eq_true, beq_iff_eq, beq_iff_eq, ← hr3, ← hk1, ← hk2]; exact ⟨c_6, c_21.symm, hsn.mpr c_30⟩)) rfl
      · refine x_iconst (v := 1) dX7_canTake_33 (by decide) ?_
        refine x_goto (tgt := 38) dX7_canTake_34 (by decide) ?_
        refine x_ireturn dX7_canTake_38 rfl (by first | rfl | exact bI_nar _) ?_
        first
        | exact qI_of (bI_f (by rw [canT, Bool.and_eq_true, Bool.and_eq_true, beq_iff_eq, beq_iff_eq, ← hr3, ← hk1, ← hk2]; exact fun z => c_6 z.1)) rfl
        | exact qI_of (bI_f (by rw [canT, Bool.and_eq_true, Bool.and_eq_true, beq_iff_eq, beq_iff_eq, ← hr3, ← hk1, ← hk2]; exact fun z => c_21 z.2.1.symm)) rfl
        | exact qI_of (bI_f (by rw [canT, Bool.and_eq_true, Bool.and_eq_true, beq_iff_eq, beq_iff_eq, ← hr3, ← hk1, ← hk2]; exact fun z => hsn.mp z.2.2 c_30)) rfl
        | exact qI_of (bI_t (by rw [canT, Bool.and_eq_true, Bool.and_eq_true, beq_iff_eq, beq_iff_eq, ← hr3, ← hk1, ← hk2]; exact ⟨c_6, c_21.symm, hsn.mpr c_30⟩)) rfl
