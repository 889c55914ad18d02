set_option maxHeartbeats 1000000 in
set_option maxRecDepth 20000 in
theorem c_within {B : sB} {S : sSt} {x a b : Int32} : CS B yX6_within cX6_within 3 (some .boolean) 1 [.int x, .int a, .int b] S (qI (bI (a ≤ x ∧ x ≤ b)) S) := by
  refine cs_intro (lv := [(0, .int x), (1, .int a), (2, .int b)]) rfl ?_
  refine x_iload_n dX6_within_0 rfl rfl ?_
  refine x_iload_n dX6_within_1 rfl rfl ?_
  refine x_icmp_lt (tgt := 14) dX6_within_2 (by decide) (fun c_2 => ?_) (fun c_2 => ?_)
  · refine x_iconst (v := 0) dX6_within_14 (by decide) ?_
    refine x_ireturn dX6_within_15 rfl (by first | rfl | exact bI_nar _) ?_
    first | exact qI_of (bI_f (fun h => by simp only [Int32.lt_iff_toInt_lt, Int32.le_iff_toInt_le] at *; omega)) rfl | exact qI_of (bI_t (by simp only [Int32.lt_iff_toInt_lt, Int32.le_iff_toInt_le] at *; omega)) rfl
  · refine x_iload_n dX6_within_5 rfl rfl ?_
    refine x_iload_n dX6_within_6 rfl rfl ?_
    refine x_icmp_gt (tgt := 14) dX6_within_7 (by decide) (fun c_7 => ?_) (fun c_7 => ?_)
    · refine x_iconst (v := 0) dX6_within_14 (by decide) ?_
      refine x_ireturn dX6_within_15 rfl (by first | rfl | exact bI_nar _) ?_
      first | exact qI_of (bI_f (fun h => by simp only [Int32.lt_iff_toInt_lt, Int32.le_iff_toInt_le] at *; omega)) rfl | exact qI_of (bI_t (by simp only [Int32.lt_iff_toInt_lt, Int32.le_iff_toInt_le] at *; omega)) rfl
    · refine x_iconst (v := 1) dX6_within_10 (by decide) ?_
      refine x_goto (tgt := 15) dX6_within_11 (by decide) ?_
      refine x_ireturn dX6_within_15 rfl (by first | rfl | exact bI_nar _) ?_
      first | exact qI_of (bI_f (fun h => by simp only [Int32.lt_iff_toInt_lt, Int32.le_iff_toInt_le] at *; omega)) rfl | exact qI_of (bI_t (by simp only [Int32.lt_iff_toInt_lt, Int32.le_iff_toInt_le] at *; omega)) rfl

set_option maxHeartbeats 1000000 in
set_option maxRecDepth 20000 in
theorem l_howMany {B : sB} {S : sSt} {c pl : Nat} {P : aP} {r : aR} {x : Int32} (hc : shB B c pl) (hp : shP B pl) (hP : rP S pl P) (hB : rB S c r) :
    ∀ (k i q : Nat), i + k = P.1 → q ≤ i → WS B (fun _ => True) yX0_howMany cX0_howMany 4 (some .int) 1 4 [(3, .int (nI i)), (2, .int (nI q)), (0, .ref (s_ad B c)), (1, .int x)] [] S (qI (nI (q + cntU (fun g => r (3 + g) == x) k i)) S) := by
  obtain ⟨hc0, hc1, hc2, hc3, hc4, hc5⟩ := hc
  obtain ⟨hp0, hp1, hp2, hp3⟩ := hp
  obtain ⟨hn9, hn, hlen, hmst, hPi⟩ := hP
  intro k
  induction k with
  | zero =>
    intro i q hi hq
    refine x_iload_n dX0_howMany_4 rfl rfl ?_
    refine x_aload_n dX0_howMany_5 rfl rfl ?_
    refine gX0_27 dX0_howMany_6 rfl (by assumption) rfl ?_
    refine gX0_51 dX0_howMany_9 rfl (by assumption) rfl ?_
    refine x_icmp_ge (tgt := 34) dX0_howMany_12 (by decide) (fun c_12 => ?_) (fun c_12 => ?_)
    · refine x_iload_n dX0_howMany_34 rfl rfl ?_
      refine x_ireturn dX0_howMany_35 rfl rfl ?_
      exact ⟨rfl, rfl⟩
    · exact absurd (by rw [hn, ← hi]; exact nI_le (by omega) (by omega)) c_12
  | succ k ih =>
    intro i q hi hq
    have hr := (hB.2.2.2 i (by omega)).1
    refine x_iload_n dX0_howMany_4 rfl rfl ?_
    refine x_aload_n dX0_howMany_5 rfl rfl ?_
    refine gX0_27 dX0_howMany_6 rfl (by assumption) rfl ?_
    refine gX0_51 dX0_howMany_9 rfl (by assumption) rfl ?_
    refine x_icmp_ge (tgt := 34) dX0_howMany_12 (by decide) (fun c_12 => ?_) (fun c_12 => ?_)
    · exact absurd c_12 (by rw [hn]; exact nI_ge (by omega) (by omega))
    · refine x_aload_n dX0_howMany_15 rfl rfl ?_
      refine gX0_9 dX0_howMany_16 rfl (by assumption) rfl ?_
      refine x_iload_n dX0_howMany_19 rfl rfl ?_
      refine x_ialdN (by assumption) dX0_howMany_20 (by omega) (by decide) ?_
      refine x_iload_n dX0_howMany_21 rfl rfl ?_
      refine x_icmp_ne (tgt := 28) dX0_howMany_22 (by decide) (fun c_22 => ?_) (fun c_22 => ?_)
      · refine x_iinc (v := nI (i + 1)) (lv' := [(3, _), (2, _), (0, _), (1, _)]) dX0_howMany_28 rfl (nI_1 i) (by decide) rfl ?_
        refine x_goto (tgt := 4) dX0_howMany_31 (by decide) ?_
        first
        | (rw [show q + cntU (fun g => r (3 + g) == x) (k + 1) i = (q + 1) + cntU (fun g => r (3 + g) == x) k (i + 1) from by rw [cntU, if_pos (by rw [beq_iff_eq, ← hr]; exact c_22)]; omega]; exact ih (i + 1) (q + 1) (by omega) (by omega))
        | (rw [show q + cntU (fun g => r (3 + g) == x) (k + 1) i = q + cntU (fun g => r (3 + g) == x) k (i + 1) from by rw [cntU, if_neg (by rw [beq_iff_eq, ← hr]; exact c_22)]; omega]; exact ih (i + 1) q (by omega) (by omega))
      · refine x_iinc (v := nI (q + 1)) (lv' := [(2, _), (3, _), (0, _), (1, _)]) dX0_howMany_25 rfl (nI_1 q) (by decide) rfl ?_
        refine x_iinc (v := nI (i + 1)) (lv' := [(3, _), (2, _), (0, _), (1, _)]) dX0_howMany_28 rfl (nI_1 i) (by decide) rfl ?_
        refine x_goto (tgt := 4) dX0_howMany_31 (by decide) ?_
        first
        | (rw [show q + cntU (fun g => r (3 + g) == x) (k + 1) i = (q + 1) + cntU (fun g => r (3 + g) == x) k (i + 1) from by rw [cntU, if_pos (by rw [beq_iff_eq, ← hr]; exact c_22)]; omega]; exact ih (i + 1) (q + 1) (by omega) (by omega))
        | (rw [show q + cntU (fun g => r (3 + g) == x) (k + 1) i = q + cntU (fun g => r (3 + g) == x) k (i + 1) from by rw [cntU, if_neg (by rw [beq_iff_eq, ← hr]; exact c_22)]; omega]; exact ih (i + 1) q (by omega) (by omega))

set_option maxHeartbeats 1000000 in
set_option maxRecDepth 20000 in
theorem c_howMany {B : sB} {S : sSt} {c pl : Nat} {P : aP} {r : aR} {x : Int32} (hc : shB B c pl) (hp : shP B pl) (hP : rP S pl P) (hB : rB S c r) : CS B yX0_howMany cX0_howMany 4 (some .int) 1 [.ref (s_ad B c), .int x] S (qI (nI (cntU (fun g => r (3 + g) == x) P.1 0)) S) := by
  refine cs_intro (lv := [(0, .ref (s_ad B c)), (1, .int x)]) rfl ?_
  refine x_iconst (v := 0) dX0_howMany_0 (by decide) ?_
  refine x_istore_n (lv' := [(2, _), (0, _), (1, _)]) dX0_howMany_1 rfl (by decide) rfl ?_
  refine x_iconst (v := 0) dX0_howMany_2 (by decide) ?_
  refine x_istore_n (lv' := [(3, _), (2, _), (0, _), (1, _)]) dX0_howMany_3 rfl (by decide) rfl ?_
  have h := l_howMany (x := x) hc hp hP hB P.1 0 0 (by omega) (Nat.le_refl 0)
  rw [Nat.zero_add] at h
  exact h
