set_option maxHeartbeats 1000000 in
set_option maxRecDepth 20000 in
theorem c_within {B : sB} {S : sSt} {x a b : Int32} : CS B yX6_within cX6_within 3 (some .boolean) 1 [.int x, .int a, .int b] S (qI (bI (a ≤ x ∧ x ≤ b)) S) := by
  refine cs_intro (lv := [(0, .int x), (1, .int a), (2, .int b)]) rfl ?_
  refine x_iload_n dX6_within_0 rfl rfl ?_
  refine x_iload_n dX6_within_1 rfl rfl ?_
  refine x_icmp_lt (tgt := 14) dX6_within_2 (by decide) (fun c_2 => ?_) (fun c_2 => ?_)
  · refine x_iconst (v := 0) dX6_within_14 (by decide) ?_
    refine x_ireturn dX6_within_15 rfl (by first | rfl | exact bI_nar _) ?_
    first | exact qI_of (bI_f (fun h => by simp only [Int32.lt_iff_toInt_lt, Int32.le_iff_toInt_le] at *; omega)) rfl | exact qI_of (bI_t (by simp only [Int32.lt_iff_toInt_lt, Int32.le_iff_toInt_le] at *; omega)) rfl
  · refine x_iload_n dX6_within_5 rfl rfl ?_
    refine x_iload_n dX6_within_6 rfl rfl ?_
    refine x_icmp_gt (tgt := 14) dX6_within_7 (by decide) (fun c_7 => ?_) (fun c_7 => ?_)
    · refine x_iconst (v := 0) dX6_within_14 (by decide) ?_
      refine x_ireturn dX6_within_15 rfl (by first | rfl | exact bI_nar _) ?_
      first | exact qI_of (bI_f (fun h => by simp only [Int32.lt_iff_toInt_lt, Int32.le_iff_toInt_le] at *; omega)) rfl | exact qI_of (bI_t (by simp only [Int32.lt_iff_toInt_lt, Int32.le_iff_toInt_le] at *; omega)) rfl
    · refine x_iconst (v := 1) dX6_within_10 (by decide) ?_
      refine x_goto (tgt := 15) dX6_within_11 (by decide) ?_
      refine x_ireturn dX6_within_15 rfl (by first | rfl | exact bI_nar _) ?_
      first | exact qI_of (bI_f (fun h => by simp only [Int32.lt_iff_toInt_lt, Int32.le_iff_toInt_le] at *; omega)) rfl | exact qI_of (bI_t (by simp only [Int32.lt_iff_toInt_lt, Int32.le_iff_toInt_le] at *; omega)) rfl

set_option maxHeartbeats 1000000 in
set_option maxRecDepth 20000 in
theorem l_howMany {B : sB} {S : sSt} {c pl : Nat} {P : aP} {r : aR} {x : Int32} (hc : shB B c pl) (hp : shP B pl) (hP : rP S pl P) (hB : rB S c r) :
    ∀ (k i q : Nat), i + k = P.1 → q ≤ i → WS B (fun _ => True) yX0_howMany cX0_howMany 4 (some .int) 1 4 [(3, .int (nI i)), (2, .int (nI q)), (0, .ref (s_ad B c)), (1, .int x)] [] S (qI (nI (q + cntU (fun g => r (3 + g) == x) k i)) S) := by
  obtain ⟨hc0, hc1, hc2, hc3, hc4, hc5⟩ := hc
  obtain ⟨hp0, hp1, hp2, hp3⟩ := hp
  obtain ⟨hn9, hn, hlen, hmst, hPi⟩ := id hP
  intro k
  induction k with
  | zero =>
    intro i q hi hq
    refine x_iload_n dX0_howMany_4 rfl rfl ?_
    refine x_aload_n dX0_howMany_5 rfl rfl ?_
    refine gX0_27 dX0_howMany_6 rfl (by assumption) rfl ?_
    refine gX0_51 dX0_howMany_9 rfl (by assumption) rfl ?_
    refine x_icmp_ge (tgt := 34) dX0_howMany_12 (by decide) (fun c_12 => ?_) (fun c_12 => ?_)
    · refine x_iload_n dX0_howMany_34 rfl rfl ?_
      refine x_ireturn dX0_howMany_35 rfl rfl ?_
      exact ⟨rfl, rfl⟩
    · exact absurd (by rw [hn, ← hi]; exact nI_le (by omega) (by omega)) c_12
  | succ k ih =>
    intro i q hi hq
    have hr := (hB.2.2.2 i (by omega)).1
    refine x_iload_n dX0_howMany_4 rfl rfl ?_
    refine x_aload_n dX0_howMany_5 rfl rfl ?_
    refine gX0_27 dX0_howMany_6 rfl (by assumption) rfl ?_
    refine gX0_51 dX0_howMany_9 rfl (by assumption) rfl ?_
    refine x_icmp_ge (tgt := 34) dX0_howMany_12 (by decide) (fun c_12 => ?_) (fun c_12 => ?_)
    · exact absurd c_12 (by rw [hn]; exact nI_ge (by omega) (by omega))
    · refine x_aload_n dX0_howMany_15 rfl rfl ?_
      refine gX0_9 dX0_howMany_16 rfl (by assumption) rfl ?_
      refine x_iload_n dX0_howMany_19 rfl rfl ?_
      first | refine x_ialdN (by assumption) dX0_howMany_20 (by omega) (by decide) ?_ | refine x_iald (by assumption) dX0_howMany_20 (by assumption) ?_
      refine x_iload_n dX0_howMany_21 rfl rfl ?_
      refine x_icmp_ne (tgt := 28) dX0_howMany_22 (by decide) (fun c_22 => ?_) (fun c_22 => ?_)
      · first | refine x_inc1N (lv' := [(3, _), (2, _), (0, _), (1, _)]) dX0_howMany_28 rfl (by decide) rfl ?_ | refine x_iinc (v := _ + 1) (lv' := [(3, _), (2, _), (0, _), (1, _)]) dX0_howMany_28 rfl rfl (by decide) rfl ?_
        refine x_goto (tgt := 4) dX0_howMany_31 (by decide) ?_
        first
        | (rw [show q + cntU (fun g => r (3 + g) == x) (k + 1) i = (q + 1) + cntU (fun g => r (3 + g) == x) k (i + 1) from by rw [cntU, if_pos (by rw [beq_iff_eq, ← hr]; exact c_22)]; omega]; exact ih (i + 1) (q + 1) (by omega) (by omega))
        | (rw [show q + cntU (fun g => r (3 + g) == x) (k + 1) i = q + cntU (fun g => r (3 + g) == x) k (i + 1) from by rw [cntU, if_neg (by rw [beq_iff_eq, ← hr]; exact c_22)]; omega]; exact ih (i + 1) q (by omega) (by omega))
      · first | refine x_inc1N (lv' := [(2, _), (3, _), (0, _), (1, _)]) dX0_howMany_25 rfl (by decide) rfl ?_ | refine x_iinc (v := _ + 1) (lv' := [(2, _), (3, _), (0, _), (1, _)]) dX0_howMany_25 rfl rfl (by decide) rfl ?_
        first | refine x_inc1N (lv' := [(3, _), (2, _), (0, _), (1, _)]) dX0_howMany_28 rfl (by decide) rfl ?_ | refine x_iinc (v := _ + 1) (lv' := [(3, _), (2, _), (0, _), (1, _)]) dX0_howMany_28 rfl rfl (by decide) rfl ?_
        refine x_goto (tgt := 4) dX0_howMany_31 (by decide) ?_
        first
        | (rw [show q + cntU (fun g => r (3 + g) == x) (k + 1) i = (q + 1) + cntU (fun g => r (3 + g) == x) k (i + 1) from by rw [cntU, if_pos (by rw [beq_iff_eq, ← hr]; exact c_22)]; omega]; exact ih (i + 1) (q + 1) (by omega) (by omega))
        | (rw [show q + cntU (fun g => r (3 + g) == x) (k + 1) i = q + cntU (fun g => r (3 + g) == x) k (i + 1) from by rw [cntU, if_neg (by rw [beq_iff_eq, ← hr]; exact c_22)]; omega]; exact ih (i + 1) q (by omega) (by omega))

set_option maxHeartbeats 1000000 in
set_option maxRecDepth 20000 in
theorem c_howMany {B : sB} {S : sSt} {c pl : Nat} {P : aP} {r : aR} {x : Int32} (hc : shB B c pl) (hp : shP B pl) (hP : rP S pl P) (hB : rB S c r) : CS B yX0_howMany cX0_howMany 4 (some .int) 1 [.ref (s_ad B c), .int x] S (qI (nI (onF P r x)) S) := by
  refine cs_intro (lv := [(0, .ref (s_ad B c)), (1, .int x)]) rfl ?_
  refine x_iconst (v := 0) dX0_howMany_0 (by decide) ?_
  refine x_istore_n (lv' := [(2, _), (0, _), (1, _)]) dX0_howMany_1 rfl (by decide) rfl ?_
  refine x_iconst (v := 0) dX0_howMany_2 (by decide) ?_
  refine x_istore_n (lv' := [(3, _), (2, _), (0, _), (1, _)]) dX0_howMany_3 rfl (by decide) rfl ?_
  have h := l_howMany (x := x) hc hp hP hB P.1 0 0 (by omega) (Nat.le_refl 0)
  rw [Nat.zero_add] at h
  exact h

set_option maxHeartbeats 1000000 in
set_option maxRecDepth 20000 in
theorem l_alikeOnTray {B : sB} {S : sSt} {c pl : Nat} {P : aP} {r : aR} {x : Int32} (hc : shB B c pl) (hp : shP B pl) (hP : rP S pl P) (hB : rB S c r) :
    ∀ (k i q : Nat), i + k = P.1 → q ≤ i → WS B (fun _ => True) yX0_alikeOnTray cX0_alikeOnTray 4 (some .int) 1 4 [(3, .int (nI i)), (2, .int (nI q)), (0, .ref (s_ad B c)), (1, .int x)] [] S (qI (nI (q + cntU (fun g => (r (3 + g) == 2) && (P.2.2.2.1 g == x)) k i)) S) := by
  obtain ⟨hc0, hc1, hc2, hc3, hc4, hc5⟩ := hc
  obtain ⟨hp0, hp1, hp2, hp3⟩ := hp
  obtain ⟨hn9, hn, hlen, hmst, hPi⟩ := id hP
  intro k
  induction k with
  | zero =>
    intro i q hi hq
    refine x_iload_n dX0_alikeOnTray_4 rfl rfl ?_
    refine x_aload_n dX0_alikeOnTray_5 rfl rfl ?_
    refine gX0_27 dX0_alikeOnTray_6 rfl (by assumption) rfl ?_
    refine gX0_51 dX0_alikeOnTray_9 rfl (by assumption) rfl ?_
    refine x_icmp_ge (tgt := 47) dX0_alikeOnTray_12 (by decide) (fun c_12 => ?_) (fun c_12 => ?_)
    · refine x_iload_n dX0_alikeOnTray_47 rfl rfl ?_
      refine x_ireturn dX0_alikeOnTray_48 rfl rfl ?_
      exact ⟨rfl, rfl⟩
    · exact absurd (by rw [hn, ← hi]; exact nI_le (by omega) (by omega)) c_12
  | succ k ih =>
    intro i q hi hq
    have hr := (hB.2.2.2 i (by omega)).1
    have hk := (hPi i (by omega)).1
    refine x_iload_n dX0_alikeOnTray_4 rfl rfl ?_
    refine x_aload_n dX0_alikeOnTray_5 rfl rfl ?_
    refine gX0_27 dX0_alikeOnTray_6 rfl (by assumption) rfl ?_
    refine gX0_51 dX0_alikeOnTray_9 rfl (by assumption) rfl ?_
    refine x_icmp_ge (tgt := 47) dX0_alikeOnTray_12 (by decide) (fun c_12 => ?_) (fun c_12 => ?_)
    · exact absurd c_12 (by rw [hn]; exact nI_ge (by omega) (by omega))
    · refine x_aload_n dX0_alikeOnTray_15 rfl rfl ?_
      refine gX0_9 dX0_alikeOnTray_16 rfl (by assumption) rfl ?_
      refine x_iload_n dX0_alikeOnTray_19 rfl rfl ?_
      first | refine x_ialdN (by assumption) dX0_alikeOnTray_20 (by omega) (by decide) ?_ | refine x_iald (by assumption) dX0_alikeOnTray_20 (by assumption) ?_
      refine x_iconst (v := 2) dX0_alikeOnTray_21 (by decide) ?_
      refine x_icmp_ne (tgt := 41) dX0_alikeOnTray_22 (by decide) (fun c_22 => ?_) (fun c_22 => ?_)
      · first | refine x_inc1N (lv' := [(3, _), (2, _), (0, _), (1, _)]) dX0_alikeOnTray_41 rfl (by decide) rfl ?_ | refine x_iinc (v := _ + 1) (lv' := [(3, _), (2, _), (0, _), (1, _)]) dX0_alikeOnTray_41 rfl rfl (by decide) rfl ?_
        refine x_goto (tgt := 4) dX0_alikeOnTray_44 (by decide) ?_
        first
        | (rw [show q + cntU (fun g => (r (3 + g) == 2) && (P.2.2.2.1 g == x)) (k + 1) i = (q + 1) + cntU (fun g => (r (3 + g) == 2) && (P.2.2.2.1 g == x)) k (i + 1) from by rw [cntU, if_pos (by rw [Bool.and_eq_true, beq_iff_eq, beq_iff_eq, ← hr, ← hk]; exact ⟨c_22, c_35⟩)]; omega]; exact ih (i + 1) (q + 1) (by omega) (by omega))
        | (rw [show q + cntU (fun g => (r (3 + g) == 2) && (P.2.2.2.1 g == x)) (k + 1) i = q + cntU (fun g => (r (3 + g) == 2) && (P.2.2.2.1 g == x)) k (i + 1) from by rw [cntU, if_neg (by rw [Bool.and_eq_true, beq_iff_eq, beq_iff_eq, ← hr, ← hk]; exact fun z => c_22 z.1)]; omega]; exact ih (i + 1) q (by omega) (by omega))
        | (rw [show q + cntU (fun g => (r (3 + g) == 2) && (P.2.2.2.1 g == x)) (k + 1) i = q + cntU (fun g => (r (3 + g) == 2) && (P.2.2.2.1 g == x)) k (i + 1) from by rw [cntU, if_neg (by rw [Bool.and_eq_true, beq_iff_eq, beq_iff_eq, ← hr, ← hk]; exact fun z => c_35 z.2)]; omega]; exact ih (i + 1) q (by omega) (by omega))
      · refine x_aload_n dX0_alikeOnTray_25 rfl rfl ?_
        refine gX0_27 dX0_alikeOnTray_26 rfl (by assumption) rfl ?_
        refine gX0_54 dX0_alikeOnTray_29 rfl (by assumption) rfl ?_
        refine x_iload_n dX0_alikeOnTray_32 rfl rfl ?_
        first | refine x_ialdN (by assumption) dX0_alikeOnTray_33 (by omega) (by decide) ?_ | refine x_iald (by assumption) dX0_alikeOnTray_33 (by assumption) ?_
        refine x_iload_n dX0_alikeOnTray_34 rfl rfl ?_
        refine x_icmp_ne (tgt := 41) dX0_alikeOnTray_35 (by decide) (fun c_35 => ?_) (fun c_35 => ?_)
        · first | refine x_inc1N (lv' := [(3, _), (2, _), (0, _), (1, _)]) dX0_alikeOnTray_41 rfl (by decide) rfl ?_ | refine x_iinc (v := _ + 1) (lv' := [(3, _), (2, _), (0, _), (1, _)]) dX0_alikeOnTray_41 rfl rfl (by decide) rfl ?_
          refine x_goto (tgt := 4) dX0_alikeOnTray_44 (by decide) ?_
          first
          | (rw [show q + cntU (fun g => (r (3 + g) == 2) && (P.2.2.2.1 g == x)) (k + 1) i = (q + 1) + cntU (fun g => (r (3 + g) == 2) && (P.2.2.2.1 g == x)) k (i + 1) from by rw [cntU, if_pos (by rw [Bool.and_eq_true, beq_iff_eq, beq_iff_eq, ← hr, ← hk]; exact ⟨c_22, c_35⟩)]; omega]; exact ih (i + 1) (q + 1) (by omega) (by omega))
          | (rw [show q + cntU (fun g => (r (3 + g) == 2) && (P.2.2.2.1 g == x)) (k + 1) i = q + cntU (fun g => (r (3 + g) == 2) && (P.2.2.2.1 g == x)) k (i + 1) from by rw [cntU, if_neg (by rw [Bool.and_eq_true, beq_iff_eq, beq_iff_eq, ← hr, ← hk]; exact fun z => c_22 z.1)]; omega]; exact ih (i + 1) q (by omega) (by omega))
          | (rw [show q + cntU (fun g => (r (3 + g) == 2) && (P.2.2.2.1 g == x)) (k + 1) i = q + cntU (fun g => (r (3 + g) == 2) && (P.2.2.2.1 g == x)) k (i + 1) from by rw [cntU, if_neg (by rw [Bool.and_eq_true, beq_iff_eq, beq_iff_eq, ← hr, ← hk]; exact fun z => c_35 z.2)]; omega]; exact ih (i + 1) q (by omega) (by omega))
        · first | refine x_inc1N (lv' := [(2, _), (3, _), (0, _), (1, _)]) dX0_alikeOnTray_38 rfl (by decide) rfl ?_ | refine x_iinc (v := _ + 1) (lv' := [(2, _), (3, _), (0, _), (1, _)]) dX0_alikeOnTray_38 rfl rfl (by decide) rfl ?_
          first | refine x_inc1N (lv' := [(3, _), (2, _), (0, _), (1, _)]) dX0_alikeOnTray_41 rfl (by decide) rfl ?_ | refine x_iinc (v := _ + 1) (lv' := [(3, _), (2, _), (0, _), (1, _)]) dX0_alikeOnTray_41 rfl rfl (by decide) rfl ?_
          refine x_goto (tgt := 4) dX0_alikeOnTray_44 (by decide) ?_
          first
          | (rw [show q + cntU (fun g => (r (3 + g) == 2) && (P.2.2.2.1 g == x)) (k + 1) i = (q + 1) + cntU (fun g => (r (3 + g) == 2) && (P.2.2.2.1 g == x)) k (i + 1) from by rw [cntU, if_pos (by rw [Bool.and_eq_true, beq_iff_eq, beq_iff_eq, ← hr, ← hk]; exact ⟨c_22, c_35⟩)]; omega]; exact ih (i + 1) (q + 1) (by omega) (by omega))
          | (rw [show q + cntU (fun g => (r (3 + g) == 2) && (P.2.2.2.1 g == x)) (k + 1) i = q + cntU (fun g => (r (3 + g) == 2) && (P.2.2.2.1 g == x)) k (i + 1) from by rw [cntU, if_neg (by rw [Bool.and_eq_true, beq_iff_eq, beq_iff_eq, ← hr, ← hk]; exact fun z => c_22 z.1)]; omega]; exact ih (i + 1) q (by omega) (by omega))
          | (rw [show q + cntU (fun g => (r (3 + g) == 2) && (P.2.2.2.1 g == x)) (k + 1) i = q + cntU (fun g => (r (3 + g) == 2) && (P.2.2.2.1 g == x)) k (i + 1) from by rw [cntU, if_neg (by rw [Bool.and_eq_true, beq_iff_eq, beq_iff_eq, ← hr, ← hk]; exact fun z => c_35 z.2)]; omega]; exact ih (i + 1) q (by omega) (by omega))

set_option maxHeartbeats 1000000 in
set_option maxRecDepth 20000 in
theorem c_alikeOnTray {B : sB} {S : sSt} {c pl : Nat} {P : aP} {r : aR} {x : Int32} (hc : shB B c pl) (hp : shP B pl) (hP : rP S pl P) (hB : rB S c r) : CS B yX0_alikeOnTray cX0_alikeOnTray 4 (some .int) 1 [.ref (s_ad B c), .int x] S (qI (nI (cntU (fun g => (r (3 + g) == 2) && (P.2.2.2.1 g == x)) P.1 0)) S) := by
  refine cs_intro (lv := [(0, .ref (s_ad B c)), (1, .int x)]) rfl ?_
  refine x_iconst (v := 0) dX0_alikeOnTray_0 (by decide) ?_
  refine x_istore_n (lv' := [(2, _), (0, _), (1, _)]) dX0_alikeOnTray_1 rfl (by decide) rfl ?_
  refine x_iconst (v := 0) dX0_alikeOnTray_2 (by decide) ?_
  refine x_istore_n (lv' := [(3, _), (2, _), (0, _), (1, _)]) dX0_alikeOnTray_3 rfl (by decide) rfl ?_
  have h := l_alikeOnTray (x := x) hc hp hP hB P.1 0 0 (by omega) (Nat.le_refl 0)
  rw [Nat.zero_add] at h
  exact h

def oI (o : Option Nat) : Int32 := match o with
  | some j => nI j
  | none => -4

set_option maxHeartbeats 1000000 in
set_option maxRecDepth 20000 in
theorem l_eatenBy {B : sB} {S : sSt} {c pl : Nat} {P : aP} {r : aR} {x : Int32} (hc : shB B c pl) (hp : shP B pl) (hP : rP S pl P) (hB : rB S c r) :
    ∀ (k i : Nat), i + k = P.1 → WS B (fun _ => True) yX0_eatenBy cX0_eatenBy 3 (some .int) 1 2 [(2, .int (nI i)), (0, .ref (s_ad B c)), (1, .int x)] [] S (qI (oI (fndU (fun s => r (39 + s) == x) k i)) S) := by
  obtain ⟨hc0, hc1, hc2, hc3, hc4, hc5⟩ := hc
  obtain ⟨hp0, hp1, hp2, hp3⟩ := hp
  obtain ⟨hn9, hn, hlen, hmst, hPi⟩ := id hP
  intro k
  induction k with
  | zero =>
    intro i hi
    refine x_iload_n dX0_eatenBy_2 rfl rfl ?_
    refine x_aload_n dX0_eatenBy_3 rfl rfl ?_
    refine gX0_27 dX0_eatenBy_4 rfl (by assumption) rfl ?_
    refine gX0_51 dX0_eatenBy_7 rfl (by assumption) rfl ?_
    refine x_icmp_ge (tgt := 31) dX0_eatenBy_10 (by decide) (fun c_10 => ?_) (fun c_10 => ?_)
    · refine x_bipush (v := (-4)) dX0_eatenBy_31 (by decide) ?_
      refine x_ireturn dX0_eatenBy_33 rfl rfl ?_
      exact ⟨rfl, rfl⟩
    · exact absurd (by rw [hn, ← hi]; exact nI_le (by omega) (by omega)) c_10
  | succ k ih =>
    intro i hi
    have hr := (hB.2.2.2 i (by omega)).2.2.2.2
    refine x_iload_n dX0_eatenBy_2 rfl rfl ?_
    refine x_aload_n dX0_eatenBy_3 rfl rfl ?_
    refine gX0_27 dX0_eatenBy_4 rfl (by assumption) rfl ?_
    refine gX0_51 dX0_eatenBy_7 rfl (by assumption) rfl ?_
    refine x_icmp_ge (tgt := 31) dX0_eatenBy_10 (by decide) (fun c_10 => ?_) (fun c_10 => ?_)
    · exact absurd c_10 (by rw [hn]; exact nI_ge (by omega) (by omega))
    · refine x_aload_n dX0_eatenBy_13 rfl rfl ?_
      refine gX0_24 dX0_eatenBy_14 rfl (by assumption) rfl ?_
      refine x_iload_n dX0_eatenBy_17 rfl rfl ?_
      first | refine x_ialdN (by assumption) dX0_eatenBy_18 (by omega) (by decide) ?_ | refine x_iald (by assumption) dX0_eatenBy_18 (by assumption) ?_
      refine x_iload_n dX0_eatenBy_19 rfl rfl ?_
      refine x_icmp_ne (tgt := 25) dX0_eatenBy_20 (by decide) (fun c_20 => ?_) (fun c_20 => ?_)
      · first | refine x_inc1N (lv' := [(2, _), (0, _), (1, _)]) dX0_eatenBy_25 rfl (by decide) rfl ?_ | refine x_iinc (v := _ + 1) (lv' := [(2, _), (0, _), (1, _)]) dX0_eatenBy_25 rfl rfl (by decide) rfl ?_
        refine x_goto (tgt := 2) dX0_eatenBy_28 (by decide) ?_
        rw [fndU, if_neg (by rw [beq_iff_eq, ← hr]; exact c_20)]
        exact ih (i + 1) (by omega)
      · refine x_iload_n dX0_eatenBy_23 rfl rfl ?_
        refine x_ireturn dX0_eatenBy_24 rfl rfl ?_
        rw [fndU, if_pos (by rw [beq_iff_eq, ← hr]; exact c_20)]
        exact ⟨rfl, rfl⟩

set_option maxHeartbeats 1000000 in
set_option maxRecDepth 20000 in
theorem c_eatenBy {B : sB} {S : sSt} {c pl : Nat} {P : aP} {r : aR} {x : Int32} (hc : shB B c pl) (hp : shP B pl) (hP : rP S pl P) (hB : rB S c r) : CS B yX0_eatenBy cX0_eatenBy 3 (some .int) 1 [.ref (s_ad B c), .int x] S (qI (oI (fndU (fun s => r (39 + s) == x) P.1 0)) S) := by
  refine cs_intro (lv := [(0, .ref (s_ad B c)), (1, .int x)]) rfl ?_
  refine x_iconst (v := 0) dX0_eatenBy_0 (by decide) ?_
  refine x_istore_n (lv' := [(2, _), (0, _), (1, _)]) dX0_eatenBy_1 rfl (by decide) rfl ?_
  exact l_eatenBy (x := x) hc hp hP hB P.1 0 (by omega)

set_option maxHeartbeats 1000000 in
set_option maxRecDepth 20000 in
theorem c_isRight {B : sB} {S : sSt} {c pl : Nat} {P : aP} {r : aR} {g s : Nat} (hc : shB B c pl) (hp : shP B pl) (hP : rP S pl P) (hB : rB S c r) (hg : g < P.1) (hs : s < P.1) : CS B yX0_isRight cX0_isRight 3 (some .boolean) 2 [.ref (s_ad B c), .int (nI g), .int (nI s)] S (qI (bI (rgt P r g s = true)) S) := by
  refine cs_intro (lv := [(0, .ref (s_ad B c)), (1, .int (nI g)), (2, .int (nI s))]) rfl ?_
  obtain ⟨hc0, hc1, hc2, hc3, hc4, hc5⟩ := hc
  obtain ⟨hp0, hp1, hp2, hp3⟩ := hp
  obtain ⟨hn9, hn, hlen, hmst, hPi⟩ := id hP
  refine x_aload_n dX0_isRight_0 rfl rfl ?_
  refine gX0_21 dX0_isRight_1 rfl (by assumption) rfl ?_
  refine x_iload_n dX0_isRight_4 rfl rfl ?_
  first | refine x_ialdN (by assumption) dX0_isRight_5 (by omega) (by decide) ?_ | refine x_iald (by assumption) dX0_isRight_5 (by assumption) ?_
  refine x_aload_n dX0_isRight_6 rfl rfl ?_
  refine gX0_27 dX0_isRight_7 rfl (by assumption) rfl ?_
  refine gX0_57 dX0_isRight_10 rfl (by assumption) rfl ?_
  refine x_iload_n dX0_isRight_13 rfl rfl ?_
  first | refine x_ialdN (by assumption) dX0_isRight_14 (by omega) (by decide) ?_ | refine x_iald (by assumption) dX0_isRight_14 (by assumption) ?_
  refine x_aload_n dX0_isRight_15 rfl rfl ?_
  refine gX0_27 dX0_isRight_16 rfl (by assumption) rfl ?_
  refine gX0_60 dX0_isRight_19 rfl (by assumption) rfl ?_
  refine x_iload_n dX0_isRight_22 rfl rfl ?_
  first | refine x_ialdN (by assumption) dX0_isRight_23 (by omega) (by decide) ?_ | refine x_iald (by assumption) dX0_isRight_23 (by assumption) ?_
  refine kX0_63 dX0_isRight_24 rfl (c_within) (by decide) (Nat.le_of_ble_eq_true rfl) ?_
  refine x_ireturn dX0_isRight_27 rfl (by first | rfl | exact bI_nar _) ?_
  refine qI_of (bI_congr ?_) rfl
  rw [rgt, Bool.and_eq_true, decide_eq_true_eq, decide_eq_true_eq, (hB.2.2.2 s (by omega)).2.2.2.1, (hPi g hg).2.1, (hPi g hg).2.2]

set_option maxHeartbeats 1000000 in
set_option maxRecDepth 20000 in
theorem c_canGoIn {B : sB} {S : sSt} {c pl : Nat} {P : aP} {r : aR} {g : Nat} (hc : shB B c pl) (hp : shP B pl) (hP : rP S pl P) (hB : rB S c r) (hg : g < P.1) : CS B yX0_canGoIn cX0_canGoIn 2 (some .boolean) 1 [.ref (s_ad B c), .int (nI g)] S (qI (bI (loose r g = true)) S) := by
  refine cs_intro (lv := [(0, .ref (s_ad B c)), (1, .int (nI g))]) rfl ?_
  obtain ⟨hc0, hc1, hc2, hc3, hc4, hc5⟩ := hc
  obtain ⟨hp0, hp1, hp2, hp3⟩ := hp
  obtain ⟨hn9, hn, hlen, hmst, hPi⟩ := id hP
  have hr := (hB.2.2.2 g (by omega)).1
  refine x_aload_n dX0_canGoIn_0 rfl rfl ?_
  refine gX0_9 dX0_canGoIn_1 rfl (by assumption) rfl ?_
  refine x_iload_n dX0_canGoIn_4 rfl rfl ?_
  first | refine x_ialdN (by assumption) dX0_canGoIn_5 (by omega) (by decide) ?_ | refine x_iald (by assumption) dX0_canGoIn_5 (by assumption) ?_
  refine x_if_eq (tgt := 19) dX0_canGoIn_6 (by decide) (fun c_6 => ?_) (fun c_6 => ?_)
  · refine x_iconst (v := 1) dX0_canGoIn_19 (by decide) ?_
    refine x_goto (tgt := 24) dX0_canGoIn_20 (by decide) ?_
    refine x_ireturn dX0_canGoIn_24 rfl (by first | rfl | exact bI_nar _) ?_
    first
    | exact qI_of (bI_t (by rw [loose, Bool.or_eq_true, beq_iff_eq, beq_iff_eq, ← hr]; exact Or.inl c_6)) rfl
    | exact qI_of (bI_t (by rw [loose, Bool.or_eq_true, beq_iff_eq, beq_iff_eq, ← hr]; exact Or.inr c_16)) rfl
    | exact qI_of (bI_f (by rw [loose, Bool.or_eq_true, beq_iff_eq, beq_iff_eq, ← hr]; exact fun z => z.elim c_6 c_16)) rfl
  · refine x_aload_n dX0_canGoIn_9 rfl rfl ?_
    refine gX0_9 dX0_canGoIn_10 rfl (by assumption) rfl ?_
    refine x_iload_n dX0_canGoIn_13 rfl rfl ?_
    first | refine x_ialdN (by assumption) dX0_canGoIn_14 (by omega) (by decide) ?_ | refine x_iald (by assumption) dX0_canGoIn_14 (by assumption) ?_
    refine x_iconst (v := 2) dX0_canGoIn_15 (by decide) ?_
    refine x_icmp_ne (tgt := 23) dX0_canGoIn_16 (by decide) (fun c_16 => ?_) (fun c_16 => ?_)
    · refine x_iconst (v := 0) dX0_canGoIn_23 (by decide) ?_
      refine x_ireturn dX0_canGoIn_24 rfl (by first | rfl | exact bI_nar _) ?_
      first
      | exact qI_of (bI_t (by rw [loose, Bool.or_eq_true, beq_iff_eq, beq_iff_eq, ← hr]; exact Or.inl c_6)) rfl
      | exact qI_of (bI_t (by rw [loose, Bool.or_eq_true, beq_iff_eq, beq_iff_eq, ← hr]; exact Or.inr c_16)) rfl
      | exact qI_of (bI_f (by rw [loose, Bool.or_eq_true, beq_iff_eq, beq_iff_eq, ← hr]; exact fun z => z.elim c_6 c_16)) rfl
    · refine x_iconst (v := 1) dX0_canGoIn_19 (by decide) ?_
      refine x_goto (tgt := 24) dX0_canGoIn_20 (by decide) ?_
      refine x_ireturn dX0_canGoIn_24 rfl (by first | rfl | exact bI_nar _) ?_
      first
      | exact qI_of (bI_t (by rw [loose, Bool.or_eq_true, beq_iff_eq, beq_iff_eq, ← hr]; exact Or.inl c_6)) rfl
      | exact qI_of (bI_t (by rw [loose, Bool.or_eq_true, beq_iff_eq, beq_iff_eq, ← hr]; exact Or.inr c_16)) rfl
      | exact qI_of (bI_f (by rw [loose, Bool.or_eq_true, beq_iff_eq, beq_iff_eq, ← hr]; exact fun z => z.elim c_6 c_16)) rfl

set_option maxHeartbeats 1000000 in
set_option maxRecDepth 20000 in
theorem l_isFreeAtStart {B : sB} {S : sSt} {c pl : Nat} {P : aP} {r : aR} {x : Int32} (hc : shB B c pl) (hp : shP B pl) (hP : rP S pl P) (hB : rB S c r) :
    ∀ (k i : Nat), i + k = P.1 → WS B (fun _ => True) yX0_isFreeAtStart cX0_isFreeAtStart 3 (some .boolean) 1 2 [(2, .int (nI i)), (0, .ref (s_ad B c)), (1, .int x)] [] S (qI (bI ((fndU (fun g => (r (3 + g) == 1) && ((r (12 + g) == x) && (r (21 + g) == 0))) k i).isNone = true)) S) := by
  obtain ⟨hc0, hc1, hc2, hc3, hc4, hc5⟩ := hc
  obtain ⟨hp0, hp1, hp2, hp3⟩ := hp
  obtain ⟨hn9, hn, hlen, hmst, hPi⟩ := id hP
  intro k
  induction k with
  | zero =>
    intro i hi
    refine x_iload_n dX0_isFreeAtStart_2 rfl rfl ?_
    refine x_aload_n dX0_isFreeAtStart_3 rfl rfl ?_
    refine gX0_27 dX0_isFreeAtStart_4 rfl (by assumption) rfl ?_
    refine gX0_51 dX0_isFreeAtStart_7 rfl (by assumption) rfl ?_
    refine x_icmp_ge (tgt := 50) dX0_isFreeAtStart_10 (by decide) (fun c_10 => ?_) (fun c_10 => ?_)
    · refine x_iconst (v := 1) dX0_isFreeAtStart_50 (by decide) ?_
      refine x_ireturn dX0_isFreeAtStart_51 rfl (by first | rfl | exact bI_nar _) ?_
      exact ⟨rfl, rfl⟩
    · exact absurd (by rw [hn, ← hi]; exact nI_le (by omega) (by omega)) c_10
  | succ k ih =>
    intro i hi
    have hr := hB.2.2.2 i (by omega)
    refine x_iload_n dX0_isFreeAtStart_2 rfl rfl ?_
    refine x_aload_n dX0_isFreeAtStart_3 rfl rfl ?_
    refine gX0_27 dX0_isFreeAtStart_4 rfl (by assumption) rfl ?_
    refine gX0_51 dX0_isFreeAtStart_7 rfl (by assumption) rfl ?_
    refine x_icmp_ge (tgt := 50) dX0_isFreeAtStart_10 (by decide) (fun c_10 => ?_) (fun c_10 => ?_)
    · exact absurd c_10 (by rw [hn]; exact nI_ge (by omega) (by omega))
    · refine x_aload_n dX0_isFreeAtStart_13 rfl rfl ?_
      refine gX0_9 dX0_isFreeAtStart_14 rfl (by assumption) rfl ?_
      refine x_iload_n dX0_isFreeAtStart_17 rfl rfl ?_
      first | refine x_ialdN (by assumption) dX0_isFreeAtStart_18 (by omega) (by decide) ?_ | refine x_iald (by assumption) dX0_isFreeAtStart_18 (by assumption) ?_
      refine x_iconst (v := 1) dX0_isFreeAtStart_19 (by decide) ?_
      refine x_icmp_ne (tgt := 44) dX0_isFreeAtStart_20 (by decide) (fun c_20 => ?_) (fun c_20 => ?_)
      · first | refine x_inc1N (lv' := [(2, _), (0, _), (1, _)]) dX0_isFreeAtStart_44 rfl (by decide) rfl ?_ | refine x_iinc (v := _ + 1) (lv' := [(2, _), (0, _), (1, _)]) dX0_isFreeAtStart_44 rfl rfl (by decide) rfl ?_
        refine x_goto (tgt := 2) dX0_isFreeAtStart_47 (by decide) ?_
        first
        | (rw [fndU, if_neg (by rw [Bool.and_eq_true, Bool.and_eq_true, beq_iff_eq, beq_iff_eq, beq_iff_eq, ← hr.1, ← hr.2.1, ← hr.2.2.1]; exact fun z => c_20 z.1)]; exact ih (i + 1) (by omega))
        | (rw [fndU, if_neg (by rw [Bool.and_eq_true, Bool.and_eq_true, beq_iff_eq, beq_iff_eq, beq_iff_eq, ← hr.1, ← hr.2.1, ← hr.2.2.1]; exact fun z => c_30 z.2.1)]; exact ih (i + 1) (by omega))
        | (rw [fndU, if_neg (by rw [Bool.and_eq_true, Bool.and_eq_true, beq_iff_eq, beq_iff_eq, beq_iff_eq, ← hr.1, ← hr.2.1, ← hr.2.2.1]; exact fun z => c_39 z.2.2)]; exact ih (i + 1) (by omega))
      · refine x_aload_n dX0_isFreeAtStart_23 rfl rfl ?_
        refine gX0_15 dX0_isFreeAtStart_24 rfl (by assumption) rfl ?_
        refine x_iload_n dX0_isFreeAtStart_27 rfl rfl ?_
        first | refine x_ialdN (by assumption) dX0_isFreeAtStart_28 (by omega) (by decide) ?_ | refine x_iald (by assumption) dX0_isFreeAtStart_28 (by assumption) ?_
        refine x_iload_n dX0_isFreeAtStart_29 rfl rfl ?_
        refine x_icmp_ne (tgt := 44) dX0_isFreeAtStart_30 (by decide) (fun c_30 => ?_) (fun c_30 => ?_)
        · first | refine x_inc1N (lv' := [(2, _), (0, _), (1, _)]) dX0_isFreeAtStart_44 rfl (by decide) rfl ?_ | refine x_iinc (v := _ + 1) (lv' := [(2, _), (0, _), (1, _)]) dX0_isFreeAtStart_44 rfl rfl (by decide) rfl ?_
          refine x_goto (tgt := 2) dX0_isFreeAtStart_47 (by decide) ?_
          first
          | (rw [fndU, if_neg (by rw [Bool.and_eq_true, Bool.and_eq_true, beq_iff_eq, beq_iff_eq, beq_iff_eq, ← hr.1, ← hr.2.1, ← hr.2.2.1]; exact fun z => c_20 z.1)]; exact ih (i + 1) (by omega))
          | (rw [fndU, if_neg (by rw [Bool.and_eq_true, Bool.and_eq_true, beq_iff_eq, beq_iff_eq, beq_iff_eq, ← hr.1, ← hr.2.1, ← hr.2.2.1]; exact fun z => c_30 z.2.1)]; exact ih (i + 1) (by omega))
          | (rw [fndU, if_neg (by rw [Bool.and_eq_true, Bool.and_eq_true, beq_iff_eq, beq_iff_eq, beq_iff_eq, ← hr.1, ← hr.2.1, ← hr.2.2.1]; exact fun z => c_39 z.2.2)]; exact ih (i + 1) (by omega))
        · refine x_aload_n dX0_isFreeAtStart_33 rfl rfl ?_
          refine gX0_18 dX0_isFreeAtStart_34 rfl (by assumption) rfl ?_
          refine x_iload_n dX0_isFreeAtStart_37 rfl rfl ?_
          first | refine x_ialdN (by assumption) dX0_isFreeAtStart_38 (by omega) (by decide) ?_ | refine x_iald (by assumption) dX0_isFreeAtStart_38 (by assumption) ?_
          refine x_if_ne (tgt := 44) dX0_isFreeAtStart_39 (by decide) (fun c_39 => ?_) (fun c_39 => ?_)
          · first | refine x_inc1N (lv' := [(2, _), (0, _), (1, _)]) dX0_isFreeAtStart_44 rfl (by decide) rfl ?_ | refine x_iinc (v := _ + 1) (lv' := [(2, _), (0, _), (1, _)]) dX0_isFreeAtStart_44 rfl rfl (by decide) rfl ?_
            refine x_goto (tgt := 2) dX0_isFreeAtStart_47 (by decide) ?_
            first
            | (rw [fndU, if_neg (by rw [Bool.and_eq_true, Bool.and_eq_true, beq_iff_eq, beq_iff_eq, beq_iff_eq, ← hr.1, ← hr.2.1, ← hr.2.2.1]; exact fun z => c_20 z.1)]; exact ih (i + 1) (by omega))
            | (rw [fndU, if_neg (by rw [Bool.and_eq_true, Bool.and_eq_true, beq_iff_eq, beq_iff_eq, beq_iff_eq, ← hr.1, ← hr.2.1, ← hr.2.2.1]; exact fun z => c_30 z.2.1)]; exact ih (i + 1) (by omega))
            | (rw [fndU, if_neg (by rw [Bool.and_eq_true, Bool.and_eq_true, beq_iff_eq, beq_iff_eq, beq_iff_eq, ← hr.1, ← hr.2.1, ← hr.2.2.1]; exact fun z => c_39 z.2.2)]; exact ih (i + 1) (by omega))
          · refine x_iconst (v := 0) dX0_isFreeAtStart_42 (by decide) ?_
            refine x_ireturn dX0_isFreeAtStart_43 rfl (by first | rfl | exact bI_nar _) ?_
            rw [fndU, if_pos (by rw [Bool.and_eq_true, Bool.and_eq_true, beq_iff_eq, beq_iff_eq, beq_iff_eq, ← hr.1, ← hr.2.1, ← hr.2.2.1]; exact ⟨c_20, c_30, c_39⟩)]
            exact ⟨rfl, rfl⟩

set_option maxHeartbeats 1000000 in
set_option maxRecDepth 20000 in
theorem c_isFreeAtStart {B : sB} {S : sSt} {c pl : Nat} {P : aP} {r : aR} {x : Int32} (hc : shB B c pl) (hp : shP B pl) (hP : rP S pl P) (hB : rB S c r) : CS B yX0_isFreeAtStart cX0_isFreeAtStart 3 (some .boolean) 1 [.ref (s_ad B c), .int x] S (qI (bI (freeL P r x = true)) S) := by
  refine cs_intro (lv := [(0, .ref (s_ad B c)), (1, .int x)]) rfl ?_
  refine x_iconst (v := 0) dX0_isFreeAtStart_0 (by decide) ?_
  refine x_istore_n (lv' := [(2, _), (0, _), (1, _)]) dX0_isFreeAtStart_1 rfl (by decide) rfl ?_
  exact l_isFreeAtStart (x := x) hc hp hP hB P.1 0 (by omega)
