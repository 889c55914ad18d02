theorem heatF_in {P : aP} (hiP : iP P) {on : Nat} {h : Int32} (hon : on ≤ 9) (hh : 0 ≤ h.toInt ∧ h.toInt ≤ 30) : 0 ≤ (heatF P on h).toInt ∧ (heatF P on h).toInt ≤ 30 := by
  obtain ⟨j, hj, rfl⟩ := nI_of3 (n := 30) hh.1 (by omega) (by decide)
  unfold heatF
  have hm := hiP.2.2.2.1
  split
  · split
    · rename_i h1
      rw [Int32.lt_iff_toInt_lt, nI_toInt (by omega)] at h1
      rw [show nI j + 1 = nI (j + 1) from nI_1 j, nI_toInt (by omega)]
      omega
    · rw [nI_toInt (by omega)]; omega
  · split
    · decide
    · rename_i h1
      rw [Int32.lt_iff_toInt_lt, nI_toInt (by omega), nI_toInt (by omega)] at h1
      rw [pk_sub (by omega), nI_toInt (by omega)]; omega
theorem momF_1 (P : aP) (r : aR) : momF P r 1 = heatF P (onF P r 1) (r 1) := by
  rw [momF, upd_ne (by decide), upd_eq, carU_lo (by decide)]
theorem momF_heat {P : aP} (hiP : iP P) {r : aR} (hh : 0 ≤ (r 1).toInt ∧ (r 1).toInt ≤ 30) : 0 ≤ (momF P r 1).toInt ∧ (momF P r 1).toInt ≤ 30 := by
  rw [momF_1]; exact heatF_in hiP (Nat.le_trans (onF_le P r 1) hiP.2.1) hh
theorem putF_1 (r : aR) (g : Nat) (x : Int32) : putF r g x 1 = r 1 := by rw [putF, upd_ne (by omega), upd_ne (by omega), upd_ne (by omega)]
theorem tilU_heat {P : aP} (hiP : iP P) {g : Nat} : ∀ (k : Nat) (r : aR), (0 ≤ (r 1).toInt ∧ (r 1).toInt ≤ 30) → 0 ≤ (tilU P k g r 1).toInt ∧ (tilU P k g r 1).toInt ≤ 30 := by
  intro k; induction k with
  | zero => intro r h; exact h
  | succ k ih => intro r h; rw [tilU]; split
                 · exact ih _ (momF_heat hiP h)
                 · exact h

set_option maxHeartbeats 1000000 in
set_option maxRecDepth 20000 in
theorem l_goOnTillFallen {B : sB} {S : sSt} {c pl g : Nat} {P : aP} (hc : shB B c pl) (hp : shP B pl) (hlt : pl + 4 ≤ c) (hiP : iP P) (hg : g < 9) :
    ∀ (k i : Nat) (S0 : sSt) (r0 : aR), i + k = 40 → rP S0 pl P → chB S S0 c r0 → (0 ≤ (r0 1).toInt ∧ (r0 1).toInt ≤ 30) → WS B (fun _ => True) yX0_goOnTillFallen cX0_goOnTillFallen 3 none 4 2 [(2, .int (nI i)), (0, .ref (s_ad B c)), (1, .int (nI g))] [] S0 (qB S c (tilU P k g r0)) := by
  have hcc := hc
  obtain ⟨hc0, hc1, hc2, hc3, hc4, hc5⟩ := hc
  intro k
  induction k with
  | zero =>
    intro i S0 r0 hi hP0 H0 hh
    refine x_iload_n dX0_goOnTillFallen_2 rfl rfl ?_
    refine x_bipush (v := 40) dX0_goOnTillFallen_3 (by decide) ?_
    refine x_icmp_ge (tgt := 28) dX0_goOnTillFallen_5 (by decide) (fun c_5 => ?_) (fun c_5 => ?_)
    · refine x_return dX0_goOnTillFallen_28 rfl ?_
      exact ⟨rfl, H0⟩
    · exact absurd (by rw [show i = 40 by omega]; decide) c_5
  | succ k ih =>
    intro i S0 r0 hi hP0 H0 hh
    refine x_iload_n dX0_goOnTillFallen_2 rfl rfl ?_
    refine x_bipush (v := 40) dX0_goOnTillFallen_3 (by decide) ?_
    refine x_icmp_ge (tgt := 28) dX0_goOnTillFallen_5 (by decide) (fun c_5 => ?_) (fun c_5 => ?_)
    · exact absurd c_5 (by exact nI_ge (b := 40) (by omega) (by decide))
    · refine x_aload_n dX0_goOnTillFallen_8 rfl rfl ?_
      refine gX0_9 dX0_goOnTillFallen_9 rfl (by assumption) rfl ?_
      refine x_iload_n dX0_goOnTillFallen_12 rfl rfl ?_
      first | refine x_ialdN (by assumption) dX0_goOnTillFallen_13 (by omega) (by decide) ?_ | refine x_iald (by assumption) dX0_goOnTillFallen_13 (by assumption) ?_
      refine x_iconst (v := 1) dX0_goOnTillFallen_14 (by decide) ?_
      refine x_icmp_ne (tgt := 28) dX0_goOnTillFallen_15 (by decide) (fun c_15 => ?_) (fun c_15 => ?_)
      · have hw : ¬ r0 (3 + g) = 1 := by rw [← (H0.1.2.2.2 g hg).1]; exact c_15
        refine x_return dX0_goOnTillFallen_28 rfl ?_
        rw [tilU, if_neg hw]
        exact ⟨rfl, H0⟩
      · have hw : r0 (3 + g) = 1 := by rw [← (H0.1.2.2.2 g hg).1]; exact c_15
        refine x_aload_n dX0_goOnTillFallen_18 rfl rfl ?_
        refine kX0_93r dX0_goOnTillFallen_19 rfl (by assumption) (c_goOn hcc hp hP0 H0.1 hlt hiP hh) (by decide) (Nat.le_of_ble_eq_true rfl) (fun S1 hq => ?_)
        obtain ⟨-, hq1⟩ := hq
        have H1 := chB_trans H0 hq1
        have hP1 := rP_ch hq1 hlt hP0
        first | refine x_inc1N (lv' := [(2, _), (0, _), (1, _)]) dX0_goOnTillFallen_22 rfl (by decide) rfl ?_ | refine x_iinc (v := _ + 1) (lv' := [(2, _), (0, _), (1, _)]) dX0_goOnTillFallen_22 rfl rfl (by decide) rfl ?_
        refine x_goto (tgt := 2) dX0_goOnTillFallen_25 (by decide) ?_
        rw [tilU, if_pos hw]
        exact ih (i + 1) S1 _ (by omega) hP1 H1 (momF_heat hiP hh)

set_option maxHeartbeats 1000000 in
set_option maxRecDepth 20000 in
theorem c_goOnTillFallen {B : sB} {S : sSt} {c pl : Nat} {P : aP} {r : aR} {g : Nat} (hc : shB B c pl) (hp : shP B pl) (hP : rP S pl P) (hB : rB S c r) (hlt : pl + 4 ≤ c) (hiP : iP P) (hg : g < 9) (hh : 0 ≤ (r 1).toInt ∧ (r 1).toInt ≤ 30) : CS B yX0_goOnTillFallen cX0_goOnTillFallen 3 none 4 [.ref (s_ad B c), .int (nI g)] S (qB S c (tilU P 40 g r)) := by
  refine cs_intro (lv := [(0, .ref (s_ad B c)), (1, .int (nI g))]) rfl ?_
  refine x_iconst (v := 0) dX0_goOnTillFallen_0 (by decide) ?_
  refine x_istore_n (lv' := [(2, _), (0, _), (1, _)]) dX0_goOnTillFallen_1 rfl (by decide) rfl ?_
  exact l_goOnTillFallen hc hp hlt hiP hg 40 0 S r (by omega) hP (chB_rfl hB) hh

set_option maxHeartbeats 1000000 in
set_option maxRecDepth 20000 in
theorem c_isRightAfterRide {B : sB} {S : sSt} {c pl : Nat} {P : aP} {r : aR} {g : Nat} {x : Int32} (hc : shB B c pl) (hp : shP B pl) (hP : rP S pl P) (hB : rB S c r) (hlt : pl + 4 ≤ c) (hiP : iP P) (hg : g < P.1) (hh : 0 ≤ (r 1).toInt ∧ (r 1).toInt ≤ 30) : CS B yX0_isRightAfterRide cX0_isRightAfterRide 3 (some .boolean) 5 [.ref (s_ad B c), .int (nI g), .int x] S (qIB (bI (rgt P (rideF P r g x) g g = true)) S c (rideF P r g x)) := by
  refine cs_intro (lv := [(0, .ref (s_ad B c)), (1, .int (nI g)), (2, .int x)]) rfl ?_
  have hcs := hc.1
  have hg9 : g < 9 := by have := hP.1; omega
  refine x_aload_n dX0_isRightAfterRide_0 rfl rfl ?_
  refine x_iload_n dX0_isRightAfterRide_1 rfl rfl ?_
  refine x_iload_n dX0_isRightAfterRide_2 rfl rfl ?_
  refine kX0_96r dX0_isRightAfterRide_3 rfl (by assumption) (c_setAtStart hc hB hg9) (by decide) (Nat.le_of_ble_eq_true rfl) (fun S1 hq => ?_)
  obtain ⟨-, H1⟩ := hq
  have hP1 := rP_ch H1 hlt hP
  refine x_aload_n dX0_isRightAfterRide_6 rfl rfl ?_
  refine x_iload_n dX0_isRightAfterRide_7 rfl rfl ?_
  refine kX0_100r dX0_isRightAfterRide_8 rfl (by assumption) (c_goOnTillFallen hc hp hP1 H1.1 hlt hiP hg9 (by rw [putF_1]; exact hh)) (by decide) (Nat.le_of_ble_eq_true rfl) (fun S2 hq => ?_)
  obtain ⟨-, H2⟩ := hq
  have hP2 := rP_ch H2 hlt hP1
  refine x_aload_n dX0_isRightAfterRide_11 rfl rfl ?_
  refine x_iload_n dX0_isRightAfterRide_12 rfl rfl ?_
  refine x_iload_n dX0_isRightAfterRide_13 rfl rfl ?_
  refine kX0_103 dX0_isRightAfterRide_14 rfl (by assumption) (c_isRight hc hp hP2 H2.1 hg hg) (by decide) (Nat.le_of_ble_eq_true rfl) ?_
  refine x_ireturn dX0_isRightAfterRide_17 rfl (by first | rfl | exact bI_nar _) ?_
  exact ⟨rfl, chB_trans H1 H2⟩

theorem neg4_lt : (-4 : Int32) < 0 := by decide
theorem nI_ne4 {j : Nat} (h : j < 2 ^ 31) : ¬ nI j = -4 := by
  intro q
  have := congrArg Int32.toInt q
  rw [nI_toInt h] at this
  have e : (-4 : Int32).toInt = -4 := by decide
  omega

set_option maxHeartbeats 1000000 in
set_option maxRecDepth 20000 in
theorem l_contentBits {B : sB} {S : sSt} {c pl : Nat} {P : aP} {r : aR} (hc : shB B c pl) (hp : shP B pl) (hP : rP S pl P) (hB : rB S c r) (he : ∀ i, i < P.1 → r (39 + i) = -4 ∨ ∃ j, j < P.1 ∧ r (39 + i) = nI j) :
    ∀ (k i : Nat) (a : Int32), i + k = P.1 → WS B (fun _ => True) yX0_contentBits cX0_contentBits 4 (some .int) 3 4 [(2, .int (nI i)), (1, .int a), (0, .ref (s_ad B c))] [] S (qI (conU P r k i a) S) := by
  have hcc := hc
  have hpp := hp
  obtain ⟨hc0, hc1, hc2, hc3, hc4, hc5⟩ := hc
  obtain ⟨hp0, hp1, hp2, hp3⟩ := hp
  obtain ⟨hn9, hn, hlen, hmst, hPi⟩ := id hP
  intro k
  induction k with
  | zero =>
    intro i a hi
    refine x_iload_n dX0_contentBits_4 rfl rfl ?_
    refine x_aload_n dX0_contentBits_5 rfl rfl ?_
    refine gX0_27 dX0_contentBits_6 rfl (by assumption) rfl ?_
    refine gX0_51 dX0_contentBits_9 rfl (by assumption) rfl ?_
    refine x_icmp_ge (tgt := 47) dX0_contentBits_12 (by decide) (fun c_12 => ?_) (fun c_12 => ?_)
    · refine x_iload_n dX0_contentBits_47 rfl rfl ?_
      refine x_ireturn dX0_contentBits_48 rfl rfl ?_
      exact ⟨rfl, rfl⟩
    · exact absurd (by rw [hn, ← hi]; exact nI_le (by omega) (by omega)) c_12
  | succ k ih =>
    intro i a hi
    have hr := (hB.2.2.2 i (by omega)).2.2.2.2
    refine x_iload_n dX0_contentBits_4 rfl rfl ?_
    refine x_aload_n dX0_contentBits_5 rfl rfl ?_
    refine gX0_27 dX0_contentBits_6 rfl (by assumption) rfl ?_
    refine gX0_51 dX0_contentBits_9 rfl (by assumption) rfl ?_
    refine x_icmp_ge (tgt := 47) dX0_contentBits_12 (by decide) (fun c_12 => ?_) (fun c_12 => ?_)
    · exact absurd c_12 (by rw [hn]; exact nI_ge (by omega) (by omega))
    · refine x_aload_n dX0_contentBits_15 rfl rfl ?_
      refine gX0_24 dX0_contentBits_16 rfl (by assumption) rfl ?_
      refine x_iload_n dX0_contentBits_19 rfl rfl ?_
      first | refine x_ialdN (by assumption) dX0_contentBits_20 (by omega) (by decide) ?_ | refine x_iald (by assumption) dX0_contentBits_20 (by assumption) ?_
      refine x_istore_n (lv' := [(3, _), (2, _), (1, _), (0, _)]) dX0_contentBits_21 rfl (by decide) rfl ?_
      refine x_iload_n dX0_contentBits_22 rfl rfl ?_
      refine x_if_lt (tgt := 41) dX0_contentBits_23 (by decide) (fun c_23 => ?_) (fun c_23 => ?_)
      · have hr4 : r (39 + i) = -4 := by
          rcases he i (by omega) with h | ⟨j, hj, h⟩
          · exact h
          · rw [hr, h] at c_23
            exact absurd c_23 (nI_pos (by omega))
        first | refine x_inc1N (lv' := [(2, _), (3, _), (1, _), (0, _)]) dX0_contentBits_41 rfl (by decide) rfl ?_ | refine x_iinc (v := _ + 1) (lv' := [(2, _), (3, _), (1, _), (0, _)]) dX0_contentBits_41 rfl rfl (by decide) rfl ?_
        refine x_goto (tgt := 4) dX0_contentBits_44 (by decide) ?_
        refine x_wk [0, 2, 3] rfl ?_
        first
        | (rw [conU, if_pos hr4]; exact ih (i + 1) a (by omega))
        | (rw [conU, if_neg hr4, ← ej, nI_clamp (by omega), if_neg c_32]; exact ih (i + 1) a (by omega))
        | (rw [conU, if_neg hr4, ← ej, nI_clamp (by omega), if_pos c_32]; exact ih (i + 1) _ (by omega))
      · have hr4 : ¬ r (39 + i) = -4 := by
          intro h
          rw [hr, h] at c_23
          exact c_23 neg4_lt
        obtain ⟨j, hj, ej⟩ : ∃ j, j < P.1 ∧ nI j = r (39 + i) := by
          rcases he i (by omega) with h | ⟨j, hj, h⟩
          · exact absurd h hr4
          · exact ⟨j, hj, h.symm⟩
        rw [hr, ← ej]
        refine x_aload_n dX0_contentBits_26 rfl rfl ?_
        refine x_iload_n dX0_contentBits_27 rfl rfl ?_
        refine x_iload_n dX0_contentBits_28 rfl rfl ?_
        refine kX0_103 dX0_contentBits_29 rfl (by assumption) (c_isRight hcc hpp hP hB hj (by omega)) (by decide) (Nat.le_of_ble_eq_true rfl) ?_
        refine x_ifeq_b (tgt := 41) dX0_contentBits_32 (by decide) (fun c_32 => ?_) (fun c_32 => ?_)
        · first | refine x_inc1N (lv' := [(2, _), (3, _), (1, _), (0, _)]) dX0_contentBits_41 rfl (by decide) rfl ?_ | refine x_iinc (v := _ + 1) (lv' := [(2, _), (3, _), (1, _), (0, _)]) dX0_contentBits_41 rfl rfl (by decide) rfl ?_
          refine x_goto (tgt := 4) dX0_contentBits_44 (by decide) ?_
          refine x_wk [0, 2, 3] rfl ?_
          first
          | (rw [conU, if_pos hr4]; exact ih (i + 1) a (by omega))
          | (rw [conU, if_neg hr4, ← ej, nI_clamp (by omega), if_neg c_32]; exact ih (i + 1) a (by omega))
          | (rw [conU, if_neg hr4, ← ej, nI_clamp (by omega), if_pos c_32]; exact ih (i + 1) _ (by omega))
        · refine x_iload_n dX0_contentBits_35 rfl rfl ?_
          refine x_iconst (v := 1) dX0_contentBits_36 (by decide) ?_
          refine x_iload_n dX0_contentBits_37 rfl rfl ?_
          refine x_ishl dX0_contentBits_38 ?_
          refine x_ior dX0_contentBits_39 ?_
          refine x_istore_n (lv' := [(1, _), (3, _), (2, _), (0, _)]) dX0_contentBits_40 rfl (by decide) rfl ?_
          first | refine x_inc1N (lv' := [(2, _), (1, _), (3, _), (0, _)]) dX0_contentBits_41 rfl (by decide) rfl ?_ | refine x_iinc (v := _ + 1) (lv' := [(2, _), (1, _), (3, _), (0, _)]) dX0_contentBits_41 rfl rfl (by decide) rfl ?_
          refine x_goto (tgt := 4) dX0_contentBits_44 (by decide) ?_
          refine x_wk [0, 1, 3] rfl ?_
          first
          | (rw [conU, if_pos hr4]; exact ih (i + 1) a (by omega))
          | (rw [conU, if_neg hr4, ← ej, nI_clamp (by omega), if_neg c_32]; exact ih (i + 1) a (by omega))
          | (rw [conU, if_neg hr4, ← ej, nI_clamp (by omega), if_pos c_32]; exact ih (i + 1) _ (by omega))

set_option maxHeartbeats 1000000 in
set_option maxRecDepth 20000 in
theorem c_contentBits {B : sB} {S : sSt} {c pl : Nat} {P : aP} {r : aR} (hc : shB B c pl) (hp : shP B pl) (hP : rP S pl P) (hB : rB S c r) (he : ∀ i, i < P.1 → r (39 + i) = -4 ∨ ∃ j, j < P.1 ∧ r (39 + i) = nI j) : CS B yX0_contentBits cX0_contentBits 4 (some .int) 3 [.ref (s_ad B c)] S (qI (conU P r P.1 0 0) S) := by
  refine cs_intro (lv := [(0, .ref (s_ad B c))]) rfl ?_
  refine x_iconst (v := 0) dX0_contentBits_0 (by decide) ?_
  refine x_istore_n (lv' := [(1, _), (0, _)]) dX0_contentBits_1 rfl (by decide) rfl ?_
  refine x_iconst (v := 0) dX0_contentBits_2 (by decide) ?_
  refine x_istore_n (lv' := [(2, _), (1, _), (0, _)]) dX0_contentBits_3 rfl (by decide) rfl ?_
  exact l_contentBits hc hp hP hB he P.1 0 0 (by omega)

set_option maxHeartbeats 1000000 in
set_option maxRecDepth 20000 in
theorem l_eatLowestRight {B : sB} {S : sSt} {c pl : Nat} {P : aP} {r : aR} {g : Nat} (hc : shB B c pl) (hp : shP B pl) (hP : rP S pl P) (hB : rB S c r) (hg : g < P.1) :
    ∀ (k i : Nat), i + k = P.1 → WS B (fun _ => True) yX0_eatLowestRight cX0_eatLowestRight 3 none 4 2 [(2, .int (nI i)), (0, .ref (s_ad B c)), (1, .int (nI g))] [] S (qB S c (match fndU (fun s => canT P r g s && rgt P r g s) k i with | some s => eatF r g s | none => r)) := by
  have hcc := hc
  have hpp := hp
  obtain ⟨hc0, hc1, hc2, hc3, hc4, hc5⟩ := hc
  obtain ⟨hp0, hp1, hp2, hp3⟩ := hp
  obtain ⟨hn9, hn, hlen, hmst, hPi⟩ := id hP
  intro k
  induction k with
  | zero =>
    intro i hi
    refine x_iload_n dX0_eatLowestRight_2 rfl rfl ?_
    refine x_aload_n dX0_eatLowestRight_3 rfl rfl ?_
    refine gX0_27 dX0_eatLowestRight_4 rfl (by assumption) rfl ?_
    refine gX0_51 dX0_eatLowestRight_7 rfl (by assumption) rfl ?_
    refine x_icmp_ge (tgt := 44) dX0_eatLowestRight_10 (by decide) (fun c_10 => ?_) (fun c_10 => ?_)
    · refine x_return dX0_eatLowestRight_44 rfl ?_
      exact ⟨rfl, chB_rfl hB⟩
    · exact absurd (by rw [hn, ← hi]; exact nI_le (by omega) (by omega)) c_10
  | succ k ih =>
    intro i hi
    refine x_iload_n dX0_eatLowestRight_2 rfl rfl ?_
    refine x_aload_n dX0_eatLowestRight_3 rfl rfl ?_
    refine gX0_27 dX0_eatLowestRight_4 rfl (by assumption) rfl ?_
    refine gX0_51 dX0_eatLowestRight_7 rfl (by assumption) rfl ?_
    refine x_icmp_ge (tgt := 44) dX0_eatLowestRight_10 (by decide) (fun c_10 => ?_) (fun c_10 => ?_)
    · exact absurd c_10 (by rw [hn]; exact nI_ge (by omega) (by omega))
    · refine x_aload_n dX0_eatLowestRight_13 rfl rfl ?_
      refine x_iload_n dX0_eatLowestRight_14 rfl rfl ?_
      refine x_iload_n dX0_eatLowestRight_15 rfl rfl ?_
      refine kX0_114 dX0_eatLowestRight_16 rfl (by assumption) (c_mayEat hcc hpp hP hB hg (by omega)) (by decide) (Nat.le_of_ble_eq_true rfl) ?_
      refine x_ifeq_b (tgt := 38) dX0_eatLowestRight_19 (by decide) (fun c_19 => ?_) (fun c_19 => ?_)
      · first | refine x_inc1N (lv' := [(2, _), (0, _), (1, _)]) dX0_eatLowestRight_38 rfl (by decide) rfl ?_ | refine x_iinc (v := _ + 1) (lv' := [(2, _), (0, _), (1, _)]) dX0_eatLowestRight_38 rfl rfl (by decide) rfl ?_
        refine x_goto (tgt := 2) dX0_eatLowestRight_41 (by decide) ?_
        first
        | (rw [fndU, if_neg (by rw [Bool.and_eq_true]; exact fun z => c_19 z.1)]; exact ih (i + 1) (by omega))
        | (rw [fndU, if_neg (by rw [Bool.and_eq_true]; exact fun z => c_28 z.2)]; exact ih (i + 1) (by omega))
      · refine x_aload_n dX0_eatLowestRight_22 rfl rfl ?_
        refine x_iload_n dX0_eatLowestRight_23 rfl rfl ?_
        refine x_iload_n dX0_eatLowestRight_24 rfl rfl ?_
        refine kX0_103 dX0_eatLowestRight_25 rfl (by assumption) (c_isRight hcc hpp hP hB hg (by omega)) (by decide) (Nat.le_of_ble_eq_true rfl) ?_
        refine x_ifeq_b (tgt := 38) dX0_eatLowestRight_28 (by decide) (fun c_28 => ?_) (fun c_28 => ?_)
        · first | refine x_inc1N (lv' := [(2, _), (0, _), (1, _)]) dX0_eatLowestRight_38 rfl (by decide) rfl ?_ | refine x_iinc (v := _ + 1) (lv' := [(2, _), (0, _), (1, _)]) dX0_eatLowestRight_38 rfl rfl (by decide) rfl ?_
          refine x_goto (tgt := 2) dX0_eatLowestRight_41 (by decide) ?_
          first
          | (rw [fndU, if_neg (by rw [Bool.and_eq_true]; exact fun z => c_19 z.1)]; exact ih (i + 1) (by omega))
          | (rw [fndU, if_neg (by rw [Bool.and_eq_true]; exact fun z => c_28 z.2)]; exact ih (i + 1) (by omega))
        · refine x_aload_n dX0_eatLowestRight_31 rfl rfl ?_
          refine x_iload_n dX0_eatLowestRight_32 rfl rfl ?_
          refine x_iload_n dX0_eatLowestRight_33 rfl rfl ?_
          refine kX0_117r dX0_eatLowestRight_34 rfl (by assumption) (c_eat hcc hB (by omega)) (by decide) (Nat.le_of_ble_eq_true rfl) (fun S1 hq => ?_)
          refine x_return dX0_eatLowestRight_37 rfl ?_
          rw [fndU, if_pos (by rw [Bool.and_eq_true]; exact ⟨c_19, c_28⟩)]
          exact hq

set_option maxHeartbeats 1000000 in
set_option maxRecDepth 20000 in
theorem c_eatLowestRight {B : sB} {S : sSt} {c pl : Nat} {P : aP} {r : aR} {g : Nat} (hc : shB B c pl) (hp : shP B pl) (hP : rP S pl P) (hB : rB S c r) (hg : g < P.1) : CS B yX0_eatLowestRight cX0_eatLowestRight 3 none 4 [.ref (s_ad B c), .int (nI g)] S (qB S c (lowF P r g)) := by
  refine cs_intro (lv := [(0, .ref (s_ad B c)), (1, .int (nI g))]) rfl ?_
  refine x_iconst (v := 0) dX0_eatLowestRight_0 (by decide) ?_
  refine x_istore_n (lv' := [(2, _), (0, _), (1, _)]) dX0_eatLowestRight_1 rfl (by decide) rfl ?_
  exact l_eatLowestRight hc hp hP hB hg P.1 0 (by omega)

set_option maxHeartbeats 1000000 in
set_option maxRecDepth 20000 in
theorem c_actByDraw {B : sB} {S : sSt} {c pl : Nat} {P : aP} {r : aR} {dr : Nat} (hc : shB B c pl) (hp : shP B pl) (hP : rP S pl P) (hB : rB S c r) (hlt : pl + 4 ≤ c) (hn1 : 1 ≤ P.1) (hdr : dr < 2 ^ 31) : CS B yX0_actByDraw cX0_actByDraw 4 none 5 [.ref (s_ad B c), .int (nI dr)] S (qB S c (actF P r dr)) := by
  refine cs_intro (lv := [(0, .ref (s_ad B c)), (1, .int (nI dr))]) rfl ?_
  have hcc := hc
  have hpp := hp
  obtain ⟨hc0, hc1, hc2, hc3, hc4, hc5⟩ := hc
  obtain ⟨hp0, hp1, hp2, hp3⟩ := hp
  obtain ⟨hn9, hn, hlen, hmst, hPi⟩ := id hP
  have hmod : dr % P.1 < P.1 := Nat.mod_lt _ (by omega)
  have hr := (hB.2.2.2 (dr % P.1) (by omega)).1
  refine x_aload_n dX0_actByDraw_0 rfl rfl ?_
  refine gX0_27 dX0_actByDraw_1 rfl (by assumption) rfl ?_
  refine gX0_51 dX0_actByDraw_4 rfl (by assumption) rfl ?_
  refine x_iconst (v := 1) dX0_actByDraw_7 (by decide) ?_
  refine x_icmp_ge (tgt := 12) dX0_actByDraw_8 (by decide) (fun c_8 => ?_) (fun c_8 => ?_)
  · clear c_8
    refine x_iload_n dX0_actByDraw_12 rfl rfl ?_
    refine x_aload_n dX0_actByDraw_13 rfl rfl ?_
    refine gX0_27 dX0_actByDraw_14 rfl (by assumption) rfl ?_
    refine gX0_51 dX0_actByDraw_17 rfl (by assumption) rfl ?_
    refine x_irem dX0_actByDraw_20 (by rw [hn]; exact nI_ne0 (by omega) (by omega)) ?_
    refine x_re (b := nI (dr % P.1)) (by rw [hn]; exact pk_rem hdr (by omega) (by omega)) ?_
    refine x_istore_n (lv' := [(2, _), (0, _), (1, _)]) dX0_actByDraw_21 rfl (by decide) rfl ?_
    refine x_iload_n dX0_actByDraw_22 rfl rfl ?_
    refine x_bipush (v := 16) dX0_actByDraw_23 (by decide) ?_
    refine x_idiv dX0_actByDraw_25 (by decide) ?_
    refine x_re (b := nI (dr / 16)) (pk_div (d := 16) hdr (by decide) (by decide)) ?_
    refine x_iconst (v := 2) dX0_actByDraw_26 (by decide) ?_
    refine x_irem dX0_actByDraw_27 (by decide) ?_
    refine x_re (b := nI (dr / 16 % 2)) (pk_rem (d := 2) (by omega) (by decide) (by decide)) ?_
    refine x_istore_n (lv' := [(3, _), (2, _), (0, _), (1, _)]) dX0_actByDraw_28 rfl (by decide) rfl ?_
    refine x_aload_n dX0_actByDraw_29 rfl rfl ?_
    refine gX0_9 dX0_actByDraw_30 rfl (by assumption) rfl ?_
    refine x_iload_n dX0_actByDraw_33 rfl rfl ?_
    first | refine x_ialdN (by assumption) dX0_actByDraw_34 (by omega) (by decide) ?_ | refine x_iald (by assumption) dX0_actByDraw_34 (by assumption) ?_
    refine x_if_ne (tgt := 52) dX0_actByDraw_35 (by decide) (fun c_35 => ?_) (fun c_35 => ?_)
    · refine x_gen (Pz := fun S' => chB S S' c (if (r (3 + dr % P.1) == 0 && freeL P r (nI (dr / 16 % 2))) = true then putF r (dr % P.1) (nI (dr / 16 % 2)) else r)) (by
        first
        | (rw [if_neg (by rw [Bool.and_eq_true, beq_iff_eq, ← hr]; exact fun z => c_35 z.1)]; exact chB_rfl hB)
        | (rw [if_neg (by rw [Bool.and_eq_true, beq_iff_eq, ← hr]; exact fun z => c_43 z.2)]; exact chB_rfl hB)
        | (rw [if_pos (by rw [Bool.and_eq_true, beq_iff_eq, ← hr]; exact ⟨c_35, c_43⟩)]; exact H1)) (fun SZ HZ => ?_)
      have hPz := rP_ch HZ hlt hP
      refine x_aload_n dX0_actByDraw_52 rfl rfl ?_
      refine x_iload_n dX0_actByDraw_53 rfl rfl ?_
      refine kX0_111r dX0_actByDraw_54 rfl (by assumption) (c_eatLowestRight hcc hpp hPz HZ.1 hmod) (by decide) (Nat.le_of_ble_eq_true rfl) (fun S2 hq2 => ?_)
      refine x_return dX0_actByDraw_57 rfl ?_
      exact ⟨rfl, chB_trans HZ hq2.2⟩
    · refine x_aload_n dX0_actByDraw_38 rfl rfl ?_
      refine x_iload_n dX0_actByDraw_39 rfl rfl ?_
      refine kX0_107 dX0_actByDraw_40 rfl (by assumption) (c_isFreeAtStart hcc hpp hP hB) (by decide) (Nat.le_of_ble_eq_true rfl) ?_
      refine x_ifeq_b (tgt := 52) dX0_actByDraw_43 (by decide) (fun c_43 => ?_) (fun c_43 => ?_)
      · refine x_gen (Pz := fun S' => chB S S' c (if (r (3 + dr % P.1) == 0 && freeL P r (nI (dr / 16 % 2))) = true then putF r (dr % P.1) (nI (dr / 16 % 2)) else r)) (by
          first
          | (rw [if_neg (by rw [Bool.and_eq_true, beq_iff_eq, ← hr]; exact fun z => c_35 z.1)]; exact chB_rfl hB)
          | (rw [if_neg (by rw [Bool.and_eq_true, beq_iff_eq, ← hr]; exact fun z => c_43 z.2)]; exact chB_rfl hB)
          | (rw [if_pos (by rw [Bool.and_eq_true, beq_iff_eq, ← hr]; exact ⟨c_35, c_43⟩)]; exact H1)) (fun SZ HZ => ?_)
        have hPz := rP_ch HZ hlt hP
        refine x_aload_n dX0_actByDraw_52 rfl rfl ?_
        refine x_iload_n dX0_actByDraw_53 rfl rfl ?_
        refine kX0_111r dX0_actByDraw_54 rfl (by assumption) (c_eatLowestRight hcc hpp hPz HZ.1 hmod) (by decide) (Nat.le_of_ble_eq_true rfl) (fun S2 hq2 => ?_)
        refine x_return dX0_actByDraw_57 rfl ?_
        exact ⟨rfl, chB_trans HZ hq2.2⟩
      · refine x_aload_n dX0_actByDraw_46 rfl rfl ?_
        refine x_iload_n dX0_actByDraw_47 rfl rfl ?_
        refine x_iload_n dX0_actByDraw_48 rfl rfl ?_
        refine kX0_96r dX0_actByDraw_49 rfl (by assumption) (c_setAtStart hcc hB (by omega)) (by decide) (Nat.le_of_ble_eq_true rfl) (fun S1 hq => ?_)
        obtain ⟨-, H1⟩ := hq
        have hP1 := rP_ch H1 hlt hP
        refine x_gen (Pz := fun S' => chB S S' c (if (r (3 + dr % P.1) == 0 && freeL P r (nI (dr / 16 % 2))) = true then putF r (dr % P.1) (nI (dr / 16 % 2)) else r)) (by
          first
          | (rw [if_neg (by rw [Bool.and_eq_true, beq_iff_eq, ← hr]; exact fun z => c_35 z.1)]; exact chB_rfl hB)
          | (rw [if_neg (by rw [Bool.and_eq_true, beq_iff_eq, ← hr]; exact fun z => c_43 z.2)]; exact chB_rfl hB)
          | (rw [if_pos (by rw [Bool.and_eq_true, beq_iff_eq, ← hr]; exact ⟨c_35, c_43⟩)]; exact H1)) (fun SZ HZ => ?_)
        have hPz := rP_ch HZ hlt hP
        refine x_aload_n dX0_actByDraw_52 rfl rfl ?_
        refine x_iload_n dX0_actByDraw_53 rfl rfl ?_
        refine kX0_111r dX0_actByDraw_54 rfl (by assumption) (c_eatLowestRight hcc hpp hPz HZ.1 hmod) (by decide) (Nat.le_of_ble_eq_true rfl) (fun S2 hq2 => ?_)
        refine x_return dX0_actByDraw_57 rfl ?_
        exact ⟨rfl, chB_trans HZ hq2.2⟩
  · exact absurd (by rw [hn]; exact nI_le (a := 1) (by omega) (by omega)) c_8

def bgnF (kn ht : Int32) : aR := fun k => if k = 0 then kn else if k = 1 then ht else if k < 39 then 0 else -4

set_option maxHeartbeats 1000000 in
set_option maxRecDepth 20000 in
theorem l_begin {B : sB} {S : sSt} {c pl : Nat} {kn ht : Int32} (hc : shB B c pl) :
    ∀ (k i : Nat) (S0 : sSt), i + k = 9 → (S0 c 1 = kn ∧ S0 c 2 = ht ∧ S0 c 3 = 0 ∧ ∀ j, j < i → S0 (c + 1) j = 0 ∧ S0 (c + 2) j = 0 ∧ S0 (c + 3) j = 0 ∧ S0 (c + 4) j = 0 ∧ S0 (c + 5) j = -4) → (∀ a, (a < c ∨ c + 6 ≤ a) → S0 a = S a) → WS B (fun _ => True) yX0_begin cX0_begin 2 none 1 29 [(1, .int (nI i)), (0, .ref (s_ad B c))] [] S0 (qB S c (bgnF kn ht)) := by
  obtain ⟨hc0, hc1, hc2, hc3, hc4, hc5⟩ := hc
  intro k
  induction k with
  | zero =>
    intro i S0 hi h1 h2
    refine x_iload_n dX0_begin_29 rfl rfl ?_
    refine x_bipush (v := 9) dX0_begin_30 (by decide) ?_
    refine x_icmp_ge (tgt := 77) dX0_begin_32 (by decide) (fun c_32 => ?_) (fun c_32 => ?_)
    · refine x_return dX0_begin_77 rfl ?_
      refine ⟨rfl, ⟨h1.1, h1.2.1, h1.2.2.1, fun j hj => ?_⟩, h2⟩
      have h3 := h1.2.2.2 j (by omega)
      refine ⟨h3.1.trans ?_, h3.2.1.trans ?_, h3.2.2.1.trans ?_, h3.2.2.2.1.trans ?_, h3.2.2.2.2.trans ?_⟩
      all_goals unfold bgnF
      · rw [if_neg (by omega), if_neg (by omega), if_pos (by omega)]
      · rw [if_neg (by omega), if_neg (by omega), if_pos (by omega)]
      · rw [if_neg (by omega), if_neg (by omega), if_pos (by omega)]
      · rw [if_neg (by omega), if_neg (by omega), if_pos (by omega)]
      · rw [if_neg (by omega), if_neg (by omega), if_neg (by omega)]
    · exact absurd (by rw [show i = 9 by omega]; decide) c_32
  | succ k ih =>
    intro i S0 hi h1 h2
    refine x_iload_n dX0_begin_29 rfl rfl ?_
    refine x_bipush (v := 9) dX0_begin_30 (by decide) ?_
    refine x_icmp_ge (tgt := 77) dX0_begin_32 (by decide) (fun c_32 => ?_) (fun c_32 => ?_)
    · exact absurd c_32 (by exact nI_ge (b := 9) (by omega) (by decide))
    · refine x_aload_n dX0_begin_35 rfl rfl ?_
      refine gX0_9 dX0_begin_36 rfl (by assumption) rfl ?_
      refine x_iload_n dX0_begin_39 rfl rfl ?_
      refine x_iconst (v := 0) dX0_begin_40 (by decide) ?_
      first | refine x_iastN (by assumption) dX0_begin_41 (by omega) (by decide) ?_ | refine x_iast (by assumption) dX0_begin_41 (by assumption) ?_
      refine x_aload_n dX0_begin_42 rfl rfl ?_
      refine gX0_15 dX0_begin_43 rfl (by assumption) rfl ?_
      refine x_iload_n dX0_begin_46 rfl rfl ?_
      refine x_iconst (v := 0) dX0_begin_47 (by decide) ?_
      first | refine x_iastN (by assumption) dX0_begin_48 (by omega) (by decide) ?_ | refine x_iast (by assumption) dX0_begin_48 (by assumption) ?_
      refine x_aload_n dX0_begin_49 rfl rfl ?_
      refine gX0_18 dX0_begin_50 rfl (by assumption) rfl ?_
      refine x_iload_n dX0_begin_53 rfl rfl ?_
      refine x_iconst (v := 0) dX0_begin_54 (by decide) ?_
      first | refine x_iastN (by assumption) dX0_begin_55 (by omega) (by decide) ?_ | refine x_iast (by assumption) dX0_begin_55 (by assumption) ?_
      refine x_aload_n dX0_begin_56 rfl rfl ?_
      refine gX0_21 dX0_begin_57 rfl (by assumption) rfl ?_
      refine x_iload_n dX0_begin_60 rfl rfl ?_
      refine x_iconst (v := 0) dX0_begin_61 (by decide) ?_
      first | refine x_iastN (by assumption) dX0_begin_62 (by omega) (by decide) ?_ | refine x_iast (by assumption) dX0_begin_62 (by assumption) ?_
      refine x_aload_n dX0_begin_63 rfl rfl ?_
      refine gX0_24 dX0_begin_64 rfl (by assumption) rfl ?_
      refine x_iload_n dX0_begin_67 rfl rfl ?_
      refine x_bipush (v := (-4)) dX0_begin_68 (by decide) ?_
      first | refine x_iastN (by assumption) dX0_begin_70 (by omega) (by decide) ?_ | refine x_iast (by assumption) dX0_begin_70 (by assumption) ?_
      first | refine x_inc1N (lv' := [(1, _), (0, _)]) dX0_begin_71 rfl (by decide) rfl ?_ | refine x_iinc (v := _ + 1) (lv' := [(1, _), (0, _)]) dX0_begin_71 rfl rfl (by decide) rfl ?_
      refine x_goto (tgt := 29) dX0_begin_74 (by decide) ?_
      refine ih (i + 1) _ (by omega) ?_ ?_
      · refine ⟨?_, ?_, ?_, fun j hj => ?_⟩
        · rw [s_put_ne (by omega), s_put_ne (by omega), s_put_ne (by omega), s_put_ne (by omega), s_put_ne (by omega)]; exact h1.1
        · rw [s_put_ne (by omega), s_put_ne (by omega), s_put_ne (by omega), s_put_ne (by omega), s_put_ne (by omega)]; exact h1.2.1
        · rw [s_put_ne (by omega), s_put_ne (by omega), s_put_ne (by omega), s_put_ne (by omega), s_put_ne (by omega)]; exact h1.2.2.1
        · by_cases hj2 : j = i
          · subst hj2
            simp [s_put]
          · have h3 := h1.2.2.2 j (by omega)
            simp [s_put, hj2, h3]
      · intro a ha
        rw [s_put_ne (by omega), s_put_ne (by omega), s_put_ne (by omega), s_put_ne (by omega), s_put_ne (by omega)]; exact h2 a ha

set_option maxHeartbeats 1000000 in
set_option maxRecDepth 20000 in
theorem c_begin {B : sB} {S : sSt} {c pl : Nat} (hc : shB B c pl) (hp : shP B pl) (hlt : pl + 4 ≤ c) : CS B yX0_begin cX0_begin 2 none 1 [.ref (s_ad B c)] S (qB S c (bgnF (S pl 1) (S pl 2))) := by
  refine cs_intro (lv := [(0, .ref (s_ad B c))]) rfl ?_
  have hcc := hc
  obtain ⟨hc0, hc1, hc2, hc3, hc4, hc5⟩ := hc
  obtain ⟨hp0, hp1, hp2, hp3⟩ := hp
  refine x_aload_n dX0_begin_0 rfl rfl ?_
  refine x_aload_n dX0_begin_1 rfl rfl ?_
  refine gX0_27 dX0_begin_2 rfl (by assumption) rfl ?_
  refine gX0_31 dX0_begin_5 rfl (by assumption) rfl ?_
  refine pX0_37 dX0_begin_8 rfl (by assumption) rfl ?_
  refine x_aload_n dX0_begin_11 rfl rfl ?_
  refine x_aload_n dX0_begin_12 rfl rfl ?_
  refine gX0_27 dX0_begin_13 rfl (by assumption) rfl ?_
  refine gX0_38 dX0_begin_16 rfl (by assumption) rfl ?_
  refine pX0_41 dX0_begin_19 rfl (by assumption) rfl ?_
  refine x_aload_n dX0_begin_22 rfl rfl ?_
  refine x_iconst (v := 0) dX0_begin_23 (by decide) ?_
  refine pX0_42 dX0_begin_24 rfl (by assumption) rfl ?_
  refine x_iconst (v := 0) dX0_begin_27 (by decide) ?_
  refine x_istore_n (lv' := [(1, _), (0, _)]) dX0_begin_28 rfl (by decide) rfl ?_
  refine l_begin hcc 9 0 _ (by omega) ⟨?_, ?_, ?_, fun j hj => absurd hj (Nat.not_lt_zero j)⟩ ?_
  · simp [s_put]
  · rw [s_put_eq, if_neg (by decide), s_put_eq, if_pos rfl, s_put_ne (by omega)]
  · simp [s_put]
  · intro a ha
    rw [s_put_ne (by omega), s_put_ne (by omega), s_put_ne (by omega)]

set_option maxHeartbeats 1000000 in
set_option maxRecDepth 20000 in
theorem c_copyFrom {B : sB} {S : sSt} {c c2 pl pl2 : Nat} {r : aR} (hc : shB B c pl) (hd : shB B c2 pl2) (hB : rB S c2 r) (hdj : c2 + 6 ≤ c ∨ c + 6 ≤ c2) : CS B yX0_copyFrom cX0_copyFrom 2 none 1 [.ref (s_ad B c), .ref (s_ad B c2)] S (qB S c r) := by
  refine cs_intro (lv := [(0, .ref (s_ad B c)), (1, .ref (s_ad B c2))]) rfl ?_
  obtain ⟨hc0, hc1, hc2, hc3, hc4, hc5⟩ := hc
  obtain ⟨hd0, hd1, hd2, hd3, hd4, hd5⟩ := hd
  have n00 : ¬ c2 = c := by omega
  have n01 : ¬ c2 = c + 1 := by omega
  have n02 : ¬ c2 = c + 2 := by omega
  have n03 : ¬ c2 = c + 3 := by omega
  have n04 : ¬ c2 = c + 4 := by omega
  have n05 : ¬ c2 = c + 5 := by omega
  have n10 : ¬ c2 + 1 = c := by omega
  have n11 : ¬ c2 + 1 = c + 1 := by omega
  have n12 : ¬ c2 + 1 = c + 2 := by omega
  have n13 : ¬ c2 + 1 = c + 3 := by omega
  have n14 : ¬ c2 + 1 = c + 4 := by omega
  have n15 : ¬ c2 + 1 = c + 5 := by omega
  have n20 : ¬ c2 + 2 = c := by omega
  have n21 : ¬ c2 + 2 = c + 1 := by omega
  have n22 : ¬ c2 + 2 = c + 2 := by omega
  have n23 : ¬ c2 + 2 = c + 3 := by omega
  have n24 : ¬ c2 + 2 = c + 4 := by omega
  have n25 : ¬ c2 + 2 = c + 5 := by omega
  have n30 : ¬ c2 + 3 = c := by omega
  have n31 : ¬ c2 + 3 = c + 1 := by omega
  have n32 : ¬ c2 + 3 = c + 2 := by omega
  have n33 : ¬ c2 + 3 = c + 3 := by omega
  have n34 : ¬ c2 + 3 = c + 4 := by omega
  have n35 : ¬ c2 + 3 = c + 5 := by omega
  have n40 : ¬ c2 + 4 = c := by omega
  have n41 : ¬ c2 + 4 = c + 1 := by omega
  have n42 : ¬ c2 + 4 = c + 2 := by omega
  have n43 : ¬ c2 + 4 = c + 3 := by omega
  have n44 : ¬ c2 + 4 = c + 4 := by omega
  have n45 : ¬ c2 + 4 = c + 5 := by omega
  have n50 : ¬ c2 + 5 = c := by omega
  have n51 : ¬ c2 + 5 = c + 1 := by omega
  have n52 : ¬ c2 + 5 = c + 2 := by omega
  have n53 : ¬ c2 + 5 = c + 3 := by omega
  have n54 : ¬ c2 + 5 = c + 4 := by omega
  have n55 : ¬ c2 + 5 = c + 5 := by omega
  obtain ⟨b1, b2, b3, b4⟩ := hB
  have e9 : (9 : Int32).toNatClampNeg = 9 := by decide
  refine x_aload_n dX0_copyFrom_0 rfl rfl ?_
  refine x_aload_n dX0_copyFrom_1 rfl rfl ?_
  refine gX0_37 dX0_copyFrom_2 rfl (by assumption) rfl ?_
  refine pX0_37 dX0_copyFrom_5 rfl (by assumption) rfl ?_
  refine x_aload_n dX0_copyFrom_8 rfl rfl ?_
  refine x_aload_n dX0_copyFrom_9 rfl rfl ?_
  refine gX0_41 dX0_copyFrom_10 rfl (by assumption) rfl ?_
  refine pX0_41 dX0_copyFrom_13 rfl (by assumption) rfl ?_
  refine x_aload_n dX0_copyFrom_16 rfl rfl ?_
  refine x_aload_n dX0_copyFrom_17 rfl rfl ?_
  refine gX0_42 dX0_copyFrom_18 rfl (by assumption) rfl ?_
  refine pX0_42 dX0_copyFrom_21 rfl (by assumption) rfl ?_
  refine x_aload_n dX0_copyFrom_24 rfl rfl ?_
  refine gX0_9 dX0_copyFrom_25 rfl (by assumption) rfl ?_
  refine x_iconst (v := 0) dX0_copyFrom_28 (by decide) ?_
  refine x_aload_n dX0_copyFrom_29 rfl rfl ?_
  refine gX0_9 dX0_copyFrom_30 rfl (by assumption) rfl ?_
  refine x_iconst (v := 0) dX0_copyFrom_33 (by decide) ?_
  refine x_bipush (v := 9) dX0_copyFrom_34 (by decide) ?_
  refine kX0_45 dX0_copyFrom_36 rfl (by assumption) (by assumption) (by decide) (by decide) (by decide) (by decide) ?_
  refine x_aload_n dX0_copyFrom_39 rfl rfl ?_
  refine gX0_15 dX0_copyFrom_40 rfl (by assumption) rfl ?_
  refine x_iconst (v := 0) dX0_copyFrom_43 (by decide) ?_
  refine x_aload_n dX0_copyFrom_44 rfl rfl ?_
  refine gX0_15 dX0_copyFrom_45 rfl (by assumption) rfl ?_
  refine x_iconst (v := 0) dX0_copyFrom_48 (by decide) ?_
  refine x_bipush (v := 9) dX0_copyFrom_49 (by decide) ?_
  refine kX0_45 dX0_copyFrom_51 rfl (by assumption) (by assumption) (by decide) (by decide) (by decide) (by decide) ?_
  refine x_aload_n dX0_copyFrom_54 rfl rfl ?_
  refine gX0_18 dX0_copyFrom_55 rfl (by assumption) rfl ?_
  refine x_iconst (v := 0) dX0_copyFrom_58 (by decide) ?_
  refine x_aload_n dX0_copyFrom_59 rfl rfl ?_
  refine gX0_18 dX0_copyFrom_60 rfl (by assumption) rfl ?_
  refine x_iconst (v := 0) dX0_copyFrom_63 (by decide) ?_
  refine x_bipush (v := 9) dX0_copyFrom_64 (by decide) ?_
  refine kX0_45 dX0_copyFrom_66 rfl (by assumption) (by assumption) (by decide) (by decide) (by decide) (by decide) ?_
  refine x_aload_n dX0_copyFrom_69 rfl rfl ?_
  refine gX0_21 dX0_copyFrom_70 rfl (by assumption) rfl ?_
  refine x_iconst (v := 0) dX0_copyFrom_73 (by decide) ?_
  refine x_aload_n dX0_copyFrom_74 rfl rfl ?_
  refine gX0_21 dX0_copyFrom_75 rfl (by assumption) rfl ?_
  refine x_iconst (v := 0) dX0_copyFrom_78 (by decide) ?_
  refine x_bipush (v := 9) dX0_copyFrom_79 (by decide) ?_
  refine kX0_45 dX0_copyFrom_81 rfl (by assumption) (by assumption) (by decide) (by decide) (by decide) (by decide) ?_
  refine x_aload_n dX0_copyFrom_84 rfl rfl ?_
  refine gX0_24 dX0_copyFrom_85 rfl (by assumption) rfl ?_
  refine x_iconst (v := 0) dX0_copyFrom_88 (by decide) ?_
  refine x_aload_n dX0_copyFrom_89 rfl rfl ?_
  refine gX0_24 dX0_copyFrom_90 rfl (by assumption) rfl ?_
  refine x_iconst (v := 0) dX0_copyFrom_93 (by decide) ?_
  refine x_bipush (v := 9) dX0_copyFrom_94 (by decide) ?_
  refine kX0_45 dX0_copyFrom_96 rfl (by assumption) (by assumption) (by decide) (by decide) (by decide) (by decide) ?_
  refine x_return dX0_copyFrom_99 rfl ?_
  refine ⟨rfl, ⟨?_, ?_, ?_, fun j hj => ?_⟩, fun a ha => ?_⟩
  · simp [s_cp, s_put, b1, n00, n01, n02, n03, n04, n05, n10, n11, n12, n13, n14, n15, n20, n21, n22, n23, n24, n25, n30, n31, n32, n33, n34, n35, n40, n41, n42, n43, n44, n45, n50, n51, n52, n53, n54, n55]
  · simp [s_cp, s_put, b2, n00, n01, n02, n03, n04, n05, n10, n11, n12, n13, n14, n15, n20, n21, n22, n23, n24, n25, n30, n31, n32, n33, n34, n35, n40, n41, n42, n43, n44, n45, n50, n51, n52, n53, n54, n55]
  · simp [s_cp, s_put, b3, n00, n01, n02, n03, n04, n05, n10, n11, n12, n13, n14, n15, n20, n21, n22, n23, n24, n25, n30, n31, n32, n33, n34, n35, n40, n41, n42, n43, n44, n45, n50, n51, n52, n53, n54, n55]
  · have h4 := b4 j hj
    simp [s_cp, s_put, e9, va_cpy, hj, h4, n00, n01, n02, n03, n04, n05, n10, n11, n12, n13, n14, n15, n20, n21, n22, n23, n24, n25, n30, n31, n32, n33, n34, n35, n40, n41, n42, n43, n44, n45, n50, n51, n52, n53, n54, n55]
  · rw [s_cp_o _ _ _ _ (by omega), s_cp_o _ _ _ _ (by omega), s_cp_o _ _ _ _ (by omega), s_cp_o _ _ _ _ (by omega), s_cp_o _ _ _ _ (by omega), s_put_ne (by omega), s_put_ne (by omega), s_put_ne (by omega)]
