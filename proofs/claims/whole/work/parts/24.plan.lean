set_option maxHeartbeats 1000000 in
set_option maxRecDepth 20000 in
theorem c_isLane {B : sB} {S : sSt} {x : Int32} : CS B yX6_isLane cX6_isLane 1 (some .boolean) 2 [.int x] S (qI (bI (0 ≤ x ∧ x ≤ 1)) S) := by
  refine cs_intro (lv := [(0, .int x)]) rfl ?_
  refine x_iload_n dX6_isLane_0 rfl rfl ?_
  refine x_iconst (v := 0) dX6_isLane_1 (by decide) ?_
  refine x_iconst (v := 1) dX6_isLane_2 (by decide) ?_
  refine kX6_92 dX6_isLane_3 rfl (c_within) (by decide) (Nat.le_of_ble_eq_true rfl) ?_
  refine x_ireturn dX6_isLane_6 rfl (by first | rfl | exact bI_nar _) ?_
  exact ⟨rfl, rfl⟩

set_option maxHeartbeats 1000000 in
set_option maxRecDepth 20000 in
theorem c_isKnob {B : sB} {S : sSt} {x : Int32} : CS B yX6_isKnob cX6_isKnob 1 (some .boolean) 2 [.int x] S (qI (bI (1 ≤ x ∧ x ≤ 9)) S) := by
  refine cs_intro (lv := [(0, .int x)]) rfl ?_
  refine x_iload_n dX6_isKnob_0 rfl rfl ?_
  refine x_iconst (v := 1) dX6_isKnob_1 (by decide) ?_
  refine x_bipush (v := 9) dX6_isKnob_2 (by decide) ?_
  refine kX6_92 dX6_isKnob_4 rfl (c_within) (by decide) (Nat.le_of_ble_eq_true rfl) ?_
  refine x_ireturn dX6_isKnob_7 rfl (by first | rfl | exact bI_nar _) ?_
  exact ⟨rfl, rfl⟩

set_option maxHeartbeats 1000000 in
set_option maxRecDepth 20000 in
theorem c_Pbegin {B : sB} {S : sSt} {pl : Nat} (hp : shP B pl) : CS B yX2_begin cX2_begin 1 none 1 [.ref (s_ad B pl)] S (fun v S1 => v = none ∧ rD S1 pl d0 ∧ frD S S1 pl) := by
  refine cs_intro (lv := [(0, .ref (s_ad B pl))]) rfl ?_
  obtain ⟨hp0, hp1, hp2, hp3⟩ := hp
  refine x_aload_n dX2_begin_0 rfl rfl ?_
  refine x_bipush (v := 18) dX2_begin_1 (by decide) ?_
  refine pX2_21 dX2_begin_3 rfl (by assumption) rfl ?_
  refine x_aload_n dX2_begin_6 rfl rfl ?_
  refine x_iconst (v := 3) dX2_begin_7 (by decide) ?_
  refine pX2_25 dX2_begin_8 rfl (by assumption) rfl ?_
  refine x_aload_n dX2_begin_11 rfl rfl ?_
  refine x_bipush (v := 8) dX2_begin_12 (by decide) ?_
  refine pX2_28 dX2_begin_14 rfl (by assumption) rfl ?_
  refine x_aload_n dX2_begin_17 rfl rfl ?_
  refine x_bipush (v := 12) dX2_begin_18 (by decide) ?_
  refine pX2_31 dX2_begin_20 rfl (by assumption) rfl ?_
  refine x_aload_n dX2_begin_23 rfl rfl ?_
  refine x_iconst (v := 0) dX2_begin_24 (by decide) ?_
  refine pX2_34 dX2_begin_25 rfl (by assumption) rfl ?_
  refine x_return dX2_begin_28 rfl ?_
  refine ⟨rfl, ⟨by decide, ?_, ?_, ?_, ?_, ?_, fun i hi => absurd hi (Nat.not_lt_zero i)⟩, fun a ha => ?_⟩
  · simp [s_put, d0]; decide
  · simp [s_put, d0]
  · simp [s_put, d0]
  · simp [s_put, d0]
  · simp [s_put, d0]
  · rw [s_put_ne (by omega), s_put_ne (by omega), s_put_ne (by omega), s_put_ne (by omega), s_put_ne (by omega)]

set_option maxHeartbeats 1000000 in
set_option maxRecDepth 20000 in
theorem c_setPlaces {B : sB} {S : sSt} {pl : Nat} {d : aD} {vs : Nat → Nat} (hp : shP B pl) (hd : rD S pl d) (hv : vs 0 ≤ 99) : CS B yX2_setPlaces cX2_setPlaces 2 (some .boolean) 2 [.ref (s_ad B pl), .int (nI (vs 0))] S (fun v S1 => v = some (.int (bI ((telF 108 vs d).isSome = true))) ∧ frD S S1 pl ∧ ∀ d1, telF 108 vs d = some d1 → rD S1 pl d1) := by
  refine cs_intro (lv := [(0, .ref (s_ad B pl)), (1, .int (nI (vs 0)))]) rfl ?_
  obtain ⟨hp0, hp1, hp2, hp3⟩ := hp
  refine x_aload_n dX2_setPlaces_0 rfl rfl ?_
  refine x_iload_n dX2_setPlaces_1 rfl rfl ?_
  refine pX2_21 dX2_setPlaces_2 rfl (by assumption) rfl ?_
  refine x_iload_n dX2_setPlaces_5 rfl rfl ?_
  refine x_iconst (v := 2) dX2_setPlaces_6 (by decide) ?_
  refine x_bipush (v := 40) dX2_setPlaces_7 (by decide) ?_
  refine kX2_43 dX2_setPlaces_9 rfl (c_within) (by decide) (Nat.le_of_ble_eq_true rfl) ?_
  refine x_ireturn dX2_setPlaces_12 rfl (by first | rfl | exact bI_nar _) ?_
  have hw := nI_within (a := vs 0) (lo := 2) (hi := 40) (by omega) (by decide) (by decide)
  have e : telF 108 vs d = if 2 ≤ vs 0 ∧ vs 0 ≤ 40 then some (d.1, nI (vs 0), d.2.2) else none := rfl
  refine ⟨?_, fun a ha => by rw [s_put_ne (by omega)], fun d1 hd1 => ?_⟩
  · rw [e, show bI ((2 : Int32) ≤ nI (vs 0) ∧ nI (vs 0) ≤ 40) = bI (2 ≤ vs 0 ∧ vs 0 ≤ 40) from bI_congr hw]
    by_cases h : 2 ≤ vs 0 ∧ vs 0 ≤ 40 <;> simp [h, bI]
  · rw [e] at hd1
    split at hd1
    · cases hd1
      obtain ⟨g1, g2, g3, g4, g5, g6, g7⟩ := hd
      refine ⟨g1, ?_, ?_, ?_, ?_, ?_, fun i hi => ?_⟩
      · rw [s_put_eq, if_neg (by decide)]; exact g2
      · rw [s_put_eq, if_pos rfl]
      · rw [s_put_eq, if_neg (by decide)]; exact g4
      · rw [s_put_eq, if_neg (by decide)]; exact g5
      · rw [s_put_eq, if_neg (by decide)]; exact g6
      · rw [s_put_ne (by omega), s_put_ne (by omega), s_put_ne (by omega)]; exact g7 i hi
    · cases hd1

set_option maxHeartbeats 1000000 in
set_option maxRecDepth 20000 in
theorem c_setKnob {B : sB} {S : sSt} {pl : Nat} {d : aD} {vs : Nat → Nat} (hp : shP B pl) (hd : rD S pl d) (hv : vs 0 ≤ 99) : CS B yX2_setKnob cX2_setKnob 2 (some .boolean) 3 [.ref (s_ad B pl), .int (nI (vs 0))] S (fun v S1 => v = some (.int (bI ((telF 107 vs d).isSome = true))) ∧ frD S S1 pl ∧ ∀ d1, telF 107 vs d = some d1 → rD S1 pl d1) := by
  refine cs_intro (lv := [(0, .ref (s_ad B pl)), (1, .int (nI (vs 0)))]) rfl ?_
  obtain ⟨hp0, hp1, hp2, hp3⟩ := hp
  refine x_aload_n dX2_setKnob_0 rfl rfl ?_
  refine x_iload_n dX2_setKnob_1 rfl rfl ?_
  refine pX2_25 dX2_setKnob_2 rfl (by assumption) rfl ?_
  refine x_iload_n dX2_setKnob_5 rfl rfl ?_
  refine kX2_47 dX2_setKnob_6 rfl (c_isKnob) (by decide) (Nat.le_of_ble_eq_true rfl) ?_
  refine x_ireturn dX2_setKnob_9 rfl (by first | rfl | exact bI_nar _) ?_
  have hw := nI_within (a := vs 0) (lo := 1) (hi := 9) (by omega) (by decide) (by decide)
  have e : telF 107 vs d = if 1 ≤ vs 0 ∧ vs 0 ≤ 9 then some (d.1, d.2.1, nI (vs 0), d.2.2.2) else none := rfl
  refine ⟨?_, fun a ha => by rw [s_put_ne (by omega)], fun d1 hd1 => ?_⟩
  · rw [e, show bI ((1 : Int32) ≤ nI (vs 0) ∧ nI (vs 0) ≤ 9) = bI (1 ≤ vs 0 ∧ vs 0 ≤ 9) from bI_congr hw]
    by_cases h : 1 ≤ vs 0 ∧ vs 0 ≤ 9 <;> simp [h, bI]
  · rw [e] at hd1
    split at hd1
    · cases hd1
      obtain ⟨g1, g2, g3, g4, g5, g6, g7⟩ := hd
      refine ⟨g1, ?_, ?_, ?_, ?_, ?_, fun i hi => ?_⟩
      · rw [s_put_eq, if_neg (by decide)]; exact g2
      · rw [s_put_eq, if_neg (by decide)]; exact g3
      · rw [s_put_eq, if_pos rfl]
      · rw [s_put_eq, if_neg (by decide)]; exact g5
      · rw [s_put_eq, if_neg (by decide)]; exact g6
      · rw [s_put_ne (by omega), s_put_ne (by omega), s_put_ne (by omega)]; exact g7 i hi
    · cases hd1

set_option maxHeartbeats 1000000 in
set_option maxRecDepth 20000 in
theorem c_setHeat {B : sB} {S : sSt} {pl : Nat} {d : aD} {vs : Nat → Nat} (hp : shP B pl) (hd : rD S pl d) (hv : vs 0 ≤ 99) (hv1 : vs 1 ≤ 99) : CS B yX2_setHeat cX2_setHeat 3 (some .boolean) 2 [.ref (s_ad B pl), .int (nI (vs 0)), .int (nI (vs 1))] S (fun v S1 => v = some (.int (bI ((telF 104 vs d).isSome = true))) ∧ frD S S1 pl ∧ ∀ d1, telF 104 vs d = some d1 → rD S1 pl d1) := by
  refine cs_intro (lv := [(0, .ref (s_ad B pl)), (1, .int (nI (vs 0))), (2, .int (nI (vs 1)))]) rfl ?_
  obtain ⟨hp0, hp1, hp2, hp3⟩ := hp
  have hw := nI_within (a := vs 0) (lo := 0) (hi := 30) (by omega) (by decide) (by decide)
  have hw1 := nI_within (a := vs 1) (lo := 0) (hi := 30) (by omega) (by decide) (by decide)
  refine x_aload_n dX2_setHeat_0 rfl rfl ?_
  refine x_iload_n dX2_setHeat_1 rfl rfl ?_
  refine pX2_28 dX2_setHeat_2 rfl (by assumption) rfl ?_
  refine x_aload_n dX2_setHeat_5 rfl rfl ?_
  refine x_iload_n dX2_setHeat_6 rfl rfl ?_
  refine pX2_31 dX2_setHeat_7 rfl (by assumption) rfl ?_
  refine x_iload_n dX2_setHeat_10 rfl rfl ?_
  refine x_iconst (v := 0) dX2_setHeat_11 (by decide) ?_
  refine x_bipush (v := 30) dX2_setHeat_12 (by decide) ?_
  refine kX2_43 dX2_setHeat_14 rfl (c_within) (by decide) (Nat.le_of_ble_eq_true rfl) ?_
  refine x_ifeq_b (tgt := 34) dX2_setHeat_17 (by decide) (fun c_17 => ?_) (fun c_17 => ?_)
  · refine x_iconst (v := 0) dX2_setHeat_34 (by decide) ?_
    refine x_ireturn dX2_setHeat_35 rfl (by first | rfl | exact bI_nar _) ?_
    have e : telF 104 vs d = if vs 0 ≤ 30 ∧ vs 1 ≤ 30 then some (d.1, d.2.1, d.2.2.1, nI (vs 0), nI (vs 1), d.2.2.2.2.2) else none := rfl
    refine ⟨?_, fun a ha => by rw [s_put_ne (by omega), s_put_ne (by omega)], fun d1 hd1 => ?_⟩
    · rw [e]
      first
      | (rw [if_neg (by intro h; exact c_17 (hw.mpr ⟨Nat.zero_le _, h.1⟩))]; rfl)
      | (rw [if_neg (by intro h; exact c_27 (hw1.mpr ⟨Nat.zero_le _, h.2⟩))]; rfl)
      | (rw [if_pos ⟨(hw.mp c_17).2, (hw1.mp c_27).2⟩]; rfl)
    · rw [e] at hd1
      split at hd1
      · cases hd1
        obtain ⟨g1, g2, g3, g4, g5, g6, g7⟩ := hd
        refine ⟨g1, ?_, ?_, ?_, ?_, ?_, fun i hi => ?_⟩
        · rw [s_put_eq, if_neg (by decide), s_put_eq, if_neg (by decide)]; exact g2
        · rw [s_put_eq, if_neg (by decide), s_put_eq, if_neg (by decide)]; exact g3
        · rw [s_put_eq, if_neg (by decide), s_put_eq, if_neg (by decide)]; exact g4
        · rw [s_put_eq, if_neg (by decide), s_put_eq, if_pos rfl]
        · rw [s_put_eq, if_pos rfl]
        · rw [s_put_ne (by omega), s_put_ne (by omega), s_put_ne (by omega), s_put_ne (by omega), s_put_ne (by omega), s_put_ne (by omega)]; exact g7 i hi
      · cases hd1
  · refine x_iload_n dX2_setHeat_20 rfl rfl ?_
    refine x_iconst (v := 0) dX2_setHeat_21 (by decide) ?_
    refine x_bipush (v := 30) dX2_setHeat_22 (by decide) ?_
    refine kX2_43 dX2_setHeat_24 rfl (c_within) (by decide) (Nat.le_of_ble_eq_true rfl) ?_
    refine x_ifeq_b (tgt := 34) dX2_setHeat_27 (by decide) (fun c_27 => ?_) (fun c_27 => ?_)
    · refine x_iconst (v := 0) dX2_setHeat_34 (by decide) ?_
      refine x_ireturn dX2_setHeat_35 rfl (by first | rfl | exact bI_nar _) ?_
      have e : telF 104 vs d = if vs 0 ≤ 30 ∧ vs 1 ≤ 30 then some (d.1, d.2.1, d.2.2.1, nI (vs 0), nI (vs 1), d.2.2.2.2.2) else none := rfl
      refine ⟨?_, fun a ha => by rw [s_put_ne (by omega), s_put_ne (by omega)], fun d1 hd1 => ?_⟩
      · rw [e]
        first
        | (rw [if_neg (by intro h; exact c_17 (hw.mpr ⟨Nat.zero_le _, h.1⟩))]; rfl)
        | (rw [if_neg (by intro h; exact c_27 (hw1.mpr ⟨Nat.zero_le _, h.2⟩))]; rfl)
        | (rw [if_pos ⟨(hw.mp c_17).2, (hw1.mp c_27).2⟩]; rfl)
      · rw [e] at hd1
        split at hd1
        · cases hd1
          obtain ⟨g1, g2, g3, g4, g5, g6, g7⟩ := hd
          refine ⟨g1, ?_, ?_, ?_, ?_, ?_, fun i hi => ?_⟩
          · rw [s_put_eq, if_neg (by decide), s_put_eq, if_neg (by decide)]; exact g2
          · rw [s_put_eq, if_neg (by decide), s_put_eq, if_neg (by decide)]; exact g3
          · rw [s_put_eq, if_neg (by decide), s_put_eq, if_neg (by decide)]; exact g4
          · rw [s_put_eq, if_neg (by decide), s_put_eq, if_pos rfl]
          · rw [s_put_eq, if_pos rfl]
          · rw [s_put_ne (by omega), s_put_ne (by omega), s_put_ne (by omega), s_put_ne (by omega), s_put_ne (by omega), s_put_ne (by omega)]; exact g7 i hi
        · cases hd1
    · refine x_iconst (v := 1) dX2_setHeat_30 (by decide) ?_
      refine x_goto (tgt := 35) dX2_setHeat_31 (by decide) ?_
      refine x_ireturn dX2_setHeat_35 rfl (by first | rfl | exact bI_nar _) ?_
      have e : telF 104 vs d = if vs 0 ≤ 30 ∧ vs 1 ≤ 30 then some (d.1, d.2.1, d.2.2.1, nI (vs 0), nI (vs 1), d.2.2.2.2.2) else none := rfl
      refine ⟨?_, fun a ha => by rw [s_put_ne (by omega), s_put_ne (by omega)], fun d1 hd1 => ?_⟩
      · rw [e]
        first
        | (rw [if_neg (by intro h; exact c_17 (hw.mpr ⟨Nat.zero_le _, h.1⟩))]; rfl)
        | (rw [if_neg (by intro h; exact c_27 (hw1.mpr ⟨Nat.zero_le _, h.2⟩))]; rfl)
        | (rw [if_pos ⟨(hw.mp c_17).2, (hw1.mp c_27).2⟩]; rfl)
      · rw [e] at hd1
        split at hd1
        · cases hd1
          obtain ⟨g1, g2, g3, g4, g5, g6, g7⟩ := hd
          refine ⟨g1, ?_, ?_, ?_, ?_, ?_, fun i hi => ?_⟩
          · rw [s_put_eq, if_neg (by decide), s_put_eq, if_neg (by decide)]; exact g2
          · rw [s_put_eq, if_neg (by decide), s_put_eq, if_neg (by decide)]; exact g3
          · rw [s_put_eq, if_neg (by decide), s_put_eq, if_neg (by decide)]; exact g4
          · rw [s_put_eq, if_neg (by decide), s_put_eq, if_pos rfl]
          · rw [s_put_eq, if_pos rfl]
          · rw [s_put_ne (by omega), s_put_ne (by omega), s_put_ne (by omega), s_put_ne (by omega), s_put_ne (by omega), s_put_ne (by omega)]; exact g7 i hi
        · cases hd1

set_option maxHeartbeats 1000000 in
set_option maxRecDepth 20000 in
theorem c_addGuest {B : sB} {S : sSt} {pl : Nat} {d : aD} {vs : Nat → Nat} (hp : shP B pl) (hd : rD S pl d) (hv : vs 0 ≤ 99) : CS B yX2_addGuest cX2_addGuest 4 (some .boolean) 2 [.ref (s_ad B pl), .int (nI (vs 0)), .int (nI (vs 1)), .int (nI (vs 2))] S (fun v S1 => v = some (.int (bI ((telF 103 vs d).isSome = true))) ∧ frD S S1 pl ∧ ∀ d1, telF 103 vs d = some d1 → rD S1 pl d1) := by
  refine cs_intro (lv := [(0, .ref (s_ad B pl)), (1, .int (nI (vs 0))), (2, .int (nI (vs 1))), (3, .int (nI (vs 2)))]) rfl ?_
  obtain ⟨hp0, hp1, hp2, hp3⟩ := hp
  have hw := nI_within (a := vs 0) (lo := 0) (hi := 3) (by omega) (by decide) (by decide)
  obtain ⟨g1, g2, g3, g4, g5, g6, g7⟩ := id hd
  have e : telF 103 vs d = if d.1 < 9 ∧ vs 0 ≤ 3 then some (d.1 + 1, d.2.1, d.2.2.1, d.2.2.2.1, d.2.2.2.2.1, upd d.2.2.2.2.2.1 d.1 (nI (vs 0)), upd d.2.2.2.2.2.2.1 d.1 (nI (vs 1)), upd d.2.2.2.2.2.2.2 d.1 (nI (vs 2))) else none := rfl
  refine x_aload_n dX2_addGuest_0 rfl rfl ?_
  refine gX2_34 dX2_addGuest_1 rfl (by assumption) rfl ?_
  rw [g2]
  refine x_bipush (v := 9) dX2_addGuest_4 (by decide) ?_
  refine x_icmp_ge (tgt := 18) dX2_addGuest_6 (by decide) (fun c_6 => ?_) (fun c_6 => ?_)
  · have h9 : ¬ (d.1 < 9 ∧ vs 0 ≤ 3) := fun h => absurd c_6 (nI_ge (b := 9) h.1 (by decide))
    refine x_iconst (v := 0) dX2_addGuest_18 (by decide) ?_
    refine x_ireturn dX2_addGuest_19 rfl (by first | rfl | exact bI_nar _) ?_
    refine ⟨by rw [e, if_neg h9]; rfl, fun a ha => rfl, fun d1 hd1 => ?_⟩
    rw [e, if_neg h9] at hd1; cases hd1
  · have h9 : d.1 < 9 := by
      rcases Nat.lt_or_ge d.1 9 with h | h
      · exact h
      · exact absurd (nI_le (a := 9) h (by omega)) c_6
    refine x_iload_n dX2_addGuest_9 rfl rfl ?_
    refine x_iconst (v := 0) dX2_addGuest_10 (by decide) ?_
    refine x_iconst (v := 3) dX2_addGuest_11 (by decide) ?_
    refine kX2_43 dX2_addGuest_12 rfl (c_within) (by decide) (Nat.le_of_ble_eq_true rfl) ?_
    refine x_ifne_b (tgt := 20) dX2_addGuest_15 (by decide) (fun c_15 => ?_) (fun c_15 => ?_)
    · refine x_aload_n dX2_addGuest_20 rfl rfl ?_
      refine gX2_9 dX2_addGuest_21 rfl (by assumption) rfl ?_
      refine x_aload_n dX2_addGuest_24 rfl rfl ?_
      refine gX2_34 dX2_addGuest_25 rfl (by assumption) rfl ?_
      rw [g2]
      refine x_iload_n dX2_addGuest_28 rfl rfl ?_
      refine x_iastN (by assumption) dX2_addGuest_29 h9 (by decide) ?_
      refine x_aload_n dX2_addGuest_30 rfl rfl ?_
      refine gX2_15 dX2_addGuest_31 rfl (by assumption) rfl ?_
      refine x_aload_n dX2_addGuest_34 rfl rfl ?_
      refine gX2_34 dX2_addGuest_35 rfl (by assumption) rfl ?_
      rw [show s_put S (pl + 1) d.1 (nI (vs 0)) pl 4 = nI d.1 from by rw [s_put_ne (by omega)]; exact g2]
      refine x_iload_n dX2_addGuest_38 rfl rfl ?_
      refine x_iastN (by assumption) dX2_addGuest_39 h9 (by decide) ?_
      refine x_aload_n dX2_addGuest_40 rfl rfl ?_
      refine gX2_18 dX2_addGuest_41 rfl (by assumption) rfl ?_
      refine x_aload_n dX2_addGuest_44 rfl rfl ?_
      refine gX2_34 dX2_addGuest_45 rfl (by assumption) rfl ?_
      rw [show s_put (s_put S (pl + 1) d.1 (nI (vs 0))) (pl + 2) d.1 (nI (vs 1)) pl 4 = nI d.1 from by rw [s_put_ne (by omega), s_put_ne (by omega)]; exact g2]
      refine x_iload_n dX2_addGuest_48 rfl rfl ?_
      refine x_iastN (by assumption) dX2_addGuest_49 h9 (by decide) ?_
      refine x_aload_n dX2_addGuest_50 rfl rfl ?_
      refine x_dup dX2_addGuest_51 rfl ?_
      refine gX2_34 dX2_addGuest_52 rfl (by assumption) rfl ?_
      rw [show s_put (s_put (s_put S (pl + 1) d.1 (nI (vs 0))) (pl + 2) d.1 (nI (vs 1))) (pl + 3) d.1 (nI (vs 2)) pl 4 = nI d.1 from by rw [s_put_ne (by omega), s_put_ne (by omega), s_put_ne (by omega)]; exact g2]
      refine x_iconst (v := 1) dX2_addGuest_55 (by decide) ?_
      refine x_iadd dX2_addGuest_56 ?_
      refine pX2_34 dX2_addGuest_57 rfl (by assumption) rfl ?_
      refine x_iconst (v := 1) dX2_addGuest_60 (by decide) ?_
      refine x_ireturn dX2_addGuest_61 rfl (by first | rfl | exact bI_nar _) ?_
      have hok : d.1 < 9 ∧ vs 0 ≤ 3 := ⟨h9, (hw.mp c_15).2⟩
      refine ⟨by rw [e, if_pos hok]; rfl, fun a ha => by rw [s_put_ne (by omega), s_put_ne (by omega), s_put_ne (by omega), s_put_ne (by omega)], fun d1 hd1 => ?_⟩
      rw [e, if_pos hok] at hd1
      cases hd1
      refine ⟨h9, ?_, ?_, ?_, ?_, ?_, fun i hi => ?_⟩
      · rw [s_put_eq, if_pos rfl]; exact nI_1 d.1
      · rw [s_put_eq, if_neg (by decide), s_put_ne (by omega), s_put_ne (by omega), s_put_ne (by omega)]; exact g3
      · rw [s_put_eq, if_neg (by decide), s_put_ne (by omega), s_put_ne (by omega), s_put_ne (by omega)]; exact g4
      · rw [s_put_eq, if_neg (by decide), s_put_ne (by omega), s_put_ne (by omega), s_put_ne (by omega)]; exact g5
      · rw [s_put_eq, if_neg (by decide), s_put_ne (by omega), s_put_ne (by omega), s_put_ne (by omega)]; exact g6
      · have hi : i < d.1 + 1 := hi
        by_cases hid : i = d.1
        · subst hid
          simp [s_put, upd]
        · have h7 := g7 i (by omega)
          simp [s_put, upd, hid, h7]
    · have h9 : ¬ (d.1 < 9 ∧ vs 0 ≤ 3) := fun h => c_15 (hw.mpr ⟨Nat.zero_le _, h.2⟩)
      refine x_iconst (v := 0) dX2_addGuest_18 (by decide) ?_
      refine x_ireturn dX2_addGuest_19 rfl (by first | rfl | exact bI_nar _) ?_
      refine ⟨by rw [e, if_neg h9]; rfl, fun a ha => rfl, fun d1 hd1 => ?_⟩
      rw [e, if_neg h9] at hd1; cases hd1

set_option maxHeartbeats 1000000 in
set_option maxRecDepth 20000 in
theorem c_PcopyFrom {B : sB} {S : sSt} {pl p2 : Nat} {d : aD} (hp : shP B pl) (hq : shP B p2) (hd : rD S p2 d) (hdj : p2 + 4 ≤ pl ∨ pl + 4 ≤ p2) : CS B yX2_copyFrom cX2_copyFrom 2 none 1 [.ref (s_ad B pl), .ref (s_ad B p2)] S (fun v S1 => v = none ∧ rD S1 pl d ∧ frD S S1 pl) := by
  refine cs_intro (lv := [(0, .ref (s_ad B pl)), (1, .ref (s_ad B p2))]) rfl ?_
  obtain ⟨hp0, hp1, hp2, hp3⟩ := hp
  obtain ⟨hq0, hq1, hq2, hq3⟩ := hq
  have n00 : ¬ p2 = pl := by omega
  have n01 : ¬ p2 = pl + 1 := by omega
  have n02 : ¬ p2 = pl + 2 := by omega
  have n03 : ¬ p2 = pl + 3 := by omega
  have n10 : ¬ p2 + 1 = pl := by omega
  have n11 : ¬ p2 + 1 = pl + 1 := by omega
  have n12 : ¬ p2 + 1 = pl + 2 := by omega
  have n13 : ¬ p2 + 1 = pl + 3 := by omega
  have n20 : ¬ p2 + 2 = pl := by omega
  have n21 : ¬ p2 + 2 = pl + 1 := by omega
  have n22 : ¬ p2 + 2 = pl + 2 := by omega
  have n23 : ¬ p2 + 2 = pl + 3 := by omega
  have n30 : ¬ p2 + 3 = pl := by omega
  have n31 : ¬ p2 + 3 = pl + 1 := by omega
  have n32 : ¬ p2 + 3 = pl + 2 := by omega
  have n33 : ¬ p2 + 3 = pl + 3 := by omega
  obtain ⟨g1, g2, g3, g4, g5, g6, g7⟩ := hd
  have e9 : (9 : Int32).toNatClampNeg = 9 := by decide
  refine x_aload_n dX2_copyFrom_0 rfl rfl ?_
  refine x_aload_n dX2_copyFrom_1 rfl rfl ?_
  refine gX2_21 dX2_copyFrom_2 rfl (by assumption) rfl ?_
  refine pX2_21 dX2_copyFrom_5 rfl (by assumption) rfl ?_
  refine x_aload_n dX2_copyFrom_8 rfl rfl ?_
  refine x_aload_n dX2_copyFrom_9 rfl rfl ?_
  refine gX2_25 dX2_copyFrom_10 rfl (by assumption) rfl ?_
  refine pX2_25 dX2_copyFrom_13 rfl (by assumption) rfl ?_
  refine x_aload_n dX2_copyFrom_16 rfl rfl ?_
  refine x_aload_n dX2_copyFrom_17 rfl rfl ?_
  refine gX2_28 dX2_copyFrom_18 rfl (by assumption) rfl ?_
  refine pX2_28 dX2_copyFrom_21 rfl (by assumption) rfl ?_
  refine x_aload_n dX2_copyFrom_24 rfl rfl ?_
  refine x_aload_n dX2_copyFrom_25 rfl rfl ?_
  refine gX2_31 dX2_copyFrom_26 rfl (by assumption) rfl ?_
  refine pX2_31 dX2_copyFrom_29 rfl (by assumption) rfl ?_
  refine x_aload_n dX2_copyFrom_32 rfl rfl ?_
  refine x_aload_n dX2_copyFrom_33 rfl rfl ?_
  refine gX2_34 dX2_copyFrom_34 rfl (by assumption) rfl ?_
  refine pX2_34 dX2_copyFrom_37 rfl (by assumption) rfl ?_
  refine x_aload_n dX2_copyFrom_40 rfl rfl ?_
  refine gX2_9 dX2_copyFrom_41 rfl (by assumption) rfl ?_
  refine x_iconst (v := 0) dX2_copyFrom_44 (by decide) ?_
  refine x_aload_n dX2_copyFrom_45 rfl rfl ?_
  refine gX2_9 dX2_copyFrom_46 rfl (by assumption) rfl ?_
  refine x_iconst (v := 0) dX2_copyFrom_49 (by decide) ?_
  refine x_bipush (v := 9) dX2_copyFrom_50 (by decide) ?_
  refine kX2_37 dX2_copyFrom_52 rfl (by assumption) (by assumption) (by decide) (by decide) (by decide) (by decide) ?_
  refine x_aload_n dX2_copyFrom_55 rfl rfl ?_
  refine gX2_15 dX2_copyFrom_56 rfl (by assumption) rfl ?_
  refine x_iconst (v := 0) dX2_copyFrom_59 (by decide) ?_
  refine x_aload_n dX2_copyFrom_60 rfl rfl ?_
  refine gX2_15 dX2_copyFrom_61 rfl (by assumption) rfl ?_
  refine x_iconst (v := 0) dX2_copyFrom_64 (by decide) ?_
  refine x_bipush (v := 9) dX2_copyFrom_65 (by decide) ?_
  refine kX2_37 dX2_copyFrom_67 rfl (by assumption) (by assumption) (by decide) (by decide) (by decide) (by decide) ?_
  refine x_aload_n dX2_copyFrom_70 rfl rfl ?_
  refine gX2_18 dX2_copyFrom_71 rfl (by assumption) rfl ?_
  refine x_iconst (v := 0) dX2_copyFrom_74 (by decide) ?_
  refine x_aload_n dX2_copyFrom_75 rfl rfl ?_
  refine gX2_18 dX2_copyFrom_76 rfl (by assumption) rfl ?_
  refine x_iconst (v := 0) dX2_copyFrom_79 (by decide) ?_
  refine x_bipush (v := 9) dX2_copyFrom_80 (by decide) ?_
  refine kX2_37 dX2_copyFrom_82 rfl (by assumption) (by assumption) (by decide) (by decide) (by decide) (by decide) ?_
  refine x_return dX2_copyFrom_85 rfl ?_
  refine ⟨rfl, ⟨g1, ?_, ?_, ?_, ?_, ?_, fun j hj => ?_⟩, fun a ha => ?_⟩
  · simp [s_cp, s_put, g2, n00, n01, n02, n03, n10, n11, n12, n13, n20, n21, n22, n23, n30, n31, n32, n33]
  · simp [s_cp, s_put, g3, n00, n01, n02, n03, n10, n11, n12, n13, n20, n21, n22, n23, n30, n31, n32, n33]
  · simp [s_cp, s_put, g4, n00, n01, n02, n03, n10, n11, n12, n13, n20, n21, n22, n23, n30, n31, n32, n33]
  · simp [s_cp, s_put, g5, n00, n01, n02, n03, n10, n11, n12, n13, n20, n21, n22, n23, n30, n31, n32, n33]
  · simp [s_cp, s_put, g6, n00, n01, n02, n03, n10, n11, n12, n13, n20, n21, n22, n23, n30, n31, n32, n33]
  · have h4 := g7 j hj
    have hj9 : j < 9 := by omega
    simp [s_cp, s_put, e9, va_cpy, hj9, h4, n00, n01, n02, n03, n10, n11, n12, n13, n20, n21, n22, n23, n30, n31, n32, n33]
  · rw [s_cp_o _ _ _ _ (by omega), s_cp_o _ _ _ _ (by omega), s_cp_o _ _ _ _ (by omega), s_put_ne (by omega), s_put_ne (by omega), s_put_ne (by omega), s_put_ne (by omega), s_put_ne (by omega)]
