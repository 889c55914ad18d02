set_option maxHeartbeats 1000000 in
set_option maxRecDepth 20000 in
theorem l_rightOnes {B : sB} {S : sSt} {T : Nat × (Nat → Nat)} {P : aP} {r : aR} {acts kept : List aR} {f : aF} (hx : shX B) (hX : RX S (T, P, r, acts, kept, f)) (hI : iA (T, P, r, acts, kept, f)) {x : Int32} :
    ∀ (k i : Nat) (S0 : sSt) (q : aR) (a : Int32), i + k = P.1 → RX S0 (T, P, r, acts, kept, f) → rB S0 18 q → (0 ≤ (q 1).toInt ∧ (q 1).toInt ≤ 30) → frX S S0 → WS B (fun _ => True) yX6_rightOnesAtKnob cX6_rightOnesAtKnob 4 (some .int) 5 23 [(3, .int (nI i)), (2, .int a), (0, .ref (s_ad B 0)), (1, .int x)] [] S0 (fun v S1 => v = some (.int (harU P r k i q a)) ∧ RX S1 (T, P, r, acts, kept, f) ∧ frX S S1) := by
  obtain ⟨h0, hT0, hD, hL, hN, hTr, hLa, hPa, hKp, hSi, hSh, hK0, hK1⟩ := id hx
  have hTT := hT0.1
  have hDD := hD.1
  have hLL := hL.1
  have hL1 := hL.2.1
  have hL2 := hL.2.2.1
  have hL3 := hL.2.2.2
  have hNN := hN.1
  have hN1 := hN.2.1
  have hN2 := hN.2.2.1
  have hN3 := hN.2.2.2.1
  have hN4 := hN.2.2.2.2.1
  have hN5 := hN.2.2.2.2.2
  have hRR := hTr.1
  have hR4 := hTr.2.2.2.2.1
  have hVV := hLa.1
  have hAA := hPa.1
  have hSS := hSi.1
  have hHH := hSh.1
  have hH3 := hSh.2.2.2
  obtain ⟨jP, jR, jA, jE, jF⟩ := id hI
  have jP : iP P := jP
  have jR : iR P r := jR
  have jF : iF f := jF
  have hn1 : 1 ≤ P.1 := jP.1
  have hn9 : P.1 ≤ 9 := jP.2.1
  intro k
  induction k with
  | zero =>
    intro i S0 q a hi hX0 hq0 hh hf0
    refine x_iload_n dX6_rightOnesAtKnob_23 rfl rfl ?_
    refine x_aload_n dX6_rightOnesAtKnob_24 rfl rfl ?_
    refine gX6_23 dX6_rightOnesAtKnob_25 rfl (by assumption) rfl ?_
    refine gX6_97 dX6_rightOnesAtKnob_28 rfl (by assumption) rfl ?_
    refine x_icmp_ge (tgt := 79) dX6_rightOnesAtKnob_31 (by decide) (fun c_31 => ?_) (fun c_31 => ?_)
    · refine x_iload_n dX6_rightOnesAtKnob_79 rfl rfl ?_
      refine x_ireturn dX6_rightOnesAtKnob_80 rfl rfl ?_
      exact ⟨rfl, hX0, hf0⟩
    · exact absurd (by rw [show S0 8 4 = nI P.1 from hX0.2.1.2.1]; exact nI_le (by omega) (by omega)) c_31
  | succ k ih =>
    intro i S0 q a hi hX0 hq0 hh hf0
    have xP : rP S0 8 P := hX0.2.1
    refine x_iload_n dX6_rightOnesAtKnob_23 rfl rfl ?_
    refine x_aload_n dX6_rightOnesAtKnob_24 rfl rfl ?_
    refine gX6_23 dX6_rightOnesAtKnob_25 rfl (by assumption) rfl ?_
    refine gX6_97 dX6_rightOnesAtKnob_28 rfl (by assumption) rfl ?_
    refine x_icmp_ge (tgt := 79) dX6_rightOnesAtKnob_31 (by decide) (fun c_31 => ?_) (fun c_31 => ?_)
    · exact absurd c_31 (by rw [show S0 8 4 = nI P.1 from hX0.2.1.2.1]; exact nI_ge (by omega) (by omega))
    · refine x_aload_n dX6_rightOnesAtKnob_34 rfl rfl ?_
      refine gX6_35 dX6_rightOnesAtKnob_35 rfl (by assumption) rfl ?_
      refine x_iload_n dX6_rightOnesAtKnob_38 rfl rfl ?_
      refine kX6_191r dX6_rightOnesAtKnob_39 rfl (by assumption) (c_goOnTillFallen hTr hL xP hq0 (by omega) jP (by omega) hh) (by decide) (Nat.le_of_ble_eq_true rfl) (fun S2 hq => ?_)
      obtain ⟨-, h2⟩ := hq
      obtain ⟨hX2, hf2⟩ := RX_try hX0 h2 (Or.inl rfl)
      have b1 := ((show rB S2 12 r from hX2.2.2.1).2.2.2 i (by omega)).1
      have xP2 : rP S2 8 P := hX2.2.1
      refine x_aload_n dX6_rightOnesAtKnob_42 rfl rfl ?_
      refine gX6_31 dX6_rightOnesAtKnob_43 rfl (by assumption) rfl ?_
      refine gX6_119 dX6_rightOnesAtKnob_46 rfl (by assumption) rfl ?_
      refine x_iload_n dX6_rightOnesAtKnob_49 rfl rfl ?_
      first | refine x_ialdN (by assumption) dX6_rightOnesAtKnob_50 (by omega) (by decide) ?_ | refine x_iald (by assumption) dX6_rightOnesAtKnob_50 (by assumption) ?_
      refine x_iconst (v := 1) dX6_rightOnesAtKnob_51 (by decide) ?_
      refine x_icmp_ne (tgt := 73) dX6_rightOnesAtKnob_52 (by decide) (fun c_52 => ?_) (fun c_52 => ?_)
      · first | refine x_inc1N (lv' := [(3, _), (2, _), (0, _), (1, _)]) dX6_rightOnesAtKnob_73 rfl (by decide) rfl ?_ | refine x_iinc (v := _ + 1) (lv' := [(3, _), (2, _), (0, _), (1, _)]) dX6_rightOnesAtKnob_73 rfl rfl (by decide) rfl ?_
        refine x_goto (tgt := 23) dX6_rightOnesAtKnob_76 (by decide) ?_
        refine x_wk [0, 1, 2, 3] rfl ?_
        rw [harU]
        first
        | (rw [if_neg (by rw [Bool.and_eq_true, beq_iff_eq, ← b1]; exact fun z => c_52 z.1)]; exact ih (i + 1) S2 _ a (by omega) hX2 h2.1 (tilU_heat jP 40 _ hh) (frX_trans hf0 hf2))
        | (rw [if_neg (by rw [Bool.and_eq_true, beq_iff_eq, ← b1]; exact fun z => c_64 z.2)]; exact ih (i + 1) S2 _ a (by omega) hX2 h2.1 (tilU_heat jP 40 _ hh) (frX_trans hf0 hf2))
        | (rw [if_pos (by rw [Bool.and_eq_true, beq_iff_eq, ← b1]; exact ⟨c_52, c_64⟩)]; exact ih (i + 1) S2 _ _ (by omega) hX2 h2.1 (tilU_heat jP 40 _ hh) (frX_trans hf0 hf2))
      · refine x_aload_n dX6_rightOnesAtKnob_55 rfl rfl ?_
        refine gX6_35 dX6_rightOnesAtKnob_56 rfl (by assumption) rfl ?_
        refine x_iload_n dX6_rightOnesAtKnob_59 rfl rfl ?_
        refine x_iload_n dX6_rightOnesAtKnob_60 rfl rfl ?_
        refine kX6_134 dX6_rightOnesAtKnob_61 rfl (by assumption) (c_isRight hTr hL xP2 h2.1 (by omega) (by omega)) (by decide) (Nat.le_of_ble_eq_true rfl) ?_
        refine x_ifeq_b (tgt := 73) dX6_rightOnesAtKnob_64 (by decide) (fun c_64 => ?_) (fun c_64 => ?_)
        · first | refine x_inc1N (lv' := [(3, _), (2, _), (0, _), (1, _)]) dX6_rightOnesAtKnob_73 rfl (by decide) rfl ?_ | refine x_iinc (v := _ + 1) (lv' := [(3, _), (2, _), (0, _), (1, _)]) dX6_rightOnesAtKnob_73 rfl rfl (by decide) rfl ?_
          refine x_goto (tgt := 23) dX6_rightOnesAtKnob_76 (by decide) ?_
          refine x_wk [0, 1, 2, 3] rfl ?_
          rw [harU]
          first
          | (rw [if_neg (by rw [Bool.and_eq_true, beq_iff_eq, ← b1]; exact fun z => c_52 z.1)]; exact ih (i + 1) S2 _ a (by omega) hX2 h2.1 (tilU_heat jP 40 _ hh) (frX_trans hf0 hf2))
          | (rw [if_neg (by rw [Bool.and_eq_true, beq_iff_eq, ← b1]; exact fun z => c_64 z.2)]; exact ih (i + 1) S2 _ a (by omega) hX2 h2.1 (tilU_heat jP 40 _ hh) (frX_trans hf0 hf2))
          | (rw [if_pos (by rw [Bool.and_eq_true, beq_iff_eq, ← b1]; exact ⟨c_52, c_64⟩)]; exact ih (i + 1) S2 _ _ (by omega) hX2 h2.1 (tilU_heat jP 40 _ hh) (frX_trans hf0 hf2))
        · refine x_iload_n dX6_rightOnesAtKnob_67 rfl rfl ?_
          refine x_iconst (v := 1) dX6_rightOnesAtKnob_68 (by decide) ?_
          refine x_iload_n dX6_rightOnesAtKnob_69 rfl rfl ?_
          refine x_ishl dX6_rightOnesAtKnob_70 ?_
          refine x_re (b := bt i) rfl ?_
          refine x_ior dX6_rightOnesAtKnob_71 ?_
          refine x_istore_n (lv' := [(2, _), (3, _), (0, _), (1, _)]) dX6_rightOnesAtKnob_72 rfl (by decide) rfl ?_
          first | refine x_inc1N (lv' := [(3, _), (2, _), (0, _), (1, _)]) dX6_rightOnesAtKnob_73 rfl (by decide) rfl ?_ | refine x_iinc (v := _ + 1) (lv' := [(3, _), (2, _), (0, _), (1, _)]) dX6_rightOnesAtKnob_73 rfl rfl (by decide) rfl ?_
          refine x_goto (tgt := 23) dX6_rightOnesAtKnob_76 (by decide) ?_
          refine x_wk [0, 1, 2, 3] rfl ?_
          rw [harU]
          first
          | (rw [if_neg (by rw [Bool.and_eq_true, beq_iff_eq, ← b1]; exact fun z => c_52 z.1)]; exact ih (i + 1) S2 _ a (by omega) hX2 h2.1 (tilU_heat jP 40 _ hh) (frX_trans hf0 hf2))
          | (rw [if_neg (by rw [Bool.and_eq_true, beq_iff_eq, ← b1]; exact fun z => c_64 z.2)]; exact ih (i + 1) S2 _ a (by omega) hX2 h2.1 (tilU_heat jP 40 _ hh) (frX_trans hf0 hf2))
          | (rw [if_pos (by rw [Bool.and_eq_true, beq_iff_eq, ← b1]; exact ⟨c_52, c_64⟩)]; exact ih (i + 1) S2 _ _ (by omega) hX2 h2.1 (tilU_heat jP 40 _ hh) (frX_trans hf0 hf2))

set_option maxHeartbeats 1000000 in
set_option maxRecDepth 20000 in
theorem c_rightOnes {B : sB} {S : sSt} {T : Nat × (Nat → Nat)} {P : aP} {r : aR} {acts kept : List aR} {f : aF} (hx : shX B) (hX : RX S (T, P, r, acts, kept, f)) (hI : iA (T, P, r, acts, kept, f)) {x : Int32} : CS B yX6_rightOnesAtKnob cX6_rightOnesAtKnob 4 (some .int) 5 [.ref (s_ad B 0), .int x] S (fun v S1 => v = some (.int (harF P r x)) ∧ RX S1 (T, P, r, acts, kept, f) ∧ frX S S1) := by
  refine cs_intro (lv := [(0, .ref (s_ad B 0)), (1, .int x)]) rfl ?_
  obtain ⟨h0, hT0, hD, hL, hN, hTr, hLa, hPa, hKp, hSi, hSh, hK0, hK1⟩ := id hx
  have hTT := hT0.1
  have hDD := hD.1
  have hLL := hL.1
  have hL1 := hL.2.1
  have hL2 := hL.2.2.1
  have hL3 := hL.2.2.2
  have hNN := hN.1
  have hN1 := hN.2.1
  have hN2 := hN.2.2.1
  have hN3 := hN.2.2.2.1
  have hN4 := hN.2.2.2.2.1
  have hN5 := hN.2.2.2.2.2
  have hRR := hTr.1
  have hR4 := hTr.2.2.2.2.1
  have hVV := hLa.1
  have hAA := hPa.1
  have hSS := hSi.1
  have hHH := hSh.1
  have hH3 := hSh.2.2.2
  obtain ⟨xT, xP, xB, xA, xE, xF⟩ := id hX
  have xT : rT S 1 T.2 T.1 := xT
  have xP : rP S 8 P := xP
  have xB : rB S 12 r := xB
  have xA : rA S 30 acts := xA
  have xE : rE S kept := xE
  have xF : rF S 81 f := xF
  have hn9 : P.1 ≤ 9 := xP.1
  obtain ⟨jP, jR, jA, jE, jF⟩ := id hI
  have jP : iP P := jP
  have jR : iR P r := jR
  have jF : iF f := jF
  have hn1 : 1 ≤ P.1 := jP.1
  refine x_aload_n dX6_rightOnesAtKnob_0 rfl rfl ?_
  refine gX6_35 dX6_rightOnesAtKnob_1 rfl (by assumption) rfl ?_
  refine x_aload_n dX6_rightOnesAtKnob_4 rfl rfl ?_
  refine gX6_31 dX6_rightOnesAtKnob_5 rfl (by assumption) rfl ?_
  refine kX6_188r dX6_rightOnesAtKnob_8 rfl (by assumption) (c_copyFrom hTr hN xB (by omega)) (by decide) (Nat.le_of_ble_eq_true rfl) (fun S1 hq => ?_)
  obtain ⟨-, h1⟩ := hq
  have xP1 := ch_P h1 (by omega) xP
  refine x_aload_n dX6_rightOnesAtKnob_11 rfl rfl ?_
  refine gX6_35 dX6_rightOnesAtKnob_12 rfl (by assumption) rfl ?_
  refine x_iload_n dX6_rightOnesAtKnob_15 rfl rfl ?_
  refine pX6_167 dX6_rightOnesAtKnob_16 rfl (by assumption) rfl ?_
  refine x_gen (Pz := fun S' => chB S S' 18 _) (chB_k h1) (fun S2 h2 => ?_)
  refine x_iconst (v := 0) dX6_rightOnesAtKnob_19 (by decide) ?_
  refine x_istore_n (lv' := [(2, _), (0, _), (1, _)]) dX6_rightOnesAtKnob_20 rfl (by decide) rfl ?_
  refine x_iconst (v := 0) dX6_rightOnesAtKnob_21 (by decide) ?_
  refine x_istore_n (lv' := [(3, _), (2, _), (0, _), (1, _)]) dX6_rightOnesAtKnob_22 rfl (by decide) rfl ?_
  obtain ⟨hX2, hf2⟩ := RX_try hX h2 (Or.inl rfl)
  exact l_rightOnes hx hX hI P.1 0 S2 _ 0 (by omega) hX2 h2.1 (by rw [upd_ne (by decide)]; exact jR.2.1) hf2

set_option maxHeartbeats 1000000 in
set_option maxRecDepth 20000 in
theorem cX_harm {B : sB} {S : sSt} {T : Nat × (Nat → Nat)} {P : aP} {r : aR} {acts kept : List aR} {f : aF} (hx : shX B) (hX : RX S (T, P, r, acts, kept, f)) (hI : iA (T, P, r, acts, kept, f)) {x : Int32} : CS B yX6_harm cX6_harm 2 (some .int) 6 [.ref (s_ad B 0), .int x] S (qO S (o_harm (T, P, r, acts, kept, f) x)) := by
  refine cs_intro (lv := [(0, .ref (s_ad B 0)), (1, .int x)]) rfl ?_
  obtain ⟨h0, hT0, hD, hL, hN, hTr, hLa, hPa, hKp, hSi, hSh, hK0, hK1⟩ := id hx
  have hTT := hT0.1
  have hDD := hD.1
  have hLL := hL.1
  have hL1 := hL.2.1
  have hL2 := hL.2.2.1
  have hL3 := hL.2.2.2
  have hNN := hN.1
  have hN1 := hN.2.1
  have hN2 := hN.2.2.1
  have hN3 := hN.2.2.2.1
  have hN4 := hN.2.2.2.2.1
  have hN5 := hN.2.2.2.2.2
  have hRR := hTr.1
  have hR4 := hTr.2.2.2.2.1
  have hVV := hLa.1
  have hAA := hPa.1
  have hSS := hSi.1
  have hHH := hSh.1
  have hH3 := hSh.2.2.2
  obtain ⟨xT, xP, xB, xA, xE, xF⟩ := id hX
  have xT : rT S 1 T.2 T.1 := xT
  have xP : rP S 8 P := xP
  have xB : rB S 12 r := xB
  have xA : rA S 30 acts := xA
  have xE : rE S kept := xE
  have xF : rF S 81 f := xF
  have hn9 : P.1 ≤ 9 := xP.1
  obtain ⟨jP, jR, jA, jE, jF⟩ := id hI
  have jP : iP P := jP
  have jR : iR P r := jR
  have jF : iF f := jF
  have hn1 : 1 ≤ P.1 := jP.1
  refine x_iload_n dX6_harm_0 rfl rfl ?_
  refine kX6_164 dX6_harm_1 rfl (c_isKnob) (by decide) (Nat.le_of_ble_eq_true rfl) ?_
  refine x_ifne_b (tgt := 9) dX6_harm_4 (by decide) (fun c_4 => ?_) (fun c_4 => ?_)
  · refine x_aload_n dX6_harm_9 rfl rfl ?_
    refine x_aload_n dX6_harm_10 rfl rfl ?_
    refine gX6_31 dX6_harm_11 rfl (by assumption) rfl ?_
    refine gX6_167 dX6_harm_14 rfl (by assumption) rfl ?_
    rw [xB.1]
    refine kX6_204r dX6_harm_17 rfl (by assumption) (c_rightOnes hx hX hI) (by decide) (Nat.le_of_ble_eq_true rfl) (fun z S1 hq => ?_)
    obtain ⟨q1, hX1, hf1⟩ := hq
    cases q1
    refine x_aload_n dX6_harm_20 rfl rfl ?_
    refine x_iload_n dX6_harm_21 rfl rfl ?_
    refine kX6_204r dX6_harm_22 rfl (by assumption) (c_rightOnes hx hX1 hI) (by decide) (Nat.le_of_ble_eq_true rfl) (fun z S2 hq => ?_)
    obtain ⟨q1, hX2, hf2⟩ := hq
    cases q1
    refine x_iconst (v := (-1)) dX6_harm_25 (by decide) ?_
    refine x_ixor dX6_harm_26 ?_
    refine x_iand dX6_harm_27 ?_
    refine x_ireturn dX6_harm_28 rfl rfl ?_
    exact qO_of (by rw [o_harm, if_pos (wn_iff.mpr c_4)]) rfl hX2 (frX_trans hf1 hf2)
  · refine x_iconst (v := (-1)) dX6_harm_7 (by decide) ?_
    refine x_ireturn dX6_harm_8 rfl rfl ?_
    exact qO_of (by rw [o_harm, if_neg (fun h => c_4 (wn_iff.mp h))]) rfl hX frX_rfl

theorem RX_shr {S S1 : sSt} {A : aA} (hX : RX S A) (h : frH S S1 86) : RX S1 A ∧ frX S S1 := by
  refine ⟨RX_scr hX (fun a h1 h2 => h a ?_) ?_, fun a ha => h a (by omega)⟩
  · unfold scr at h2; omega
  · rw [h 1 (by omega)]
theorem lowU_lt9 {fit : Nat → Nat → Bool} {n g mi : Nat} {fr : Nat → Bool} {j : Nat} (h : lowU fit n g fr mi n 0 = some j) : j < n := by have := lowU_some h; omega
theorem setU_lt {fit : Nat → Nat → Bool} {n : Nat} : ∀ (k g : Nat) (fr : Nat → Bool) (mi : Nat) (ch : Nat → Option Nat), (∀ j s, ch j = some s → s < n) → ∀ j s, setU fit n k g fr mi ch j = some s → s < n := by
  intro k; induction k with
  | zero => intro g fr mi ch h j s hj; exact h j s hj
  | succ k ih =>
    intro g fr mi ch h j s hj
    rw [setU] at hj
    cases hl : lowU fit n g fr mi n 0 with
    | none =>
      rw [hl] at hj
      refine ih _ _ _ _ (fun j' s' h' => ?_) j s hj
      unfold updO at h'
      split at h'
      · cases h'
      · exact h j' s' h'
    | some z =>
      rw [hl] at hj
      refine ih _ _ _ _ (fun j' s' h' => ?_) j s hj
      unfold updO at h'
      split at h'
      · cases h'; exact lowU_lt9 hl
      · exact h j' s' h'
theorem shrC_lt {P : aP} {r : aR} {j s : Nat} (h : shrC P r j = some s) : s < P.1 := setU_lt _ _ _ _ _ (fun _ _ h => by cases h) j s h

set_option maxHeartbeats 1000000 in
set_option maxRecDepth 20000 in
theorem cX_share {B : sB} {S : sSt} {T : Nat × (Nat → Nat)} {P : aP} {r : aR} {acts kept : List aR} {f : aF} (hx : shX B) (hX : RX S (T, P, r, acts, kept, f)) (hn1 : 1 ≤ P.1) {x : Int32} : CS B yX6_share cX6_share 2 (some .int) 14 [.ref (s_ad B 0), .int x] S (qO S (o_share (T, P, r, acts, kept, f) x)) := by
  refine cs_intro (lv := [(0, .ref (s_ad B 0)), (1, .int x)]) rfl ?_
  obtain ⟨h0, hT0, hD, hL, hN, hTr, hLa, hPa, hKp, hSi, hSh, hK0, hK1⟩ := id hx
  have hTT := hT0.1
  have hDD := hD.1
  have hLL := hL.1
  have hL1 := hL.2.1
  have hL2 := hL.2.2.1
  have hL3 := hL.2.2.2
  have hNN := hN.1
  have hN1 := hN.2.1
  have hN2 := hN.2.2.1
  have hN3 := hN.2.2.2.1
  have hN4 := hN.2.2.2.2.1
  have hN5 := hN.2.2.2.2.2
  have hRR := hTr.1
  have hR4 := hTr.2.2.2.2.1
  have hVV := hLa.1
  have hAA := hPa.1
  have hSS := hSi.1
  have hHH := hSh.1
  have hH3 := hSh.2.2.2
  obtain ⟨xT, xP, xB, xA, xE, xF⟩ := id hX
  have xT : rT S 1 T.2 T.1 := xT
  have xP : rP S 8 P := xP
  have xB : rB S 12 r := xB
  have xA : rA S 30 acts := xA
  have xE : rE S kept := xE
  have xF : rF S 81 f := xF
  have hn9 : P.1 ≤ 9 := xP.1
  refine x_iload_n dX6_share_0 rfl rfl ?_
  refine x_iconst (v := (-1)) dX6_share_1 (by decide) ?_
  refine x_icmp_eq (tgt := 15) dX6_share_2 (by decide) (fun c_2 => ?_) (fun c_2 => ?_)
  · refine x_aload_n dX6_share_15 rfl rfl ?_
    refine gX6_62 dX6_share_16 rfl (by assumption) rfl ?_
    refine x_aload_n dX6_share_19 rfl rfl ?_
    refine gX6_31 dX6_share_20 rfl (by assumption) rfl ?_
    refine kX6_207r dX6_share_23 rfl (by assumption) (c_settle hSh hN hL xP xB (by omega) (by omega)) (by decide) (Nat.le_of_ble_eq_true rfl) (fun S1 hq => ?_)
    obtain ⟨-, q1, q2, q3⟩ := hq
    obtain ⟨hX1, hf1⟩ := RX_shr hX q3
    refine x_iload_n dX6_share_26 rfl rfl ?_
    refine x_iconst (v := (-1)) dX6_share_27 (by decide) ?_
    refine x_icmp_ne (tgt := 41) dX6_share_28 (by decide) (fun c_28 => ?_) (fun c_28 => ?_)
    · have hgk : gok P x = true := by
        first | exact c_10 | exact absurd c_2 c_28
      obtain ⟨g, hg, rfl⟩ : ∃ g, g < P.1 ∧ x = nI g := ⟨_, gok_nI hgk⟩
      have hgc : (nI g).toNatClampNeg = g := nI_clamp (by omega)
      refine x_aload_n dX6_share_41 rfl rfl ?_
      refine gX6_62 dX6_share_42 rfl (by assumption) rfl ?_
      refine gX6_213 dX6_share_45 rfl (by assumption) rfl ?_
      refine x_iload_n dX6_share_48 rfl rfl ?_
      first | refine x_ialdN (by assumption) dX6_share_49 (by omega) (by decide) ?_ | refine x_iald (by assumption) dX6_share_49 (by assumption) ?_
      refine x_ireturn dX6_share_50 rfl rfl ?_
      first
      | exact qO_of (by rw [o_share, if_pos c_28]) q1 hX1 hf1
      | exact qO_of (by rw [o_share, if_neg c_28, if_pos hgk, hgc]) (q2 g hg) hX1 hf1
    · refine x_aload_n dX6_share_31 rfl rfl ?_
      refine gX6_62 dX6_share_32 rfl (by assumption) rfl ?_
      refine gX6_210 dX6_share_35 rfl (by assumption) rfl ?_
      refine x_goto (tgt := 50) dX6_share_38 (by decide) ?_
      refine x_ireturn dX6_share_50 rfl rfl ?_
      first
      | exact qO_of (by rw [o_share, if_pos c_28]) q1 hX1 hf1
      | exact qO_of (by rw [o_share, if_neg c_28, if_pos hgk, hgc]) (q2 g hg) hX1 hf1
  · refine x_aload_n dX6_share_5 rfl rfl ?_
    refine x_iload_n dX6_share_6 rfl rfl ?_
    refine kX6_101 dX6_share_7 rfl (by assumption) (c_isGuest hx hX hn1) (by decide) (Nat.le_of_ble_eq_true rfl) ?_
    refine x_ifne_b (tgt := 15) dX6_share_10 (by decide) (fun c_10 => ?_) (fun c_10 => ?_)
    · refine x_aload_n dX6_share_15 rfl rfl ?_
      refine gX6_62 dX6_share_16 rfl (by assumption) rfl ?_
      refine x_aload_n dX6_share_19 rfl rfl ?_
      refine gX6_31 dX6_share_20 rfl (by assumption) rfl ?_
      refine kX6_207r dX6_share_23 rfl (by assumption) (c_settle hSh hN hL xP xB (by omega) (by omega)) (by decide) (Nat.le_of_ble_eq_true rfl) (fun S1 hq => ?_)
      obtain ⟨-, q1, q2, q3⟩ := hq
      obtain ⟨hX1, hf1⟩ := RX_shr hX q3
      refine x_iload_n dX6_share_26 rfl rfl ?_
      refine x_iconst (v := (-1)) dX6_share_27 (by decide) ?_
      refine x_icmp_ne (tgt := 41) dX6_share_28 (by decide) (fun c_28 => ?_) (fun c_28 => ?_)
      · have hgk : gok P x = true := by
          first | exact c_10 | exact absurd c_2 c_28
        obtain ⟨g, hg, rfl⟩ : ∃ g, g < P.1 ∧ x = nI g := ⟨_, gok_nI hgk⟩
        have hgc : (nI g).toNatClampNeg = g := nI_clamp (by omega)
        refine x_aload_n dX6_share_41 rfl rfl ?_
        refine gX6_62 dX6_share_42 rfl (by assumption) rfl ?_
        refine gX6_213 dX6_share_45 rfl (by assumption) rfl ?_
        refine x_iload_n dX6_share_48 rfl rfl ?_
        first | refine x_ialdN (by assumption) dX6_share_49 (by omega) (by decide) ?_ | refine x_iald (by assumption) dX6_share_49 (by assumption) ?_
        refine x_ireturn dX6_share_50 rfl rfl ?_
        first
        | exact qO_of (by rw [o_share, if_pos c_28]) q1 hX1 hf1
        | exact qO_of (by rw [o_share, if_neg c_28, if_pos hgk, hgc]) (q2 g hg) hX1 hf1
      · refine x_aload_n dX6_share_31 rfl rfl ?_
        refine gX6_62 dX6_share_32 rfl (by assumption) rfl ?_
        refine gX6_210 dX6_share_35 rfl (by assumption) rfl ?_
        refine x_goto (tgt := 50) dX6_share_38 (by decide) ?_
        refine x_ireturn dX6_share_50 rfl rfl ?_
        first
        | exact qO_of (by rw [o_share, if_pos c_28]) q1 hX1 hf1
        | exact qO_of (by rw [o_share, if_neg c_28, if_pos hgk, hgc]) (q2 g hg) hX1 hf1
    · refine x_iconst (v := (-1)) dX6_share_13 (by decide) ?_
      refine x_ireturn dX6_share_14 rfl rfl ?_
      exact qO_of (by rw [o_share, if_neg c_2, if_neg c_10]) rfl hX frX_rfl

set_option maxHeartbeats 1000000 in
set_option maxRecDepth 20000 in
theorem l_round {B : sB} {S : sSt} {P : aP} {r : aR} (hx : shX B) (xP : rP S 8 P) (hch : ∀ j, j < P.1 → S (86 + 3) j = oI (shrC P r j)) :
    ∀ (k i q : Nat), i + k = P.1 → q ≤ i → WS B (fun _ => True) yX6_round cX6_round 3 (some .int) 14 15 [(2, .int (nI i)), (1, .int (nI q)), (0, .ref (s_ad B 0))] [] S (qI (nI (q + cntU (fun g => (shrC P r g).isSome && !(shrC P r g == some g)) k i)) S) := by
  obtain ⟨h0, hT0, hD, hL, hN, hTr, hLa, hPa, hKp, hSi, hSh, hK0, hK1⟩ := id hx
  have hTT := hT0.1
  have hDD := hD.1
  have hLL := hL.1
  have hL1 := hL.2.1
  have hL2 := hL.2.2.1
  have hL3 := hL.2.2.2
  have hNN := hN.1
  have hN1 := hN.2.1
  have hN2 := hN.2.2.1
  have hN3 := hN.2.2.2.1
  have hN4 := hN.2.2.2.2.1
  have hN5 := hN.2.2.2.2.2
  have hRR := hTr.1
  have hR4 := hTr.2.2.2.2.1
  have hVV := hLa.1
  have hAA := hPa.1
  have hSS := hSi.1
  have hHH := hSh.1
  have hH3 := hSh.2.2.2
  have hn9 : P.1 ≤ 9 := xP.1
  have hn := xP.2.1
  intro k
  induction k with
  | zero =>
    intro i q hi hq
    refine x_iload_n dX6_round_15 rfl rfl ?_
    refine x_aload_n dX6_round_16 rfl rfl ?_
    refine gX6_23 dX6_round_17 rfl (by assumption) rfl ?_
    refine gX6_97 dX6_round_20 rfl (by assumption) rfl ?_
    refine x_icmp_ge (tgt := 62) dX6_round_23 (by decide) (fun c_23 => ?_) (fun c_23 => ?_)
    · refine x_iload_n dX6_round_62 rfl rfl ?_
      refine x_ireturn dX6_round_63 rfl rfl ?_
      exact ⟨rfl, rfl⟩
    · exact absurd (by rw [hn, ← hi]; exact nI_le (by omega) (by omega)) c_23
  | succ k ih =>
    intro i q hi hq
    refine x_iload_n dX6_round_15 rfl rfl ?_
    refine x_aload_n dX6_round_16 rfl rfl ?_
    refine gX6_23 dX6_round_17 rfl (by assumption) rfl ?_
    refine gX6_97 dX6_round_20 rfl (by assumption) rfl ?_
    refine x_icmp_ge (tgt := 62) dX6_round_23 (by decide) (fun c_23 => ?_) (fun c_23 => ?_)
    · exact absurd c_23 (by rw [hn]; exact nI_ge (by omega) (by omega))
    · refine x_aload_n dX6_round_26 rfl rfl ?_
      refine gX6_62 dX6_round_27 rfl (by assumption) rfl ?_
      refine gX6_213 dX6_round_30 rfl (by assumption) rfl ?_
      refine x_iload_n dX6_round_33 rfl rfl ?_
      first | refine x_ialdN (by assumption) dX6_round_34 (by omega) (by decide) ?_ | refine x_iald (by assumption) dX6_round_34 (by assumption) ?_
      refine x_bipush (v := (-4)) dX6_round_35 (by decide) ?_
      rw [hch i (by omega)]
      refine x_icmp_eq (tgt := 56) dX6_round_37 (by decide) (fun c_37 => ?_) (fun c_37 => ?_)
      · have hno : shrC P r i = none := (oI_eq4 (fun g h => by have := shrC_lt h; omega)).mp c_37
        first | refine x_inc1N (lv' := [(2, _), (1, _), (0, _)]) dX6_round_56 rfl (by decide) rfl ?_ | refine x_iinc (v := _ + 1) (lv' := [(2, _), (1, _), (0, _)]) dX6_round_56 rfl rfl (by decide) rfl ?_
        refine x_goto (tgt := 15) dX6_round_59 (by decide) ?_
        first
        | (rw [show q + cntU (fun g => (shrC P r g).isSome && !(shrC P r g == some g)) (k + 1) i = q + cntU (fun g => (shrC P r g).isSome && !(shrC P r g == some g)) k (i + 1) from by rw [cntU, if_neg (by rw [hno]; simp)]; omega]; exact ih (i + 1) q (by omega) (by omega))
        | (rw [show q + cntU (fun g => (shrC P r g).isSome && !(shrC P r g == some g)) (k + 1) i = q + cntU (fun g => (shrC P r g).isSome && !(shrC P r g == some g)) k (i + 1) from by rw [cntU, if_neg (by rw [hsg]; simp)]; omega]; exact ih (i + 1) q (by omega) (by omega))
        | (rw [show q + cntU (fun g => (shrC P r g).isSome && !(shrC P r g == some g)) (k + 1) i = (q + 1) + cntU (fun g => (shrC P r g).isSome && !(shrC P r g == some g)) k (i + 1) from by rw [cntU, if_pos (by rw [hso]; simp; exact hne)]; omega]; exact ih (i + 1) (q + 1) (by omega) (by omega))
      · obtain ⟨s, hso⟩ : ∃ s, shrC P r i = some s := by
          cases h : shrC P r i with
          | none => exact absurd (by rw [h]; rfl) c_37
          | some s => exact ⟨s, rfl⟩
        have hs9 := shrC_lt hso
        refine x_aload_n dX6_round_40 rfl rfl ?_
        refine gX6_62 dX6_round_41 rfl (by assumption) rfl ?_
        refine gX6_213 dX6_round_44 rfl (by assumption) rfl ?_
        refine x_iload_n dX6_round_47 rfl rfl ?_
        first | refine x_ialdN (by assumption) dX6_round_48 (by omega) (by decide) ?_ | refine x_iald (by assumption) dX6_round_48 (by assumption) ?_
        refine x_iload_n dX6_round_49 rfl rfl ?_
        rw [hch i (by omega), hso]
        refine x_icmp_eq (tgt := 56) dX6_round_50 (by decide) (fun c_50 => ?_) (fun c_50 => ?_)
        · have hsg : shrC P r i = some i := by rw [hso, (nI_eq (by omega) (by omega)).mp c_50]
          first | refine x_inc1N (lv' := [(2, _), (1, _), (0, _)]) dX6_round_56 rfl (by decide) rfl ?_ | refine x_iinc (v := _ + 1) (lv' := [(2, _), (1, _), (0, _)]) dX6_round_56 rfl rfl (by decide) rfl ?_
          refine x_goto (tgt := 15) dX6_round_59 (by decide) ?_
          first
          | (rw [show q + cntU (fun g => (shrC P r g).isSome && !(shrC P r g == some g)) (k + 1) i = q + cntU (fun g => (shrC P r g).isSome && !(shrC P r g == some g)) k (i + 1) from by rw [cntU, if_neg (by rw [hno]; simp)]; omega]; exact ih (i + 1) q (by omega) (by omega))
          | (rw [show q + cntU (fun g => (shrC P r g).isSome && !(shrC P r g == some g)) (k + 1) i = q + cntU (fun g => (shrC P r g).isSome && !(shrC P r g == some g)) k (i + 1) from by rw [cntU, if_neg (by rw [hsg]; simp)]; omega]; exact ih (i + 1) q (by omega) (by omega))
          | (rw [show q + cntU (fun g => (shrC P r g).isSome && !(shrC P r g == some g)) (k + 1) i = (q + 1) + cntU (fun g => (shrC P r g).isSome && !(shrC P r g == some g)) k (i + 1) from by rw [cntU, if_pos (by rw [hso]; simp; exact hne)]; omega]; exact ih (i + 1) (q + 1) (by omega) (by omega))
        · have hne : ¬ s = i := fun h => c_50 (by rw [h]; rfl)
          first | refine x_inc1N (lv' := [(1, _), (2, _), (0, _)]) dX6_round_53 rfl (by decide) rfl ?_ | refine x_iinc (v := _ + 1) (lv' := [(1, _), (2, _), (0, _)]) dX6_round_53 rfl rfl (by decide) rfl ?_
          first | refine x_inc1N (lv' := [(2, _), (1, _), (0, _)]) dX6_round_56 rfl (by decide) rfl ?_ | refine x_iinc (v := _ + 1) (lv' := [(2, _), (1, _), (0, _)]) dX6_round_56 rfl rfl (by decide) rfl ?_
          refine x_goto (tgt := 15) dX6_round_59 (by decide) ?_
          first
          | (rw [show q + cntU (fun g => (shrC P r g).isSome && !(shrC P r g == some g)) (k + 1) i = q + cntU (fun g => (shrC P r g).isSome && !(shrC P r g == some g)) k (i + 1) from by rw [cntU, if_neg (by rw [hno]; simp)]; omega]; exact ih (i + 1) q (by omega) (by omega))
          | (rw [show q + cntU (fun g => (shrC P r g).isSome && !(shrC P r g == some g)) (k + 1) i = q + cntU (fun g => (shrC P r g).isSome && !(shrC P r g == some g)) k (i + 1) from by rw [cntU, if_neg (by rw [hsg]; simp)]; omega]; exact ih (i + 1) q (by omega) (by omega))
          | (rw [show q + cntU (fun g => (shrC P r g).isSome && !(shrC P r g == some g)) (k + 1) i = (q + 1) + cntU (fun g => (shrC P r g).isSome && !(shrC P r g == some g)) k (i + 1) from by rw [cntU, if_pos (by rw [hso]; simp; exact hne)]; omega]; exact ih (i + 1) (q + 1) (by omega) (by omega))

set_option maxHeartbeats 1000000 in
set_option maxRecDepth 20000 in
theorem cX_round {B : sB} {S : sSt} {T : Nat × (Nat → Nat)} {P : aP} {r : aR} {acts kept : List aR} {f : aF} (hx : shX B) (hX : RX S (T, P, r, acts, kept, f)) : CS B yX6_round cX6_round 3 (some .int) 14 [.ref (s_ad B 0)] S (qO S (o_round (T, P, r, acts, kept, f))) := by
  refine cs_intro (lv := [(0, .ref (s_ad B 0))]) rfl ?_
  obtain ⟨h0, hT0, hD, hL, hN, hTr, hLa, hPa, hKp, hSi, hSh, hK0, hK1⟩ := id hx
  have hTT := hT0.1
  have hDD := hD.1
  have hLL := hL.1
  have hL1 := hL.2.1
  have hL2 := hL.2.2.1
  have hL3 := hL.2.2.2
  have hNN := hN.1
  have hN1 := hN.2.1
  have hN2 := hN.2.2.1
  have hN3 := hN.2.2.2.1
  have hN4 := hN.2.2.2.2.1
  have hN5 := hN.2.2.2.2.2
  have hRR := hTr.1
  have hR4 := hTr.2.2.2.2.1
  have hVV := hLa.1
  have hAA := hPa.1
  have hSS := hSi.1
  have hHH := hSh.1
  have hH3 := hSh.2.2.2
  obtain ⟨xT, xP, xB, xA, xE, xF⟩ := id hX
  have xT : rT S 1 T.2 T.1 := xT
  have xP : rP S 8 P := xP
  have xB : rB S 12 r := xB
  have xA : rA S 30 acts := xA
  have xE : rE S kept := xE
  have xF : rF S 81 f := xF
  have hn9 : P.1 ≤ 9 := xP.1
  refine x_aload_n dX6_round_0 rfl rfl ?_
  refine gX6_62 dX6_round_1 rfl (by assumption) rfl ?_
  refine x_aload_n dX6_round_4 rfl rfl ?_
  refine gX6_31 dX6_round_5 rfl (by assumption) rfl ?_
  refine kX6_207r dX6_round_8 rfl (by assumption) (c_settle hSh hN hL xP xB (by omega) (by omega)) (by decide) (Nat.le_of_ble_eq_true rfl) (fun S1 hq => ?_)
  obtain ⟨-, q1, q2, q3⟩ := hq
  obtain ⟨hX1, hf1⟩ := RX_shr hX q3
  refine x_iconst (v := 0) dX6_round_11 (by decide) ?_
  refine x_istore_n (lv' := [(1, _), (0, _)]) dX6_round_12 rfl (by decide) rfl ?_
  refine x_iconst (v := 0) dX6_round_13 (by decide) ?_
  refine x_istore_n (lv' := [(2, _), (1, _), (0, _)]) dX6_round_14 rfl (by decide) rfl ?_
  refine x_post (fun v S2 hq => ?_) (l_round (P := P) (r := r) hx hX1.2.1 q2 P.1 0 0 (by omega) (Nat.le_refl 0))
  obtain ⟨p1, rfl⟩ := hq
  cases p1
  exact qO_of (by rw [o_round]) (by rw [Nat.zero_add]) hX1 hf1

set_option maxHeartbeats 1000000 in
set_option maxRecDepth 20000 in
theorem cX_seen {B : sB} {S : sSt} {T : Nat × (Nat → Nat)} {P : aP} {r : aR} {acts kept : List aR} {f : aF} (hx : shX B) (hX : RX S (T, P, r, acts, kept, f)) {k l n v : Int32} : CS B yX6_seen cX6_seen 5 (some .int) 3 [.ref (s_ad B 0), .int k, .int l, .int n, .int v] S (qO S (o_seen (T, P, r, acts, kept, f) k l n v)) := by
  refine cs_intro (lv := [(0, .ref (s_ad B 0)), (1, .int k), (2, .int l), (3, .int n), (4, .int v)]) rfl ?_
  obtain ⟨h0, hT0, hD, hL, hN, hTr, hLa, hPa, hKp, hSi, hSh, hK0, hK1⟩ := id hx
  have hTT := hT0.1
  have hDD := hD.1
  have hLL := hL.1
  have hL1 := hL.2.1
  have hL2 := hL.2.2.1
  have hL3 := hL.2.2.2
  have hNN := hN.1
  have hN1 := hN.2.1
  have hN2 := hN.2.2.1
  have hN3 := hN.2.2.2.1
  have hN4 := hN.2.2.2.2.1
  have hN5 := hN.2.2.2.2.2
  have hRR := hTr.1
  have hR4 := hTr.2.2.2.2.1
  have hVV := hLa.1
  have hAA := hPa.1
  have hSS := hSi.1
  have hHH := hSh.1
  have hH3 := hSh.2.2.2
  obtain ⟨xT, xP, xB, xA, xE, xF⟩ := id hX
  have xT : rT S 1 T.2 T.1 := xT
  have xP : rP S 8 P := xP
  have xB : rB S 12 r := xB
  have xA : rA S 30 acts := xA
  have xE : rE S kept := xE
  have xF : rF S 81 f := xF
  have hn9 : P.1 ≤ 9 := xP.1
  refine x_iload_n dX6_seen_0 rfl rfl ?_
  refine x_iconst (v := 0) dX6_seen_1 (by decide) ?_
  refine x_iconst (v := 3) dX6_seen_2 (by decide) ?_
  refine kX6_92 dX6_seen_3 rfl (c_within) (by decide) (Nat.le_of_ble_eq_true rfl) ?_
  refine x_ifeq_b (tgt := 35) dX6_seen_6 (by decide) (fun c_6 => ?_) (fun c_6 => ?_)
  · refine x_iconst (v := (-1)) dX6_seen_35 (by decide) ?_
    refine x_ireturn dX6_seen_36 rfl rfl ?_
    first
    | exact qO_of (by rw [o_seen, if_neg (by simp only [Bool.and_eq_true, wn_iff]; exact fun z => c_6 z.1)]) rfl hX frX_rfl
    | exact qO_of (by rw [o_seen, if_neg (by simp only [Bool.and_eq_true, wn_iff]; exact fun z => c_13 z.2.1)]) rfl hX frX_rfl
    | exact qO_of (by rw [o_seen, if_neg (by simp only [Bool.and_eq_true, wn_iff]; exact fun z => c_20 z.2.2.1)]) rfl hX frX_rfl
    | exact qO_of (by rw [o_seen, if_neg (by simp only [Bool.and_eq_true, wn_iff]; exact fun z => c_32 z.2.2.2)]) rfl hX frX_rfl
  · refine x_iload_n dX6_seen_9 rfl rfl ?_
    refine kX6_138 dX6_seen_10 rfl (c_isLane) (by decide) (Nat.le_of_ble_eq_true rfl) ?_
    refine x_ifeq_b (tgt := 35) dX6_seen_13 (by decide) (fun c_13 => ?_) (fun c_13 => ?_)
    · refine x_iconst (v := (-1)) dX6_seen_35 (by decide) ?_
      refine x_ireturn dX6_seen_36 rfl rfl ?_
      first
      | exact qO_of (by rw [o_seen, if_neg (by simp only [Bool.and_eq_true, wn_iff]; exact fun z => c_6 z.1)]) rfl hX frX_rfl
      | exact qO_of (by rw [o_seen, if_neg (by simp only [Bool.and_eq_true, wn_iff]; exact fun z => c_13 z.2.1)]) rfl hX frX_rfl
      | exact qO_of (by rw [o_seen, if_neg (by simp only [Bool.and_eq_true, wn_iff]; exact fun z => c_20 z.2.2.1)]) rfl hX frX_rfl
      | exact qO_of (by rw [o_seen, if_neg (by simp only [Bool.and_eq_true, wn_iff]; exact fun z => c_32 z.2.2.2)]) rfl hX frX_rfl
    · refine x_iload_n dX6_seen_16 rfl rfl ?_
      refine kX6_164 dX6_seen_17 rfl (c_isKnob) (by decide) (Nat.le_of_ble_eq_true rfl) ?_
      refine x_ifeq_b (tgt := 35) dX6_seen_20 (by decide) (fun c_20 => ?_) (fun c_20 => ?_)
      · refine x_iconst (v := (-1)) dX6_seen_35 (by decide) ?_
        refine x_ireturn dX6_seen_36 rfl rfl ?_
        first
        | exact qO_of (by rw [o_seen, if_neg (by simp only [Bool.and_eq_true, wn_iff]; exact fun z => c_6 z.1)]) rfl hX frX_rfl
        | exact qO_of (by rw [o_seen, if_neg (by simp only [Bool.and_eq_true, wn_iff]; exact fun z => c_13 z.2.1)]) rfl hX frX_rfl
        | exact qO_of (by rw [o_seen, if_neg (by simp only [Bool.and_eq_true, wn_iff]; exact fun z => c_20 z.2.2.1)]) rfl hX frX_rfl
        | exact qO_of (by rw [o_seen, if_neg (by simp only [Bool.and_eq_true, wn_iff]; exact fun z => c_32 z.2.2.2)]) rfl hX frX_rfl
      · refine x_iload dX6_seen_23 rfl ?_
        refine x_iconst (v := 0) dX6_seen_25 (by decide) ?_
        refine x_sipush (v := 999) dX6_seen_26 (by decide) ?_
        refine kX6_92 dX6_seen_29 rfl (c_within) (by decide) (Nat.le_of_ble_eq_true rfl) ?_
        refine x_ifne_b (tgt := 37) dX6_seen_32 (by decide) (fun c_32 => ?_) (fun c_32 => ?_)
        · refine x_aload_n dX6_seen_37 rfl rfl ?_
          refine gX6_55 dX6_seen_38 rfl (by assumption) rfl ?_
          refine x_iload_n dX6_seen_41 rfl rfl ?_
          refine x_iload_n dX6_seen_42 rfl rfl ?_
          refine x_iload_n dX6_seen_43 rfl rfl ?_
          refine x_iload dX6_seen_44 rfl ?_
          refine kX6_216r dX6_seen_46 rfl (by assumption) (c_Sadd hSi xF) (by decide) (Nat.le_of_ble_eq_true rfl) (fun z S1 hq => ?_)
          obtain ⟨q1, q2, q3⟩ := hq
          cases q1
          have hok : (wn k 0 3 && (wn l 0 1 && (wn n 1 9 && wn v 0 999))) = true := by simp only [Bool.and_eq_true, wn_iff]; exact ⟨c_6, c_13, c_20, c_32⟩
          have hX1 : ∀ f1, rF S1 81 f1 → RX S1 (T, P, r, acts, kept, f1) := fun f1 h => ⟨rT_ag (by rw [q3 1 (by omega)]) (q3 2 (by omega)) xT, rP_ag (fun a x y => q3 a (by omega)) xP, rB_fr (fun a x y => q3 a (by omega)) xB, rA_ag (fun a x y => q3 a (by omega)) xA, rE_ag (fun a x y => q3 a (by omega)) (q3 0 (by omega)) xE, h⟩
          refine x_ifeq_b (tgt := 62) dX6_seen_49 (by decide) (fun c_49 => ?_) (fun c_49 => ?_)
          · simp only [if_neg c_49] at q2
            refine x_bipush (v := (-3)) dX6_seen_62 (by decide) ?_
            refine x_ireturn dX6_seen_64 rfl rfl ?_
            first
            | exact qO_of (by rw [o_seen, if_pos hok, if_neg c_49]) rfl (hX1 _ q2) (fun a h => q3 a (by omega))
            | exact qO_of (by rw [o_seen, if_pos hok, if_pos c_49]) (show S1 81 4 = nI (f.1 + 1) from q2.2.1) (hX1 _ q2) (fun a h => q3 a (by omega))
          · simp only [if_pos c_49] at q2
            refine x_aload_n dX6_seen_52 rfl rfl ?_
            refine gX6_55 dX6_seen_53 rfl (by assumption) rfl ?_
            refine gX6_219 dX6_seen_56 rfl (by assumption) rfl ?_
            refine x_goto (tgt := 64) dX6_seen_59 (by decide) ?_
            refine x_ireturn dX6_seen_64 rfl rfl ?_
            first
            | exact qO_of (by rw [o_seen, if_pos hok, if_neg c_49]) rfl (hX1 _ q2) (fun a h => q3 a (by omega))
            | exact qO_of (by rw [o_seen, if_pos hok, if_pos c_49]) (show S1 81 4 = nI (f.1 + 1) from q2.2.1) (hX1 _ q2) (fun a h => q3 a (by omega))
        · refine x_iconst (v := (-1)) dX6_seen_35 (by decide) ?_
          refine x_ireturn dX6_seen_36 rfl rfl ?_
          first
          | exact qO_of (by rw [o_seen, if_neg (by simp only [Bool.and_eq_true, wn_iff]; exact fun z => c_6 z.1)]) rfl hX frX_rfl
          | exact qO_of (by rw [o_seen, if_neg (by simp only [Bool.and_eq_true, wn_iff]; exact fun z => c_13 z.2.1)]) rfl hX frX_rfl
          | exact qO_of (by rw [o_seen, if_neg (by simp only [Bool.and_eq_true, wn_iff]; exact fun z => c_20 z.2.2.1)]) rfl hX frX_rfl
          | exact qO_of (by rw [o_seen, if_neg (by simp only [Bool.and_eq_true, wn_iff]; exact fun z => c_32 z.2.2.2)]) rfl hX frX_rfl

set_option maxHeartbeats 1000000 in
set_option maxRecDepth 20000 in
theorem cX_forget {B : sB} {S : sSt} {T : Nat × (Nat → Nat)} {P : aP} {r : aR} {acts kept : List aR} {f : aF} (hx : shX B) (hX : RX S (T, P, r, acts, kept, f)) : CS B yX6_forget cX6_forget 2 (some .int) 1 [.ref (s_ad B 0)] S (qO S (o_forget (T, P, r, acts, kept, f))) := by
  refine cs_intro (lv := [(0, .ref (s_ad B 0))]) rfl ?_
  obtain ⟨h0, hT0, hD, hL, hN, hTr, hLa, hPa, hKp, hSi, hSh, hK0, hK1⟩ := id hx
  have hTT := hT0.1
  have hDD := hD.1
  have hLL := hL.1
  have hL1 := hL.2.1
  have hL2 := hL.2.2.1
  have hL3 := hL.2.2.2
  have hNN := hN.1
  have hN1 := hN.2.1
  have hN2 := hN.2.2.1
  have hN3 := hN.2.2.2.1
  have hN4 := hN.2.2.2.2.1
  have hN5 := hN.2.2.2.2.2
  have hRR := hTr.1
  have hR4 := hTr.2.2.2.2.1
  have hVV := hLa.1
  have hAA := hPa.1
  have hSS := hSi.1
  have hHH := hSh.1
  have hH3 := hSh.2.2.2
  obtain ⟨xT, xP, xB, xA, xE, xF⟩ := id hX
  have xT : rT S 1 T.2 T.1 := xT
  have xP : rP S 8 P := xP
  have xB : rB S 12 r := xB
  have xA : rA S 30 acts := xA
  have xE : rE S kept := xE
  have xF : rF S 81 f := xF
  have hn9 : P.1 ≤ 9 := xP.1
  refine x_aload_n dX6_forget_0 rfl rfl ?_
  refine gX6_55 dX6_forget_1 rfl (by assumption) rfl ?_
  refine gX6_219 dX6_forget_4 rfl (by assumption) rfl ?_
  refine x_istore_n (lv' := [(1, _), (0, _)]) dX6_forget_7 rfl (by decide) rfl ?_
  refine x_aload_n dX6_forget_8 rfl rfl ?_
  refine gX6_55 dX6_forget_9 rfl (by assumption) rfl ?_
  refine x_iconst (v := 0) dX6_forget_12 (by decide) ?_
  refine pX6_219 dX6_forget_13 rfl (by assumption) rfl ?_
  refine x_iload_n dX6_forget_16 rfl rfl ?_
  refine x_ireturn dX6_forget_17 rfl rfl ?_
  have q3 : ∀ a, a ≠ 81 → s_put S 81 4 0 a = S a := fun a h => s_put_ne h
  refine qO_of (o := o_forget (T, P, r, acts, kept, f)) rfl xF.2.1 ⟨rT_ag (by rw [q3 1 (by omega)]) (q3 2 (by omega)) xT, rP_ag (fun a x y => q3 a (by omega)) xP, rB_fr (fun a x y => q3 a (by omega)) xB, rA_ag (fun a x y => q3 a (by omega)) xA, rE_ag (fun a x y => q3 a (by omega)) (q3 0 (by omega)) xE, ?_⟩ (fun a h => q3 a (by omega))
  exact ⟨Nat.zero_le _, by rw [s_put_eq, if_pos rfl]; rfl, fun i h => absurd h (Nat.not_lt_zero i)⟩

theorem oI_eq9 {o : Option Nat} (h : ∀ g, o = some g → g < 31) : oI o = -4 ↔ o = none := by
  cases o with
  | none => simp [oI]
  | some g =>
    have := h g rfl
    simp only [oI]
    exact ⟨fun q => absurd q (nI_ne4 (by omega)), fun q => by cases q⟩

set_option maxHeartbeats 1000000 in
set_option maxRecDepth 20000 in
theorem l_hot {B : sB} {S : sSt} {T : Nat × (Nat → Nat)} {P : aP} {r : aR} {acts kept : List aR} {f : aF} (hx : shX B) (hX : RX S (T, P, r, acts, kept, f)) (hI : iA (T, P, r, acts, kept, f)) {w : Int32} :
    ∀ (k i q : Nat) (b : Option Nat), i + k = 31 → q ≤ i → (∀ j, b = some j → j < 31) → WS B (fun _ => True) yX6_hot cX6_hot 5 (some .int) 3 19 [(4, .int (nI i)), (3, .int (oI b)), (2, .int (nI q)), (0, .ref (s_ad B 0)), (1, .int w)] [] S (qI (if w = 0 then nI (q + cntU (fun h => fitU f P.2.1 (nI h) f.1 0) k i) else oI (b.or (fndU (fun h => fitU f P.2.1 (nI h) f.1 0) k i))) S) := by
  obtain ⟨h0, hT0, hD, hL, hN, hTr, hLa, hPa, hKp, hSi, hSh, hK0, hK1⟩ := id hx
  have hTT := hT0.1
  have hDD := hD.1
  have hLL := hL.1
  have hL1 := hL.2.1
  have hL2 := hL.2.2.1
  have hL3 := hL.2.2.2
  have hNN := hN.1
  have hN1 := hN.2.1
  have hN2 := hN.2.2.1
  have hN3 := hN.2.2.2.1
  have hN4 := hN.2.2.2.2.1
  have hN5 := hN.2.2.2.2.2
  have hRR := hTr.1
  have hR4 := hTr.2.2.2.2.1
  have hVV := hLa.1
  have hAA := hPa.1
  have hSS := hSi.1
  have hHH := hSh.1
  have hH3 := hSh.2.2.2
  obtain ⟨xT, xP, xB, xA, xE, xF⟩ := id hX
  have xT : rT S 1 T.2 T.1 := xT
  have xP : rP S 8 P := xP
  have xB : rB S 12 r := xB
  have xA : rA S 30 acts := xA
  have xE : rE S kept := xE
  have xF : rF S 81 f := xF
  have hn9 : P.1 ≤ 9 := xP.1
  obtain ⟨jP, jR, jA, jE, jF⟩ := id hI
  have jP : iP P := jP
  have jR : iR P r := jR
  have jF : iF f := jF
  have hn1 : 1 ≤ P.1 := jP.1
  intro k
  induction k with
  | zero =>
    intro i q b hi hq hb
    refine x_iload dX6_hot_19 rfl ?_
    refine x_bipush (v := 30) dX6_hot_21 (by decide) ?_
    refine x_icmp_gt (tgt := 67) dX6_hot_23 (by decide) (fun c_23 => ?_) (fun c_23 => ?_)
    · refine x_iload_n dX6_hot_67 rfl rfl ?_
      refine x_if_ne (tgt := 75) dX6_hot_68 (by decide) (fun c_68 => ?_) (fun c_68 => ?_)
      · refine x_iload_n dX6_hot_75 rfl rfl ?_
        refine x_ireturn dX6_hot_76 rfl rfl ?_
        first
        | exact qI_of (by rw [if_neg c_68]; cases b <;> rfl) rfl
        | exact qI_of (by rw [if_pos c_68]; rfl) rfl
      · refine x_iload_n dX6_hot_71 rfl rfl ?_
        refine x_goto (tgt := 76) dX6_hot_72 (by decide) ?_
        refine x_ireturn dX6_hot_76 rfl rfl ?_
        first
        | exact qI_of (by rw [if_neg c_68]; cases b <;> rfl) rfl
        | exact qI_of (by rw [if_pos c_68]; rfl) rfl
    · exact absurd (show (30 : Int32) < nI i from nI_lt (a := 30) (by omega) (by omega)) c_23
  | succ k ih =>
    intro i q b hi hq hb
    refine x_iload dX6_hot_19 rfl ?_
    refine x_bipush (v := 30) dX6_hot_21 (by decide) ?_
    refine x_icmp_gt (tgt := 67) dX6_hot_23 (by decide) (fun c_23 => ?_) (fun c_23 => ?_)
    · exact absurd c_23 (nI_nlt (a := 30) (by omega) (by omega))
    · refine x_aload_n dX6_hot_26 rfl rfl ?_
      refine gX6_55 dX6_hot_27 rfl (by assumption) rfl ?_
      refine x_iload dX6_hot_30 rfl ?_
      refine x_aload_n dX6_hot_32 rfl rfl ?_
      refine gX6_23 dX6_hot_33 rfl (by assumption) rfl ?_
      refine gX6_182 dX6_hot_36 rfl (by assumption) rfl ?_
      rw [xP.2.2.1]
      refine kX6_220 dX6_hot_39 rfl (by assumption) (c_fit hSi xF jF (by rw [nI_toInt (by omega)]; omega)) (by decide) (Nat.le_of_ble_eq_true rfl) ?_
      refine x_ifeq_b (tgt := 61) dX6_hot_42 (by decide) (fun c_42 => ?_) (fun c_42 => ?_)
      · first | refine x_inc1N (lv' := [(4, _), (3, _), (2, _), (0, _), (1, _)]) dX6_hot_61 rfl (by decide) rfl ?_ | refine x_iinc (v := _ + 1) (lv' := [(4, _), (3, _), (2, _), (0, _), (1, _)]) dX6_hot_61 rfl rfl (by decide) rfl ?_
        refine x_goto (tgt := 19) dX6_hot_64 (by decide) ?_
        refine x_wk [0, 1, 2, 3, 4] rfl ?_
        first
        | (rw [cntU, fndU, if_neg c_42, if_neg c_42, Nat.zero_add]; exact ih (i + 1) q b (by omega) (by omega) hb)
        | (have hb4 : b = none := (oI_eq9 hb).mp c_51
           subst hb4
           rw [cntU, fndU, if_pos c_42, if_pos c_42, show q + (1 + cntU (fun h => fitU f P.2.1 (nI h) f.1 0) k (i + 1)) = (q + 1) + cntU (fun h => fitU f P.2.1 (nI h) f.1 0) k (i + 1) by omega]
           exact ih (i + 1) (q + 1) (some i) (by omega) (by omega) (fun j h => by cases h; omega))
        | (obtain ⟨j, rfl⟩ : ∃ j, b = some j := by
             cases b with
             | none => exact absurd rfl c_51
             | some j => exact ⟨j, rfl⟩
           rw [cntU, fndU, if_pos c_42, if_pos c_42, show q + (1 + cntU (fun h => fitU f P.2.1 (nI h) f.1 0) k (i + 1)) = (q + 1) + cntU (fun h => fitU f P.2.1 (nI h) f.1 0) k (i + 1) by omega]
           exact ih (i + 1) (q + 1) (some j) (by omega) (by omega) hb)
      · first | refine x_inc1N (lv' := [(2, _), (4, _), (3, _), (0, _), (1, _)]) dX6_hot_45 rfl (by decide) rfl ?_ | refine x_iinc (v := _ + 1) (lv' := [(2, _), (4, _), (3, _), (0, _), (1, _)]) dX6_hot_45 rfl rfl (by decide) rfl ?_
        refine x_iload_n dX6_hot_48 rfl rfl ?_
        refine x_bipush (v := (-4)) dX6_hot_49 (by decide) ?_
        refine x_icmp_ne (tgt := 59) dX6_hot_51 (by decide) (fun c_51 => ?_) (fun c_51 => ?_)
        · refine x_iload_n dX6_hot_59 rfl rfl ?_
          refine x_istore_n (lv' := [(3, _), (2, _), (4, _), (0, _), (1, _)]) dX6_hot_60 rfl (by decide) rfl ?_
          first | refine x_inc1N (lv' := [(4, _), (3, _), (2, _), (0, _), (1, _)]) dX6_hot_61 rfl (by decide) rfl ?_ | refine x_iinc (v := _ + 1) (lv' := [(4, _), (3, _), (2, _), (0, _), (1, _)]) dX6_hot_61 rfl rfl (by decide) rfl ?_
          refine x_goto (tgt := 19) dX6_hot_64 (by decide) ?_
          refine x_wk [0, 1, 2, 3, 4] rfl ?_
          first
          | (rw [cntU, fndU, if_neg c_42, if_neg c_42, Nat.zero_add]; exact ih (i + 1) q b (by omega) (by omega) hb)
          | (have hb4 : b = none := (oI_eq9 hb).mp c_51
             subst hb4
             rw [cntU, fndU, if_pos c_42, if_pos c_42, show q + (1 + cntU (fun h => fitU f P.2.1 (nI h) f.1 0) k (i + 1)) = (q + 1) + cntU (fun h => fitU f P.2.1 (nI h) f.1 0) k (i + 1) by omega]
             exact ih (i + 1) (q + 1) (some i) (by omega) (by omega) (fun j h => by cases h; omega))
          | (obtain ⟨j, rfl⟩ : ∃ j, b = some j := by
               cases b with
               | none => exact absurd rfl c_51
               | some j => exact ⟨j, rfl⟩
             rw [cntU, fndU, if_pos c_42, if_pos c_42, show q + (1 + cntU (fun h => fitU f P.2.1 (nI h) f.1 0) k (i + 1)) = (q + 1) + cntU (fun h => fitU f P.2.1 (nI h) f.1 0) k (i + 1) by omega]
             exact ih (i + 1) (q + 1) (some j) (by omega) (by omega) hb)
        · refine x_iload dX6_hot_54 rfl ?_
          refine x_goto (tgt := 60) dX6_hot_56 (by decide) ?_
          refine x_istore_n (lv' := [(3, _), (2, _), (4, _), (0, _), (1, _)]) dX6_hot_60 rfl (by decide) rfl ?_
          first | refine x_inc1N (lv' := [(4, _), (3, _), (2, _), (0, _), (1, _)]) dX6_hot_61 rfl (by decide) rfl ?_ | refine x_iinc (v := _ + 1) (lv' := [(4, _), (3, _), (2, _), (0, _), (1, _)]) dX6_hot_61 rfl rfl (by decide) rfl ?_
          refine x_goto (tgt := 19) dX6_hot_64 (by decide) ?_
          refine x_wk [0, 1, 2, 3, 4] rfl ?_
          first
          | (rw [cntU, fndU, if_neg c_42, if_neg c_42, Nat.zero_add]; exact ih (i + 1) q b (by omega) (by omega) hb)
          | (have hb4 : b = none := (oI_eq9 hb).mp c_51
             subst hb4
             rw [cntU, fndU, if_pos c_42, if_pos c_42, show q + (1 + cntU (fun h => fitU f P.2.1 (nI h) f.1 0) k (i + 1)) = (q + 1) + cntU (fun h => fitU f P.2.1 (nI h) f.1 0) k (i + 1) by omega]
             exact ih (i + 1) (q + 1) (some i) (by omega) (by omega) (fun j h => by cases h; omega))
          | (obtain ⟨j, rfl⟩ : ∃ j, b = some j := by
               cases b with
               | none => exact absurd rfl c_51
               | some j => exact ⟨j, rfl⟩
             rw [cntU, fndU, if_pos c_42, if_pos c_42, show q + (1 + cntU (fun h => fitU f P.2.1 (nI h) f.1 0) k (i + 1)) = (q + 1) + cntU (fun h => fitU f P.2.1 (nI h) f.1 0) k (i + 1) by omega]
             exact ih (i + 1) (q + 1) (some j) (by omega) (by omega) hb)

set_option maxHeartbeats 1000000 in
set_option maxRecDepth 20000 in
theorem cX_hot {B : sB} {S : sSt} {T : Nat × (Nat → Nat)} {P : aP} {r : aR} {acts kept : List aR} {f : aF} (hx : shX B) (hX : RX S (T, P, r, acts, kept, f)) (hI : iA (T, P, r, acts, kept, f)) {w : Int32} : CS B yX6_hot cX6_hot 5 (some .int) 3 [.ref (s_ad B 0), .int w] S (qO S (o_hot (T, P, r, acts, kept, f) w)) := by
  refine cs_intro (lv := [(0, .ref (s_ad B 0)), (1, .int w)]) rfl ?_
  obtain ⟨h0, hT0, hD, hL, hN, hTr, hLa, hPa, hKp, hSi, hSh, hK0, hK1⟩ := id hx
  have hTT := hT0.1
  have hDD := hD.1
  have hLL := hL.1
  have hL1 := hL.2.1
  have hL2 := hL.2.2.1
  have hL3 := hL.2.2.2
  have hNN := hN.1
  have hN1 := hN.2.1
  have hN2 := hN.2.2.1
  have hN3 := hN.2.2.2.1
  have hN4 := hN.2.2.2.2.1
  have hN5 := hN.2.2.2.2.2
  have hRR := hTr.1
  have hR4 := hTr.2.2.2.2.1
  have hVV := hLa.1
  have hAA := hPa.1
  have hSS := hSi.1
  have hHH := hSh.1
  have hH3 := hSh.2.2.2
  obtain ⟨xT, xP, xB, xA, xE, xF⟩ := id hX
  have xT : rT S 1 T.2 T.1 := xT
  have xP : rP S 8 P := xP
  have xB : rB S 12 r := xB
  have xA : rA S 30 acts := xA
  have xE : rE S kept := xE
  have xF : rF S 81 f := xF
  have hn9 : P.1 ≤ 9 := xP.1
  obtain ⟨jP, jR, jA, jE, jF⟩ := id hI
  have jP : iP P := jP
  have jR : iR P r := jR
  have jF : iF f := jF
  have hn1 : 1 ≤ P.1 := jP.1
  refine x_iload_n dX6_hot_0 rfl rfl ?_
  refine x_iconst (v := 0) dX6_hot_1 (by decide) ?_
  refine x_iconst (v := 1) dX6_hot_2 (by decide) ?_
  refine kX6_92 dX6_hot_3 rfl (c_within) (by decide) (Nat.le_of_ble_eq_true rfl) ?_
  refine x_ifne_b (tgt := 11) dX6_hot_6 (by decide) (fun c_6 => ?_) (fun c_6 => ?_)
  · refine x_iconst (v := 0) dX6_hot_11 (by decide) ?_
    refine x_istore_n (lv' := [(2, _), (0, _), (1, _)]) dX6_hot_12 rfl (by decide) rfl ?_
    refine x_bipush (v := (-4)) dX6_hot_13 (by decide) ?_
    refine x_istore_n (lv' := [(3, _), (2, _), (0, _), (1, _)]) dX6_hot_15 rfl (by decide) rfl ?_
    refine x_iconst (v := 0) dX6_hot_16 (by decide) ?_
    refine x_istore (lv' := [(4, _), (3, _), (2, _), (0, _), (1, _)]) dX6_hot_17 (by decide) rfl ?_
    refine x_post (fun v S2 hq => ?_) (l_hot hx hX hI (w := w) 31 0 0 none (by omega) (Nat.le_refl 0) (fun j h => by cases h))
    obtain ⟨p1, rfl⟩ := hq
    cases p1
    exact qO_of (by rw [o_hot, if_pos (wn_iff.mpr c_6)]) (by rw [Nat.zero_add]; rfl) hX frX_rfl
  · refine x_iconst (v := (-1)) dX6_hot_9 (by decide) ?_
    refine x_ireturn dX6_hot_10 rfl rfl ?_
    exact qO_of (by rw [o_hot, if_neg (fun h => c_6 (wn_iff.mp h))]) rfl hX frX_rfl
