set_option maxHeartbeats 1000000 in
set_option maxRecDepth 20000 in
theorem c_isGuest {B : sB} {S : sSt} {T : Nat × (Nat → Nat)} {P : aP} {r : aR} {acts kept : List aR} {f : aF} (hx : shX B) (hX : RX S (T, P, r, acts, kept, f)) (hn1 : 1 ≤ P.1) {x : Int32} : CS B yX6_isGuest cX6_isGuest 2 (some .boolean) 2 [.ref (s_ad B 0), .int x] S (qI (bI (gok P x = true)) S) := by
  refine cs_intro (lv := [(0, .ref (s_ad B 0)), (1, .int x)]) rfl ?_
  obtain ⟨h0, hT0, hD, hL, hN, hTr, hLa, hPa, hKp, hSi, hSh, hK0, hK1⟩ := id hx
  have hTT := hT0.1
  have hDD := hD.1
  have hLL := hL.1
  have hL1 := hL.2.1
  have hL2 := hL.2.2.1
  have hL3 := hL.2.2.2
  have hNN := hN.1
  have hN1 := hN.2.1
  have hN2 := hN.2.2.1
  have hN3 := hN.2.2.2.1
  have hN4 := hN.2.2.2.2.1
  have hN5 := hN.2.2.2.2.2
  have hRR := hTr.1
  have hR4 := hTr.2.2.2.2.1
  have hVV := hLa.1
  have hAA := hPa.1
  have hSS := hSi.1
  have hHH := hSh.1
  have hH3 := hSh.2.2.2
  obtain ⟨xT, xP, xB, xA, xE, xF⟩ := id hX
  have xT : rT S 1 T.2 T.1 := xT
  have xP : rP S 8 P := xP
  have xB : rB S 12 r := xB
  have xA : rA S 30 acts := xA
  have xE : rE S kept := xE
  have xF : rF S 81 f := xF
  have hn9 : P.1 ≤ 9 := xP.1
  refine x_iload_n dX6_isGuest_0 rfl rfl ?_
  refine x_iconst (v := 0) dX6_isGuest_1 (by decide) ?_
  refine x_aload_n dX6_isGuest_2 rfl rfl ?_
  refine gX6_23 dX6_isGuest_3 rfl (by assumption) rfl ?_
  refine gX6_97 dX6_isGuest_6 rfl (by assumption) rfl ?_
  refine x_iconst (v := 1) dX6_isGuest_9 (by decide) ?_
  refine x_isub dX6_isGuest_10 ?_
  refine x_re (b := nI (P.1 - 1)) (by rw [show S 8 4 = nI (P.1 - 1 + 1) from by rw [show P.1 - 1 + 1 = P.1 by omega]; exact xP.2.1]; exact nI_pred _) ?_
  refine kX6_92 dX6_isGuest_11 rfl (c_within) (by decide) (Nat.le_of_ble_eq_true rfl) ?_
  refine x_ireturn dX6_isGuest_14 rfl (by first | rfl | exact bI_nar _) ?_
  refine qI_of (bI_congr ?_) rfl
  have e0 : (0 : Int32).toInt = 0 := by decide
  rw [gok, Bool.and_eq_true, decide_eq_true_eq, decide_eq_true_eq, Int32.le_iff_toInt_le, Int32.le_iff_toInt_le, nI_toInt (by omega), e0]
  omega

theorem i2c_of {x : Int32} (h : wn x 32 126 = true) : x.toNatClampNeg ≤ 126 ∧ (x.toUInt32 % 65536).toInt32 = nI x.toNatClampNeg := by
  rw [wn_iff] at h
  obtain ⟨h1, h2⟩ := h
  rw [Int32.le_iff_toInt_le] at h1 h2
  have e1 : (32 : Int32).toInt = 32 := by decide
  have e2 : (126 : Int32).toInt = 126 := by decide
  obtain ⟨j, hj, rfl⟩ := nI_of3 (x := x) (n := 126) (by omega) (by omega) (by decide)
  rw [nI_clamp (by omega)]
  have key : ∀ j : Nat, j ≤ 126 → ((nI j).toUInt32 % 65536).toInt32 = nI j := by decide
  exact ⟨hj, key j hj⟩

set_option maxHeartbeats 1000000 in
set_option maxRecDepth 20000 in
theorem cX_write {B : sB} {S : sSt} {L : Nat} {t : Nat → Nat} {P : aP} {r : aR} {acts kept : List aR} {f : aF} (hx : shX B) (hX : RX S ((L, t), P, r, acts, kept, f)) {x : Int32} : CS B yX6_write cX6_write 2 (some .int) 3 [.ref (s_ad B 0), .int x] S (qO S (o_write ((L, t), P, r, acts, kept, f) x)) := by
  refine cs_intro (lv := [(0, .ref (s_ad B 0)), (1, .int x)]) rfl ?_
  obtain ⟨h0, hT0, hD, hL, hN, hTr, hLa, hPa, hKp, hSi, hSh, hK0, hK1⟩ := id hx
  have hTT := hT0.1
  have hDD := hD.1
  have hLL := hL.1
  have hL1 := hL.2.1
  have hL2 := hL.2.2.1
  have hL3 := hL.2.2.2
  have hNN := hN.1
  have hN1 := hN.2.1
  have hN2 := hN.2.2.1
  have hN3 := hN.2.2.2.1
  have hN4 := hN.2.2.2.2.1
  have hN5 := hN.2.2.2.2.2
  have hRR := hTr.1
  have hR4 := hTr.2.2.2.2.1
  have hVV := hLa.1
  have hAA := hPa.1
  have hSS := hSi.1
  have hHH := hSh.1
  have hH3 := hSh.2.2.2
  obtain ⟨xT, xP, xB, xA, xE, xF⟩ := id hX
  have xT : rT S 1 t L := xT
  have xP : rP S 8 P := xP
  have xB : rB S 12 r := xB
  have xA : rA S 30 acts := xA
  have xE : rE S kept := xE
  have xF : rF S 81 f := xF
  have hn9 : P.1 ≤ 9 := xP.1
  refine x_iload_n dX6_write_0 rfl rfl ?_
  refine x_bipush (v := 32) dX6_write_1 (by decide) ?_
  refine x_bipush (v := 126) dX6_write_3 (by decide) ?_
  refine kX6_92 dX6_write_5 rfl (c_within) (by decide) (Nat.le_of_ble_eq_true rfl) ?_
  refine x_ifne_b (tgt := 13) dX6_write_8 (by decide) (fun c_8 => ?_) (fun c_8 => ?_)
  · have hw : wn x 32 126 = true := wn_iff.mpr c_8
    obtain ⟨hc1, hc2⟩ := i2c_of hw
    refine x_aload_n dX6_write_13 rfl rfl ?_
    refine gX6_10 dX6_write_14 rfl (by assumption) rfl ?_
    refine x_iload_n dX6_write_17 rfl rfl ?_
    refine x_i2c dX6_write_18 ?_
    refine x_re hc2 ?_
    refine kX6_78r dX6_write_19 rfl (by assumption) (c_add hT0 xT hc1) (by decide) (Nat.le_of_ble_eq_true rfl) (fun z S1 hq => ?_)
    obtain ⟨q1, q2, q3⟩ := hq
    cases q1
    refine x_ifeq_b (tgt := 35) dX6_write_22 (by decide) (fun c_22 => ?_) (fun c_22 => ?_)
    · simp only [if_neg c_22] at q2
      refine x_bipush (v := (-3)) dX6_write_35 (by decide) ?_
      refine x_ireturn dX6_write_37 rfl rfl ?_
      have hX1 : ∀ (L1 : Nat) (t1 : Nat → Nat), rT S1 1 t1 L1 → RX S1 ((L1, t1), P, r, acts, kept, f) := fun L1 t1 h => ⟨h, rP_ag (fun a x y => q3 a (by omega) (by omega)) xP, rB_fr (fun a x y => q3 a (by omega) (by omega)) xB, rA_ag (fun a x y => q3 a (by omega) (by omega)) xA, rE_ag (fun a x y => q3 a (by omega) (by omega)) (q3 0 (by omega) (by omega)) xE, rF_ag (fun a x y => q3 a (by omega) (by omega)) xF⟩
      first
      | exact qO_of (by rw [o_write, if_pos hw, if_neg c_22]) rfl (hX1 _ _ q2) (fun a h => q3 a (by omega) (by omega))
      | exact qO_of (by rw [o_write, if_pos hw, if_pos c_22]) rfl (hX1 _ _ q2) (fun a h => q3 a (by omega) (by omega))
    · simp only [if_pos c_22] at q2
      refine x_aload_n dX6_write_25 rfl rfl ?_
      refine gX6_10 dX6_write_26 rfl (by assumption) rfl ?_
      refine kX6_96 dX6_write_29 rfl (by assumption) (c_length hT0 q2) (by decide) (Nat.le_of_ble_eq_true rfl) ?_
      refine x_goto (tgt := 37) dX6_write_32 (by decide) ?_
      refine x_ireturn dX6_write_37 rfl rfl ?_
      have hX1 : ∀ (L1 : Nat) (t1 : Nat → Nat), rT S1 1 t1 L1 → RX S1 ((L1, t1), P, r, acts, kept, f) := fun L1 t1 h => ⟨h, rP_ag (fun a x y => q3 a (by omega) (by omega)) xP, rB_fr (fun a x y => q3 a (by omega) (by omega)) xB, rA_ag (fun a x y => q3 a (by omega) (by omega)) xA, rE_ag (fun a x y => q3 a (by omega) (by omega)) (q3 0 (by omega) (by omega)) xE, rF_ag (fun a x y => q3 a (by omega) (by omega)) xF⟩
      first
      | exact qO_of (by rw [o_write, if_pos hw, if_neg c_22]) rfl (hX1 _ _ q2) (fun a h => q3 a (by omega) (by omega))
      | exact qO_of (by rw [o_write, if_pos hw, if_pos c_22]) rfl (hX1 _ _ q2) (fun a h => q3 a (by omega) (by omega))
  · have hw : ¬ wn x 32 126 = true := fun h => c_8 (wn_iff.mp h)
    refine x_iconst (v := (-1)) dX6_write_11 (by decide) ?_
    refine x_ireturn dX6_write_12 rfl rfl ?_
    exact qO_of (by rw [o_write, if_neg hw]) rfl hX frX_rfl

set_option maxHeartbeats 1000000 in
set_option maxRecDepth 20000 in
theorem cX_wipe {B : sB} {S : sSt} {L : Nat} {t : Nat → Nat} {P : aP} {r : aR} {acts kept : List aR} {f : aF} (hx : shX B) (hX : RX S ((L, t), P, r, acts, kept, f)) : CS B yX6_wipe cX6_wipe 2 (some .int) 2 [.ref (s_ad B 0)] S (qO S (o_wipe ((L, t), P, r, acts, kept, f))) := by
  refine cs_intro (lv := [(0, .ref (s_ad B 0))]) rfl ?_
  obtain ⟨h0, hT0, hD, hL, hN, hTr, hLa, hPa, hKp, hSi, hSh, hK0, hK1⟩ := id hx
  have hTT := hT0.1
  have hDD := hD.1
  have hLL := hL.1
  have hL1 := hL.2.1
  have hL2 := hL.2.2.1
  have hL3 := hL.2.2.2
  have hNN := hN.1
  have hN1 := hN.2.1
  have hN2 := hN.2.2.1
  have hN3 := hN.2.2.2.1
  have hN4 := hN.2.2.2.2.1
  have hN5 := hN.2.2.2.2.2
  have hRR := hTr.1
  have hR4 := hTr.2.2.2.2.1
  have hVV := hLa.1
  have hAA := hPa.1
  have hSS := hSi.1
  have hHH := hSh.1
  have hH3 := hSh.2.2.2
  obtain ⟨xT, xP, xB, xA, xE, xF⟩ := id hX
  have xT : rT S 1 t L := xT
  have xP : rP S 8 P := xP
  have xB : rB S 12 r := xB
  have xA : rA S 30 acts := xA
  have xE : rE S kept := xE
  have xF : rF S 81 f := xF
  have hn9 : P.1 ≤ 9 := xP.1
  refine x_aload_n dX6_wipe_0 rfl rfl ?_
  refine gX6_10 dX6_wipe_1 rfl (by assumption) rfl ?_
  refine kX6_96 dX6_wipe_4 rfl (by assumption) (c_length hT0 xT) (by decide) (Nat.le_of_ble_eq_true rfl) ?_
  refine x_istore_n (lv' := [(1, _), (0, _)]) dX6_wipe_7 rfl (by decide) rfl ?_
  refine x_aload_n dX6_wipe_8 rfl rfl ?_
  refine gX6_10 dX6_wipe_9 rfl (by assumption) rfl ?_
  refine kX6_89r dX6_wipe_12 rfl (by assumption) (c_clear hT0 xT) (by decide) (Nat.le_of_ble_eq_true rfl) (fun S1 hq => ?_)
  obtain ⟨-, q2, q3⟩ := hq
  refine x_iload_n dX6_wipe_15 rfl rfl ?_
  refine x_ireturn dX6_wipe_16 rfl rfl ?_
  exact qO_of (o := o_wipe ((L, t), P, r, acts, kept, f)) rfl rfl ⟨q2, rP_ag (fun a x y => q3 a (by omega)) xP, rB_fr (fun a x y => q3 a (by omega)) xB, rA_ag (fun a x y => q3 a (by omega)) xA, rE_ag (fun a x y => q3 a (by omega)) (q3 0 (by omega)) xE, rF_ag (fun a x y => q3 a (by omega)) xF⟩ (fun a h => q3 a (by omega))

theorem RX_frR {S S1 : sSt} {A : aA} (hX : RX S A) (h : frR S S1 1 4) : RX S1 A ∧ frX S S1 := by
  refine ⟨RX_scr hX (fun a h1 h2 => h.1 a ?_ ?_ ?_) h.2, fun a ha => h.1 a (by omega) (by omega) (by omega)⟩
  all_goals (unfold scr at h2; omega)

set_option maxHeartbeats 1000000 in
set_option maxRecDepth 20000 in
theorem cX_fault {B : sB} {S : sSt} {L : Nat} {t : Nat → Nat} {P : aP} {r : aR} {acts kept : List aR} {f : aF} (hx : shX B) (hX : RX S ((L, t), P, r, acts, kept, f)) : CS B yX6_fault cX6_fault 1 (some .int) 7 [.ref (s_ad B 0)] S (qO S (o_fault ((L, t), P, r, acts, kept, f))) := by
  refine cs_intro (lv := [(0, .ref (s_ad B 0))]) rfl ?_
  obtain ⟨h0, hT0, hD, hL, hN, hTr, hLa, hPa, hKp, hSi, hSh, hK0, hK1⟩ := id hx
  have hTT := hT0.1
  have hDD := hD.1
  have hLL := hL.1
  have hL1 := hL.2.1
  have hL2 := hL.2.2.1
  have hL3 := hL.2.2.2
  have hNN := hN.1
  have hN1 := hN.2.1
  have hN2 := hN.2.2.1
  have hN3 := hN.2.2.2.1
  have hN4 := hN.2.2.2.2.1
  have hN5 := hN.2.2.2.2.2
  have hRR := hTr.1
  have hR4 := hTr.2.2.2.2.1
  have hVV := hLa.1
  have hAA := hPa.1
  have hSS := hSi.1
  have hHH := hSh.1
  have hH3 := hSh.2.2.2
  obtain ⟨xT, xP, xB, xA, xE, xF⟩ := id hX
  have xT : rT S 1 t L := xT
  have xP : rP S 8 P := xP
  have xB : rB S 12 r := xB
  have xA : rA S 30 acts := xA
  have xE : rE S kept := xE
  have xF : rF S 81 f := xF
  have hn9 : P.1 ≤ 9 := xP.1
  refine x_aload_n dX6_fault_0 rfl rfl ?_
  refine gX6_10 dX6_fault_1 rfl (by assumption) rfl ?_
  refine x_aload_n dX6_fault_4 rfl rfl ?_
  refine gX6_19 dX6_fault_5 rfl (by assumption) rfl ?_
  refine kX6_82r dX6_fault_8 rfl (by assumption) (c_readInto hT0 hD (by omega) xT) (by decide) (Nat.le_of_ble_eq_true rfl) (fun z S1 hq => ?_)
  obtain ⟨q1, q2, q3⟩ := hq
  cases q1
  obtain ⟨hX1, hf1⟩ := RX_frR hX q2
  refine x_ireturn dX6_fault_11 rfl rfl ?_
  exact qO_of (o := o_fault ((L, t), P, r, acts, kept, f)) rfl rfl hX1 hf1

theorem rP_D {S : sSt} {pl : Nat} {d : aD} (h : rD S pl d) : rP S pl (planD d) := ⟨h.1, h.2.1, h.2.2.1, h.2.2.2.2.2.1, h.2.2.2.2.2.2⟩

set_option maxHeartbeats 1000000 in
set_option maxRecDepth 20000 in
theorem c_startAnew {B : sB} {S : sSt} {T : Nat × (Nat → Nat)} {d : aD} {acts : List aR} (hx : shX B) (xT : rT S 1 T.2 T.1) (xA : rA S 30 acts) (hd : rD S 4 d) : CS B yX6_startAnew cX6_startAnew 1 none 3 [.ref (s_ad B 0)] S (fun v S1 => v = none ∧ RX S1 (T, planD d, bgnF d.2.2.1 d.2.2.2.1, [], [], f0) ∧ frX S S1) := by
  refine cs_intro (lv := [(0, .ref (s_ad B 0))]) rfl ?_
  obtain ⟨h0, hT0, hD, hL, hN, hTr, hLa, hPa, hKp, hSi, hSh, hK0, hK1⟩ := id hx
  have hTT := hT0.1
  have hDD := hD.1
  have hLL := hL.1
  have hL1 := hL.2.1
  have hL2 := hL.2.2.1
  have hL3 := hL.2.2.2
  have hNN := hN.1
  have hN1 := hN.2.1
  have hN2 := hN.2.2.1
  have hN3 := hN.2.2.2.1
  have hN4 := hN.2.2.2.2.1
  have hN5 := hN.2.2.2.2.2
  have hRR := hTr.1
  have hR4 := hTr.2.2.2.2.1
  have hVV := hLa.1
  have hAA := hPa.1
  have hSS := hSi.1
  have hHH := hSh.1
  have hH3 := hSh.2.2.2
  refine x_aload_n dX6_startAnew_0 rfl rfl ?_
  refine gX6_23 dX6_startAnew_1 rfl (by assumption) rfl ?_
  refine x_aload_n dX6_startAnew_4 rfl rfl ?_
  refine gX6_19 dX6_startAnew_5 rfl (by assumption) rfl ?_
  refine kX6_247r dX6_startAnew_8 rfl (by assumption) (c_PcopyFrom hL hD hd (by omega)) (by decide) (Nat.le_of_ble_eq_true rfl) (fun S1 hq => ?_)
  obtain ⟨-, q1, q2⟩ := hq
  refine x_aload_n dX6_startAnew_11 rfl rfl ?_
  refine gX6_31 dX6_startAnew_12 rfl (by assumption) rfl ?_
  refine kX6_249r dX6_startAnew_15 rfl (by assumption) (c_begin hN hL (by omega)) (by decide) (Nat.le_of_ble_eq_true rfl) (fun S2 hq => ?_)
  obtain ⟨-, p1⟩ := hq
  have eB : ∀ a, (a < 12 ∨ 18 ≤ a) → S2 a = S1 a := fun a h => p1.2 a (by omega)
  have xA2 : rA S2 30 acts := rA_ag (fun a x y => by rw [eB a (by omega), q2 a (by omega)]) xA
  refine x_aload_n dX6_startAnew_18 rfl rfl ?_
  refine gX6_44 dX6_startAnew_19 rfl (by assumption) rfl ?_
  refine kX6_246r dX6_startAnew_22 rfl (by assumption) (c_Aclear hPa xA2) (by decide) (Nat.le_of_ble_eq_true rfl) (fun S3 hq => ?_)
  obtain ⟨-, t1, t2⟩ := hq
  refine x_aload_n dX6_startAnew_25 rfl rfl ?_
  refine x_iconst (v := 0) dX6_startAnew_26 (by decide) ?_
  refine pX6_243 dX6_startAnew_27 rfl (by assumption) rfl ?_
  refine x_aload_n dX6_startAnew_30 rfl rfl ?_
  refine gX6_55 dX6_startAnew_31 rfl (by assumption) rfl ?_
  refine x_iconst (v := 0) dX6_startAnew_34 (by decide) ?_
  refine pX6_219 dX6_startAnew_35 rfl (by assumption) rfl ?_
  refine x_return dX6_startAnew_38 rfl ?_
  have e1 : ∀ a, a ≠ 0 → a ≠ 81 → s_put (s_put S3 0 8 0) 81 4 0 a = S3 a := fun a x y => by rw [s_put_ne y, s_put_ne x]
  have e3 : ∀ a, a ≠ 0 → a ≠ 81 → a ≠ 30 → (a < 12 ∨ 18 ≤ a) → s_put (s_put S3 0 8 0) 81 4 0 a = S1 a := fun a x y z w => by rw [e1 a x y, t2 a z, eB a w]
  refine ⟨rfl, ⟨?_, ?_, ?_, ?_, ?_, ?_⟩, fun a h => by rw [e3 a (by omega) (by omega) (by omega) (by omega), q2 a (by omega)]⟩
  · exact rT_ag (S := S) (by rw [e3 1 (by omega) (by omega) (by omega) (by omega), q2 1 (by omega)]) (by rw [e3 2 (by omega) (by omega) (by omega) (by omega), q2 2 (by omega)]) xT
  · exact rP_ag (S := S1) (fun a x y => e3 a (by omega) (by omega) (by omega) (by omega)) (rP_D q1)
  · have hb := p1.1
    rw [q1.2.2.2.1, q1.2.2.2.2.1] at hb
    exact rB_fr (S := S2) (fun a x y => by rw [e1 a (by omega) (by omega), t2 a (by omega)]) hb
  · exact rA_ag (S := S3) (fun a x y => e1 a (by omega) (by omega)) t1
  · show rE _ []
    exact ⟨by decide, by rw [s_put_ne (by decide), s_put_eq, if_pos rfl]; rfl, fun i r h => by cases h⟩
  · show rF _ 81 f0
    exact ⟨by decide, by rw [s_put_eq, if_pos rfl]; rfl, fun i h => absurd h (Nat.not_lt_zero i)⟩

theorem fltU_lt {t : Nat → Nat} {L : Nat} : ∀ {k p : Nat} {d : aD} {j : Nat}, (fltU t L k p d).1 = some j → j < L := by
  intro k; induction k with
  | zero => intro p d j h; cases h
  | succ k ih =>
    intro p d j h
    rw [fltU] at h
    split at h
    · rename_i hp
      split at h
      · cases h; exact hp
      · exact ih h
    · cases h

set_option maxHeartbeats 1000000 in
set_option maxRecDepth 20000 in
theorem cX_lay {B : sB} {S : sSt} {L : Nat} {t : Nat → Nat} {P : aP} {r : aR} {acts kept : List aR} {f : aF} (hx : shX B) (hX : RX S ((L, t), P, r, acts, kept, f)) : CS B yX6_lay cX6_lay 1 (some .int) 7 [.ref (s_ad B 0)] S (qO S (o_lay ((L, t), P, r, acts, kept, f))) := by
  refine cs_intro (lv := [(0, .ref (s_ad B 0))]) rfl ?_
  obtain ⟨h0, hT0, hD, hL, hN, hTr, hLa, hPa, hKp, hSi, hSh, hK0, hK1⟩ := id hx
  have hTT := hT0.1
  have hDD := hD.1
  have hLL := hL.1
  have hL1 := hL.2.1
  have hL2 := hL.2.2.1
  have hL3 := hL.2.2.2
  have hNN := hN.1
  have hN1 := hN.2.1
  have hN2 := hN.2.2.1
  have hN3 := hN.2.2.2.1
  have hN4 := hN.2.2.2.2.1
  have hN5 := hN.2.2.2.2.2
  have hRR := hTr.1
  have hR4 := hTr.2.2.2.2.1
  have hVV := hLa.1
  have hAA := hPa.1
  have hSS := hSi.1
  have hHH := hSh.1
  have hH3 := hSh.2.2.2
  obtain ⟨xT, xP, xB, xA, xE, xF⟩ := id hX
  have xT : rT S 1 t L := xT
  have xP : rP S 8 P := xP
  have xB : rB S 12 r := xB
  have xA : rA S 30 acts := xA
  have xE : rE S kept := xE
  have xF : rF S 81 f := xF
  have hn9 : P.1 ≤ 9 := xP.1
  refine x_aload_n dX6_lay_0 rfl rfl ?_
  refine gX6_10 dX6_lay_1 rfl (by assumption) rfl ?_
  refine x_aload_n dX6_lay_4 rfl rfl ?_
  refine gX6_19 dX6_lay_5 rfl (by assumption) rfl ?_
  refine kX6_82r dX6_lay_8 rfl (by assumption) (c_readInto hT0 hD (by omega) xT) (by decide) (Nat.le_of_ble_eq_true rfl) (fun z S1 hq => ?_)
  obtain ⟨q1, q2, q3⟩ := hq
  cases q1
  obtain ⟨hX1, hf1⟩ := RX_frR hX q2
  have hlt : ∀ j, (fltF t L).1 = some j → j < 201 := fun j h => by have := fltU_lt h; have := xT.1; omega
  refine x_bipush (v := (-4)) dX6_lay_11 (by decide) ?_
  refine x_icmp_ne (tgt := 26) dX6_lay_13 (by decide) (fun c_13 => ?_) (fun c_13 => ?_)
  · have hno : ¬ ((fltF t L).1 = none ∧ (fltF t L).2.1 ≠ 0) := fun h => c_13 (by rw [h.1]; rfl)
    refine x_bipush (v := (-2)) dX6_lay_26 (by decide) ?_
    refine x_ireturn dX6_lay_28 rfl rfl ?_
    exact qO_of (by rw [o_lay, if_neg hno]) rfl hX1 hf1
  · have hno1 : (fltF t L).1 = none := by
      cases h : (fltF t L).1 with
      | none => rfl
      | some j =>
        rw [h] at c_13
        have := hlt j h
        exact absurd c_13 (nI_ne4 (by omega))
    have hd1 := q3 hno1
    refine x_aload_n dX6_lay_16 rfl rfl ?_
    refine gX6_19 dX6_lay_17 rfl (by assumption) rfl ?_
    refine gX6_97 dX6_lay_20 rfl (by assumption) rfl ?_
    rw [hd1.2.1]
    refine x_if_ne (tgt := 29) dX6_lay_23 (by decide) (fun c_23 => ?_) (fun c_23 => ?_)
    · have hyes : (fltF t L).1 = none ∧ (fltF t L).2.1 ≠ 0 := ⟨hno1, fun h => c_23 (by rw [h]; rfl)⟩
      refine x_aload_n dX6_lay_29 rfl rfl ?_
      refine kX6_86r dX6_lay_30 rfl (by assumption) (c_startAnew (T := (L, t)) hx hX1.1 hX1.2.2.2.1 hd1) (by decide) (Nat.le_of_ble_eq_true rfl) (fun S2 hq => ?_)
      obtain ⟨-, hX2, hf2⟩ := hq
      have hX2 : RX S2 ((L, t), planD (fltF t L).2, bgnF (fltF t L).2.2.2.1 (fltF t L).2.2.2.2.1, [], [], f0) := hX2
      have eg : S2 8 4 = nI (fltF t L).2.1 := hX2.2.1.2.1
      refine x_aload_n dX6_lay_33 rfl rfl ?_
      refine gX6_23 dX6_lay_34 rfl (by assumption) rfl ?_
      refine gX6_97 dX6_lay_37 rfl (by assumption) rfl ?_
      refine x_ireturn dX6_lay_40 rfl rfl ?_
      exact qO_of (by rw [o_lay, if_pos hyes]) eg hX2 (frX_trans hf1 hf2)
    · have hno : ¬ ((fltF t L).1 = none ∧ (fltF t L).2.1 ≠ 0) := fun h => nI_ne0 (by omega) (by have := hd1.1; omega) c_23
      refine x_bipush (v := (-2)) dX6_lay_26 (by decide) ?_
      refine x_ireturn dX6_lay_28 rfl rfl ?_
      exact qO_of (by rw [o_lay, if_neg hno]) rfl hX1 hf1

set_option maxHeartbeats 1000000 in
set_option maxRecDepth 20000 in
theorem cX_guest {B : sB} {S : sSt} {T : Nat × (Nat → Nat)} {P : aP} {r : aR} {acts kept : List aR} {f : aF} (hx : shX B) (hX : RX S (T, P, r, acts, kept, f)) (hn1 : 1 ≤ P.1) {x w : Int32} : CS B yX6_guest cX6_guest 3 (some .int) 3 [.ref (s_ad B 0), .int x, .int w] S (qO S (o_guest (T, P, r, acts, kept, f) x w)) := by
  refine cs_intro (lv := [(0, .ref (s_ad B 0)), (1, .int x), (2, .int w)]) rfl ?_
  obtain ⟨h0, hT0, hD, hL, hN, hTr, hLa, hPa, hKp, hSi, hSh, hK0, hK1⟩ := id hx
  have hTT := hT0.1
  have hDD := hD.1
  have hLL := hL.1
  have hL1 := hL.2.1
  have hL2 := hL.2.2.1
  have hL3 := hL.2.2.2
  have hNN := hN.1
  have hN1 := hN.2.1
  have hN2 := hN.2.2.1
  have hN3 := hN.2.2.2.1
  have hN4 := hN.2.2.2.2.1
  have hN5 := hN.2.2.2.2.2
  have hRR := hTr.1
  have hR4 := hTr.2.2.2.2.1
  have hVV := hLa.1
  have hAA := hPa.1
  have hSS := hSi.1
  have hHH := hSh.1
  have hH3 := hSh.2.2.2
  obtain ⟨xT, xP, xB, xA, xE, xF⟩ := id hX
  have xT : rT S 1 T.2 T.1 := xT
  have xP : rP S 8 P := xP
  have xB : rB S 12 r := xB
  have xA : rA S 30 acts := xA
  have xE : rE S kept := xE
  have xF : rF S 81 f := xF
  have hn9 : P.1 ≤ 9 := xP.1
  refine x_aload_n dX6_guest_0 rfl rfl ?_
  refine x_iload_n dX6_guest_1 rfl rfl ?_
  refine kX6_101 dX6_guest_2 rfl (by assumption) (c_isGuest hx hX hn1) (by decide) (Nat.le_of_ble_eq_true rfl) ?_
  refine x_ifne_b (tgt := 10) dX6_guest_5 (by decide) (fun c_5 => ?_) (fun c_5 => ?_)
  · have hgk := c_5
    obtain ⟨g, hg, rfl⟩ : ∃ g, g < P.1 ∧ x = nI g := ⟨_, gok_nI c_5⟩
    have hgc : (nI g).toNatClampNeg = g := nI_clamp (by omega)
    have hpi := xP.2.2.2.2 g hg
    refine x_iload_n dX6_guest_10 rfl rfl ?_
    by_cases w_0 : w = 0
    · refine x_tableIn (tgt := 40) dX6_guest_11 (by rw [w_0]; decide) (by rw [w_0]; decide) (by rw [w_0]; rfl) (by decide) ?_
      refine x_aload_n dX6_guest_40 rfl rfl ?_
      refine gX6_23 dX6_guest_41 rfl (by assumption) rfl ?_
      refine gX6_105 dX6_guest_44 rfl (by assumption) rfl ?_
      refine x_iload_n dX6_guest_47 rfl rfl ?_
      first | refine x_ialdN (by assumption) dX6_guest_48 (by omega) (by decide) ?_ | refine x_iald (by assumption) dX6_guest_48 (by assumption) ?_
      refine x_ireturn dX6_guest_49 rfl rfl ?_
      exact qO_of (by rw [o_guest, if_pos hgk, if_pos w_0, hgc]) hpi.1 hX frX_rfl
    by_cases w_1 : w = 1
    · refine x_tableIn (tgt := 50) dX6_guest_11 (by rw [w_1]; decide) (by rw [w_1]; decide) (by rw [w_1]; rfl) (by decide) ?_
      refine x_aload_n dX6_guest_50 rfl rfl ?_
      refine gX6_23 dX6_guest_51 rfl (by assumption) rfl ?_
      refine gX6_109 dX6_guest_54 rfl (by assumption) rfl ?_
      refine x_iload_n dX6_guest_57 rfl rfl ?_
      first | refine x_ialdN (by assumption) dX6_guest_58 (by omega) (by decide) ?_ | refine x_iald (by assumption) dX6_guest_58 (by assumption) ?_
      refine x_ireturn dX6_guest_59 rfl rfl ?_
      exact qO_of (by rw [o_guest, if_pos hgk, if_neg w_0, if_pos w_1, hgc]) hpi.2.1 hX frX_rfl
    by_cases w_2 : w = 2
    · refine x_tableIn (tgt := 60) dX6_guest_11 (by rw [w_2]; decide) (by rw [w_2]; decide) (by rw [w_2]; rfl) (by decide) ?_
      refine x_aload_n dX6_guest_60 rfl rfl ?_
      refine gX6_23 dX6_guest_61 rfl (by assumption) rfl ?_
      refine gX6_112 dX6_guest_64 rfl (by assumption) rfl ?_
      refine x_iload_n dX6_guest_67 rfl rfl ?_
      first | refine x_ialdN (by assumption) dX6_guest_68 (by omega) (by decide) ?_ | refine x_iald (by assumption) dX6_guest_68 (by assumption) ?_
      refine x_ireturn dX6_guest_69 rfl rfl ?_
      exact qO_of (by rw [o_guest, if_pos hgk, if_neg w_0, if_neg w_1, if_pos w_2, hgc]) hpi.2.2 hX frX_rfl
    by_cases w_3 : w = 3
    · refine x_tableIn (tgt := 70) dX6_guest_11 (by rw [w_3]; decide) (by rw [w_3]; decide) (by rw [w_3]; rfl) (by decide) ?_
      refine x_aload_n dX6_guest_70 rfl rfl ?_
      refine gX6_31 dX6_guest_71 rfl (by assumption) rfl ?_
      refine x_iload_n dX6_guest_74 rfl rfl ?_
      refine kX6_115 dX6_guest_75 rfl (by assumption) (c_eatenBy hN hL xP xB) (by decide) (Nat.le_of_ble_eq_true rfl) ?_
      refine x_ireturn dX6_guest_78 rfl rfl ?_
      exact qO_of (by rw [o_guest, if_pos hgk, if_neg w_0, if_neg w_1, if_neg w_2, if_pos w_3, hgc]; rfl) rfl hX frX_rfl
    refine x_tableOut (tgt := 79) dX6_guest_11 (by have z0 := sw_ne (n := 0) (by decide) w_0; have z1 := sw_ne (n := 1) (by decide) w_1; have z2 := sw_ne (n := 2) (by decide) w_2; have z3 := sw_ne (n := 3) (by decide) w_3; omega) (by decide) ?_
    refine x_iconst (v := (-1)) dX6_guest_79 (by decide) ?_
    refine x_ireturn dX6_guest_80 rfl rfl ?_
    exact qO_of (by rw [o_guest, if_pos hgk, if_neg w_0, if_neg w_1, if_neg w_2, if_neg w_3]) rfl hX frX_rfl
  · refine x_iconst (v := (-1)) dX6_guest_8 (by decide) ?_
    refine x_ireturn dX6_guest_9 rfl rfl ?_
    exact qO_of (by rw [o_guest, if_neg c_5]) rfl hX frX_rfl

set_option maxHeartbeats 1000000 in
set_option maxRecDepth 20000 in
theorem cX_slice {B : sB} {S : sSt} {T : Nat × (Nat → Nat)} {P : aP} {r : aR} {acts kept : List aR} {f : aF} (hx : shX B) (hX : RX S (T, P, r, acts, kept, f)) (hn1 : 1 ≤ P.1) {x w : Int32} : CS B yX6_slice cX6_slice 4 (some .int) 3 [.ref (s_ad B 0), .int x, .int w] S (qO S (o_slice (T, P, r, acts, kept, f) x w)) := by
  refine cs_intro (lv := [(0, .ref (s_ad B 0)), (1, .int x), (2, .int w)]) rfl ?_
  obtain ⟨h0, hT0, hD, hL, hN, hTr, hLa, hPa, hKp, hSi, hSh, hK0, hK1⟩ := id hx
  have hTT := hT0.1
  have hDD := hD.1
  have hLL := hL.1
  have hL1 := hL.2.1
  have hL2 := hL.2.2.1
  have hL3 := hL.2.2.2
  have hNN := hN.1
  have hN1 := hN.2.1
  have hN2 := hN.2.2.1
  have hN3 := hN.2.2.2.1
  have hN4 := hN.2.2.2.2.1
  have hN5 := hN.2.2.2.2.2
  have hRR := hTr.1
  have hR4 := hTr.2.2.2.2.1
  have hVV := hLa.1
  have hAA := hPa.1
  have hSS := hSi.1
  have hHH := hSh.1
  have hH3 := hSh.2.2.2
  obtain ⟨xT, xP, xB, xA, xE, xF⟩ := id hX
  have xT : rT S 1 T.2 T.1 := xT
  have xP : rP S 8 P := xP
  have xB : rB S 12 r := xB
  have xA : rA S 30 acts := xA
  have xE : rE S kept := xE
  have xF : rF S 81 f := xF
  have hn9 : P.1 ≤ 9 := xP.1
  refine x_aload_n dX6_slice_0 rfl rfl ?_
  refine x_iload_n dX6_slice_1 rfl rfl ?_
  refine kX6_101 dX6_slice_2 rfl (by assumption) (c_isGuest hx hX hn1) (by decide) (Nat.le_of_ble_eq_true rfl) ?_
  refine x_ifne_b (tgt := 10) dX6_slice_5 (by decide) (fun c_5 => ?_) (fun c_5 => ?_)
  · have hgk := c_5
    obtain ⟨g, hg, rfl⟩ : ∃ g, g < P.1 ∧ x = nI g := ⟨_, gok_nI c_5⟩
    have hgc : (nI g).toNatClampNeg = g := nI_clamp (by omega)
    obtain ⟨b1, b2, b3, b4, b5⟩ := xB.2.2.2 g (by omega)
    refine x_aload_n dX6_slice_10 rfl rfl ?_
    refine gX6_31 dX6_slice_11 rfl (by assumption) rfl ?_
    refine gX6_119 dX6_slice_14 rfl (by assumption) rfl ?_
    refine x_iload_n dX6_slice_17 rfl rfl ?_
    first | refine x_ialdN (by assumption) dX6_slice_18 (by omega) (by decide) ?_ | refine x_iald (by assumption) dX6_slice_18 (by assumption) ?_
    refine x_iconst (v := 1) dX6_slice_19 (by decide) ?_
    rw [b1]
    refine x_icmp_ne (tgt := 27) dX6_slice_20 (by decide) (fun c_20 => ?_) (fun c_20 => ?_)
    · refine x_iconst (v := 0) dX6_slice_27 (by decide) ?_
      refine x_istore_n (lv' := [(3, _), (0, _), (1, _), (2, _)]) dX6_slice_28 rfl (by decide) rfl ?_
      refine x_iload_n dX6_slice_29 rfl rfl ?_
      by_cases w_0 : w = 0
      · refine x_tableIn (tgt := 68) dX6_slice_30 (by rw [w_0]; decide) (by rw [w_0]; decide) (by rw [w_0]; rfl) (by decide) ?_
        refine x_aload_n dX6_slice_68 rfl rfl ?_
        refine gX6_31 dX6_slice_69 rfl (by assumption) rfl ?_
        refine gX6_119 dX6_slice_72 rfl (by assumption) rfl ?_
        refine x_iload_n dX6_slice_75 rfl rfl ?_
        first | refine x_ialdN (by assumption) dX6_slice_76 (by omega) (by decide) ?_ | refine x_iald (by assumption) dX6_slice_76 (by assumption) ?_
        refine x_ireturn dX6_slice_77 rfl rfl ?_
        exact qO_of (by rw [o_slice, if_pos hgk, if_pos w_0, hgc]) b1 hX frX_rfl
      by_cases w_1 : w = 1
      · refine x_tableIn (tgt := 78) dX6_slice_30 (by rw [w_1]; decide) (by rw [w_1]; decide) (by rw [w_1]; rfl) (by decide) ?_
        refine x_iload_n dX6_slice_78 rfl rfl ?_
        refine x_if_eq (tgt := 94) dX6_slice_79 (by decide) (fun c_79 => ?_) (fun c_79 => ?_)
        · refine x_bipush (v := (-4)) dX6_slice_94 (by decide) ?_
          refine x_ireturn dX6_slice_96 rfl rfl ?_
          first
          | exact absurd c_79 (by decide)
          | exact absurd rfl c_79
          | exact qO_of (by rw [o_slice, if_pos hgk, if_neg w_0, if_pos w_1, hgc, if_neg c_20]) rfl hX frX_rfl
          | exact qO_of (by rw [o_slice, if_pos hgk, if_neg w_0, if_pos w_1, hgc, if_pos c_20]) b2 hX frX_rfl
        · refine x_aload_n dX6_slice_82 rfl rfl ?_
          refine gX6_31 dX6_slice_83 rfl (by assumption) rfl ?_
          refine gX6_122 dX6_slice_86 rfl (by assumption) rfl ?_
          refine x_iload_n dX6_slice_89 rfl rfl ?_
          first | refine x_ialdN (by assumption) dX6_slice_90 (by omega) (by decide) ?_ | refine x_iald (by assumption) dX6_slice_90 (by assumption) ?_
          refine x_goto (tgt := 96) dX6_slice_91 (by decide) ?_
          refine x_ireturn dX6_slice_96 rfl rfl ?_
          first
          | exact absurd c_79 (by decide)
          | exact absurd rfl c_79
          | exact qO_of (by rw [o_slice, if_pos hgk, if_neg w_0, if_pos w_1, hgc, if_neg c_20]) rfl hX frX_rfl
          | exact qO_of (by rw [o_slice, if_pos hgk, if_neg w_0, if_pos w_1, hgc, if_pos c_20]) b2 hX frX_rfl
      by_cases w_2 : w = 2
      · refine x_tableIn (tgt := 97) dX6_slice_30 (by rw [w_2]; decide) (by rw [w_2]; decide) (by rw [w_2]; rfl) (by decide) ?_
        refine x_iload_n dX6_slice_97 rfl rfl ?_
        refine x_if_eq (tgt := 113) dX6_slice_98 (by decide) (fun c_98 => ?_) (fun c_98 => ?_)
        · refine x_bipush (v := (-4)) dX6_slice_113 (by decide) ?_
          refine x_ireturn dX6_slice_115 rfl rfl ?_
          first
          | exact absurd c_98 (by decide)
          | exact absurd rfl c_98
          | exact qO_of (by rw [o_slice, if_pos hgk, if_neg w_0, if_neg w_1, if_pos w_2, hgc, if_neg c_20]) rfl hX frX_rfl
          | exact qO_of (by rw [o_slice, if_pos hgk, if_neg w_0, if_neg w_1, if_pos w_2, hgc, if_pos c_20]) b3 hX frX_rfl
        · refine x_aload_n dX6_slice_101 rfl rfl ?_
          refine gX6_31 dX6_slice_102 rfl (by assumption) rfl ?_
          refine gX6_125 dX6_slice_105 rfl (by assumption) rfl ?_
          refine x_iload_n dX6_slice_108 rfl rfl ?_
          first | refine x_ialdN (by assumption) dX6_slice_109 (by omega) (by decide) ?_ | refine x_iald (by assumption) dX6_slice_109 (by assumption) ?_
          refine x_goto (tgt := 115) dX6_slice_110 (by decide) ?_
          refine x_ireturn dX6_slice_115 rfl rfl ?_
          first
          | exact absurd c_98 (by decide)
          | exact absurd rfl c_98
          | exact qO_of (by rw [o_slice, if_pos hgk, if_neg w_0, if_neg w_1, if_pos w_2, hgc, if_neg c_20]) rfl hX frX_rfl
          | exact qO_of (by rw [o_slice, if_pos hgk, if_neg w_0, if_neg w_1, if_pos w_2, hgc, if_pos c_20]) b3 hX frX_rfl
      by_cases w_3 : w = 3
      · refine x_tableIn (tgt := 116) dX6_slice_30 (by rw [w_3]; decide) (by rw [w_3]; decide) (by rw [w_3]; rfl) (by decide) ?_
        refine x_aload_n dX6_slice_116 rfl rfl ?_
        refine gX6_31 dX6_slice_117 rfl (by assumption) rfl ?_
        refine gX6_128 dX6_slice_120 rfl (by assumption) rfl ?_
        refine x_iload_n dX6_slice_123 rfl rfl ?_
        first | refine x_ialdN (by assumption) dX6_slice_124 (by omega) (by decide) ?_ | refine x_iald (by assumption) dX6_slice_124 (by assumption) ?_
        refine x_ireturn dX6_slice_125 rfl rfl ?_
        exact qO_of (by rw [o_slice, if_pos hgk, if_neg w_0, if_neg w_1, if_neg w_2, if_pos w_3, hgc]) b4 hX frX_rfl
      by_cases w_4 : w = 4
      · refine x_tableIn (tgt := 126) dX6_slice_30 (by rw [w_4]; decide) (by rw [w_4]; decide) (by rw [w_4]; rfl) (by decide) ?_
        refine x_aload_n dX6_slice_126 rfl rfl ?_
        refine gX6_31 dX6_slice_127 rfl (by assumption) rfl ?_
        refine gX6_131 dX6_slice_130 rfl (by assumption) rfl ?_
        refine x_iload_n dX6_slice_133 rfl rfl ?_
        first | refine x_ialdN (by assumption) dX6_slice_134 (by omega) (by decide) ?_ | refine x_iald (by assumption) dX6_slice_134 (by assumption) ?_
        refine x_ireturn dX6_slice_135 rfl rfl ?_
        exact qO_of (by rw [o_slice, if_pos hgk, if_neg w_0, if_neg w_1, if_neg w_2, if_neg w_3, if_pos w_4, hgc]) b5 hX frX_rfl
      by_cases w_5 : w = 5
      · refine x_tableIn (tgt := 136) dX6_slice_30 (by rw [w_5]; decide) (by rw [w_5]; decide) (by rw [w_5]; rfl) (by decide) ?_
        refine x_aload_n dX6_slice_136 rfl rfl ?_
        refine gX6_31 dX6_slice_137 rfl (by assumption) rfl ?_
        refine x_iload_n dX6_slice_140 rfl rfl ?_
        refine x_iload_n dX6_slice_141 rfl rfl ?_
        refine kX6_134 dX6_slice_142 rfl (by assumption) (c_isRight hN hL xP xB hg hg) (by decide) (Nat.le_of_ble_eq_true rfl) ?_
        refine x_ifeq_b (tgt := 152) dX6_slice_145 (by decide) (fun c_145 => ?_) (fun c_145 => ?_)
        · refine x_iconst (v := 0) dX6_slice_152 (by decide) ?_
          refine x_ireturn dX6_slice_153 rfl rfl ?_
          first
          | exact qO_of (by rw [o_slice, if_pos hgk, if_neg w_0, if_neg w_1, if_neg w_2, if_neg w_3, if_neg w_4, if_pos w_5, hgc]) (bI_f c_145) hX frX_rfl
          | exact qO_of (by rw [o_slice, if_pos hgk, if_neg w_0, if_neg w_1, if_neg w_2, if_neg w_3, if_neg w_4, if_pos w_5, hgc]) (bI_t c_145) hX frX_rfl
        · refine x_iconst (v := 1) dX6_slice_148 (by decide) ?_
          refine x_goto (tgt := 153) dX6_slice_149 (by decide) ?_
          refine x_ireturn dX6_slice_153 rfl rfl ?_
          first
          | exact qO_of (by rw [o_slice, if_pos hgk, if_neg w_0, if_neg w_1, if_neg w_2, if_neg w_3, if_neg w_4, if_pos w_5, hgc]) (bI_f c_145) hX frX_rfl
          | exact qO_of (by rw [o_slice, if_pos hgk, if_neg w_0, if_neg w_1, if_neg w_2, if_neg w_3, if_neg w_4, if_pos w_5, hgc]) (bI_t c_145) hX frX_rfl
      refine x_tableOut (tgt := 154) dX6_slice_30 (by have z0 := sw_ne (n := 0) (by decide) w_0; have z1 := sw_ne (n := 1) (by decide) w_1; have z2 := sw_ne (n := 2) (by decide) w_2; have z3 := sw_ne (n := 3) (by decide) w_3; have z4 := sw_ne (n := 4) (by decide) w_4; have z5 := sw_ne (n := 5) (by decide) w_5; omega) (by decide) ?_
      refine x_iconst (v := (-1)) dX6_slice_154 (by decide) ?_
      refine x_ireturn dX6_slice_155 rfl rfl ?_
      exact qO_of (by rw [o_slice, if_pos hgk, if_neg w_0, if_neg w_1, if_neg w_2, if_neg w_3, if_neg w_4, if_neg w_5]) rfl hX frX_rfl
    · refine x_iconst (v := 1) dX6_slice_23 (by decide) ?_
      refine x_goto (tgt := 28) dX6_slice_24 (by decide) ?_
      refine x_istore_n (lv' := [(3, _), (0, _), (1, _), (2, _)]) dX6_slice_28 rfl (by decide) rfl ?_
      refine x_iload_n dX6_slice_29 rfl rfl ?_
      by_cases w_0 : w = 0
      · refine x_tableIn (tgt := 68) dX6_slice_30 (by rw [w_0]; decide) (by rw [w_0]; decide) (by rw [w_0]; rfl) (by decide) ?_
        refine x_aload_n dX6_slice_68 rfl rfl ?_
        refine gX6_31 dX6_slice_69 rfl (by assumption) rfl ?_
        refine gX6_119 dX6_slice_72 rfl (by assumption) rfl ?_
        refine x_iload_n dX6_slice_75 rfl rfl ?_
        first | refine x_ialdN (by assumption) dX6_slice_76 (by omega) (by decide) ?_ | refine x_iald (by assumption) dX6_slice_76 (by assumption) ?_
        refine x_ireturn dX6_slice_77 rfl rfl ?_
        exact qO_of (by rw [o_slice, if_pos hgk, if_pos w_0, hgc]) b1 hX frX_rfl
      by_cases w_1 : w = 1
      · refine x_tableIn (tgt := 78) dX6_slice_30 (by rw [w_1]; decide) (by rw [w_1]; decide) (by rw [w_1]; rfl) (by decide) ?_
        refine x_iload_n dX6_slice_78 rfl rfl ?_
        refine x_if_eq (tgt := 94) dX6_slice_79 (by decide) (fun c_79 => ?_) (fun c_79 => ?_)
        · refine x_bipush (v := (-4)) dX6_slice_94 (by decide) ?_
          refine x_ireturn dX6_slice_96 rfl rfl ?_
          first
          | exact absurd c_79 (by decide)
          | exact absurd rfl c_79
          | exact qO_of (by rw [o_slice, if_pos hgk, if_neg w_0, if_pos w_1, hgc, if_neg c_20]) rfl hX frX_rfl
          | exact qO_of (by rw [o_slice, if_pos hgk, if_neg w_0, if_pos w_1, hgc, if_pos c_20]) b2 hX frX_rfl
        · refine x_aload_n dX6_slice_82 rfl rfl ?_
          refine gX6_31 dX6_slice_83 rfl (by assumption) rfl ?_
          refine gX6_122 dX6_slice_86 rfl (by assumption) rfl ?_
          refine x_iload_n dX6_slice_89 rfl rfl ?_
          first | refine x_ialdN (by assumption) dX6_slice_90 (by omega) (by decide) ?_ | refine x_iald (by assumption) dX6_slice_90 (by assumption) ?_
          refine x_goto (tgt := 96) dX6_slice_91 (by decide) ?_
          refine x_ireturn dX6_slice_96 rfl rfl ?_
          first
          | exact absurd c_79 (by decide)
          | exact absurd rfl c_79
          | exact qO_of (by rw [o_slice, if_pos hgk, if_neg w_0, if_pos w_1, hgc, if_neg c_20]) rfl hX frX_rfl
          | exact qO_of (by rw [o_slice, if_pos hgk, if_neg w_0, if_pos w_1, hgc, if_pos c_20]) b2 hX frX_rfl
      by_cases w_2 : w = 2
      · refine x_tableIn (tgt := 97) dX6_slice_30 (by rw [w_2]; decide) (by rw [w_2]; decide) (by rw [w_2]; rfl) (by decide) ?_
        refine x_iload_n dX6_slice_97 rfl rfl ?_
        refine x_if_eq (tgt := 113) dX6_slice_98 (by decide) (fun c_98 => ?_) (fun c_98 => ?_)
        · refine x_bipush (v := (-4)) dX6_slice_113 (by decide) ?_
          refine x_ireturn dX6_slice_115 rfl rfl ?_
          first
          | exact absurd c_98 (by decide)
          | exact absurd rfl c_98
          | exact qO_of (by rw [o_slice, if_pos hgk, if_neg w_0, if_neg w_1, if_pos w_2, hgc, if_neg c_20]) rfl hX frX_rfl
          | exact qO_of (by rw [o_slice, if_pos hgk, if_neg w_0, if_neg w_1, if_pos w_2, hgc, if_pos c_20]) b3 hX frX_rfl
        · refine x_aload_n dX6_slice_101 rfl rfl ?_
          refine gX6_31 dX6_slice_102 rfl (by assumption) rfl ?_
          refine gX6_125 dX6_slice_105 rfl (by assumption) rfl ?_
          refine x_iload_n dX6_slice_108 rfl rfl ?_
          first | refine x_ialdN (by assumption) dX6_slice_109 (by omega) (by decide) ?_ | refine x_iald (by assumption) dX6_slice_109 (by assumption) ?_
          refine x_goto (tgt := 115) dX6_slice_110 (by decide) ?_
          refine x_ireturn dX6_slice_115 rfl rfl ?_
          first
          | exact absurd c_98 (by decide)
          | exact absurd rfl c_98
          | exact qO_of (by rw [o_slice, if_pos hgk, if_neg w_0, if_neg w_1, if_pos w_2, hgc, if_neg c_20]) rfl hX frX_rfl
          | exact qO_of (by rw [o_slice, if_pos hgk, if_neg w_0, if_neg w_1, if_pos w_2, hgc, if_pos c_20]) b3 hX frX_rfl
      by_cases w_3 : w = 3
      · refine x_tableIn (tgt := 116) dX6_slice_30 (by rw [w_3]; decide) (by rw [w_3]; decide) (by rw [w_3]; rfl) (by decide) ?_
        refine x_aload_n dX6_slice_116 rfl rfl ?_
        refine gX6_31 dX6_slice_117 rfl (by assumption) rfl ?_
        refine gX6_128 dX6_slice_120 rfl (by assumption) rfl ?_
        refine x_iload_n dX6_slice_123 rfl rfl ?_
        first | refine x_ialdN (by assumption) dX6_slice_124 (by omega) (by decide) ?_ | refine x_iald (by assumption) dX6_slice_124 (by assumption) ?_
        refine x_ireturn dX6_slice_125 rfl rfl ?_
        exact qO_of (by rw [o_slice, if_pos hgk, if_neg w_0, if_neg w_1, if_neg w_2, if_pos w_3, hgc]) b4 hX frX_rfl
      by_cases w_4 : w = 4
      · refine x_tableIn (tgt := 126) dX6_slice_30 (by rw [w_4]; decide) (by rw [w_4]; decide) (by rw [w_4]; rfl) (by decide) ?_
        refine x_aload_n dX6_slice_126 rfl rfl ?_
        refine gX6_31 dX6_slice_127 rfl (by assumption) rfl ?_
        refine gX6_131 dX6_slice_130 rfl (by assumption) rfl ?_
        refine x_iload_n dX6_slice_133 rfl rfl ?_
        first | refine x_ialdN (by assumption) dX6_slice_134 (by omega) (by decide) ?_ | refine x_iald (by assumption) dX6_slice_134 (by assumption) ?_
        refine x_ireturn dX6_slice_135 rfl rfl ?_
        exact qO_of (by rw [o_slice, if_pos hgk, if_neg w_0, if_neg w_1, if_neg w_2, if_neg w_3, if_pos w_4, hgc]) b5 hX frX_rfl
      by_cases w_5 : w = 5
      · refine x_tableIn (tgt := 136) dX6_slice_30 (by rw [w_5]; decide) (by rw [w_5]; decide) (by rw [w_5]; rfl) (by decide) ?_
        refine x_aload_n dX6_slice_136 rfl rfl ?_
        refine gX6_31 dX6_slice_137 rfl (by assumption) rfl ?_
        refine x_iload_n dX6_slice_140 rfl rfl ?_
        refine x_iload_n dX6_slice_141 rfl rfl ?_
        refine kX6_134 dX6_slice_142 rfl (by assumption) (c_isRight hN hL xP xB hg hg) (by decide) (Nat.le_of_ble_eq_true rfl) ?_
        refine x_ifeq_b (tgt := 152) dX6_slice_145 (by decide) (fun c_145 => ?_) (fun c_145 => ?_)
        · refine x_iconst (v := 0) dX6_slice_152 (by decide) ?_
          refine x_ireturn dX6_slice_153 rfl rfl ?_
          first
          | exact qO_of (by rw [o_slice, if_pos hgk, if_neg w_0, if_neg w_1, if_neg w_2, if_neg w_3, if_neg w_4, if_pos w_5, hgc]) (bI_f c_145) hX frX_rfl
          | exact qO_of (by rw [o_slice, if_pos hgk, if_neg w_0, if_neg w_1, if_neg w_2, if_neg w_3, if_neg w_4, if_pos w_5, hgc]) (bI_t c_145) hX frX_rfl
        · refine x_iconst (v := 1) dX6_slice_148 (by decide) ?_
          refine x_goto (tgt := 153) dX6_slice_149 (by decide) ?_
          refine x_ireturn dX6_slice_153 rfl rfl ?_
          first
          | exact qO_of (by rw [o_slice, if_pos hgk, if_neg w_0, if_neg w_1, if_neg w_2, if_neg w_3, if_neg w_4, if_pos w_5, hgc]) (bI_f c_145) hX frX_rfl
          | exact qO_of (by rw [o_slice, if_pos hgk, if_neg w_0, if_neg w_1, if_neg w_2, if_neg w_3, if_neg w_4, if_pos w_5, hgc]) (bI_t c_145) hX frX_rfl
      refine x_tableOut (tgt := 154) dX6_slice_30 (by have z0 := sw_ne (n := 0) (by decide) w_0; have z1 := sw_ne (n := 1) (by decide) w_1; have z2 := sw_ne (n := 2) (by decide) w_2; have z3 := sw_ne (n := 3) (by decide) w_3; have z4 := sw_ne (n := 4) (by decide) w_4; have z5 := sw_ne (n := 5) (by decide) w_5; omega) (by decide) ?_
      refine x_iconst (v := (-1)) dX6_slice_154 (by decide) ?_
      refine x_ireturn dX6_slice_155 rfl rfl ?_
      exact qO_of (by rw [o_slice, if_pos hgk, if_neg w_0, if_neg w_1, if_neg w_2, if_neg w_3, if_neg w_4, if_neg w_5]) rfl hX frX_rfl
  · refine x_iconst (v := (-1)) dX6_slice_8 (by decide) ?_
    refine x_ireturn dX6_slice_9 rfl rfl ?_
    exact qO_of (by rw [o_slice, if_neg c_5]) rfl hX frX_rfl

set_option maxHeartbeats 1000000 in
set_option maxRecDepth 20000 in
theorem cX_count {B : sB} {S : sSt} {L : Nat} {t : Nat → Nat} {P : aP} {r : aR} {acts kept : List aR} {f : aF} (hx : shX B) (hX : RX S ((L, t), P, r, acts, kept, f)) {w : Int32} : CS B yX6_count cX6_count 2 (some .int) 2 [.ref (s_ad B 0), .int w] S (qO S (o_count ((L, t), P, r, acts, kept, f) w)) := by
  refine cs_intro (lv := [(0, .ref (s_ad B 0)), (1, .int w)]) rfl ?_
  obtain ⟨h0, hT0, hD, hL, hN, hTr, hLa, hPa, hKp, hSi, hSh, hK0, hK1⟩ := id hx
  have hTT := hT0.1
  have hDD := hD.1
  have hLL := hL.1
  have hL1 := hL.2.1
  have hL2 := hL.2.2.1
  have hL3 := hL.2.2.2
  have hNN := hN.1
  have hN1 := hN.2.1
  have hN2 := hN.2.2.1
  have hN3 := hN.2.2.2.1
  have hN4 := hN.2.2.2.2.1
  have hN5 := hN.2.2.2.2.2
  have hRR := hTr.1
  have hR4 := hTr.2.2.2.2.1
  have hVV := hLa.1
  have hAA := hPa.1
  have hSS := hSi.1
  have hHH := hSh.1
  have hH3 := hSh.2.2.2
  obtain ⟨xT, xP, xB, xA, xE, xF⟩ := id hX
  have xT : rT S 1 t L := xT
  have xP : rP S 8 P := xP
  have xB : rB S 12 r := xB
  have xA : rA S 30 acts := xA
  have xE : rE S kept := xE
  have xF : rF S 81 f := xF
  have hn9 : P.1 ≤ 9 := xP.1
  have hmy : S 30 2 = nI acts.length := by obtain ⟨nx, z1, z2, z3, z4, z5⟩ := id xA; exact z4
  refine x_iload_n dX6_count_0 rfl rfl ?_
  by_cases w_0 : w = 0
  · refine x_tableIn (tgt := 64) dX6_count_1 (by rw [w_0]; decide) (by rw [w_0]; decide) (by rw [w_0]; rfl) (by decide) ?_
    refine x_aload_n dX6_count_64 rfl rfl ?_
    refine gX6_23 dX6_count_65 rfl (by assumption) rfl ?_
    refine gX6_97 dX6_count_68 rfl (by assumption) rfl ?_
    refine x_ireturn dX6_count_71 rfl rfl ?_
    exact qO_of (by rw [o_count, if_pos w_0]) (xP.2.1) hX frX_rfl
  by_cases w_1 : w = 1
  · refine x_tableIn (tgt := 72) dX6_count_1 (by rw [w_1]; decide) (by rw [w_1]; decide) (by rw [w_1]; rfl) (by decide) ?_
    refine x_aload_n dX6_count_72 rfl rfl ?_
    refine gX6_23 dX6_count_73 rfl (by assumption) rfl ?_
    refine gX6_182 dX6_count_76 rfl (by assumption) rfl ?_
    refine x_ireturn dX6_count_79 rfl rfl ?_
    exact qO_of (by rw [o_count, if_neg w_0, if_pos w_1]) (xP.2.2.1) hX frX_rfl
  by_cases w_2 : w = 2
  · refine x_tableIn (tgt := 80) dX6_count_1 (by rw [w_2]; decide) (by rw [w_2]; decide) (by rw [w_2]; rfl) (by decide) ?_
    refine x_aload_n dX6_count_80 rfl rfl ?_
    refine gX6_31 dX6_count_81 rfl (by assumption) rfl ?_
    refine gX6_167 dX6_count_84 rfl (by assumption) rfl ?_
    refine x_ireturn dX6_count_87 rfl rfl ?_
    exact qO_of (by rw [o_count, if_neg w_0, if_neg w_1, if_pos w_2]) (xB.1) hX frX_rfl
  by_cases w_3 : w = 3
  · refine x_tableIn (tgt := 88) dX6_count_1 (by rw [w_3]; decide) (by rw [w_3]; decide) (by rw [w_3]; rfl) (by decide) ?_
    refine x_aload_n dX6_count_88 rfl rfl ?_
    refine gX6_31 dX6_count_89 rfl (by assumption) rfl ?_
    refine gX6_240 dX6_count_92 rfl (by assumption) rfl ?_
    refine x_ireturn dX6_count_95 rfl rfl ?_
    exact qO_of (by rw [o_count, if_neg w_0, if_neg w_1, if_neg w_2, if_pos w_3]) (xB.2.1) hX frX_rfl
  by_cases w_4 : w = 4
  · refine x_tableIn (tgt := 96) dX6_count_1 (by rw [w_4]; decide) (by rw [w_4]; decide) (by rw [w_4]; rfl) (by decide) ?_
    refine x_aload_n dX6_count_96 rfl rfl ?_
    refine gX6_31 dX6_count_97 rfl (by assumption) rfl ?_
    refine gX6_158 dX6_count_100 rfl (by assumption) rfl ?_
    refine x_ireturn dX6_count_103 rfl rfl ?_
    exact qO_of (by rw [o_count, if_neg w_0, if_neg w_1, if_neg w_2, if_neg w_3, if_pos w_4]) (xB.2.2.1) hX frX_rfl
  by_cases w_5 : w = 5
  · refine x_tableIn (tgt := 104) dX6_count_1 (by rw [w_5]; decide) (by rw [w_5]; decide) (by rw [w_5]; rfl) (by decide) ?_
    refine x_aload_n dX6_count_104 rfl rfl ?_
    refine gX6_31 dX6_count_105 rfl (by assumption) rfl ?_
    refine x_iconst (v := 1) dX6_count_108 (by decide) ?_
    refine kX6_155 dX6_count_109 rfl (by assumption) (c_howMany hN hL xP xB) (by decide) (Nat.le_of_ble_eq_true rfl) ?_
    refine x_ireturn dX6_count_112 rfl rfl ?_
    exact qO_of (by rw [o_count, if_neg w_0, if_neg w_1, if_neg w_2, if_neg w_3, if_neg w_4, if_pos w_5]) (rfl) hX frX_rfl
  by_cases w_6 : w = 6
  · refine x_tableIn (tgt := 113) dX6_count_1 (by rw [w_6]; decide) (by rw [w_6]; decide) (by rw [w_6]; rfl) (by decide) ?_
    refine x_aload_n dX6_count_113 rfl rfl ?_
    refine gX6_31 dX6_count_114 rfl (by assumption) rfl ?_
    refine x_iconst (v := 2) dX6_count_117 (by decide) ?_
    refine kX6_155 dX6_count_118 rfl (by assumption) (c_howMany hN hL xP xB) (by decide) (Nat.le_of_ble_eq_true rfl) ?_
    refine x_ireturn dX6_count_121 rfl rfl ?_
    exact qO_of (by rw [o_count, if_neg w_0, if_neg w_1, if_neg w_2, if_neg w_3, if_neg w_4, if_neg w_5, if_pos w_6]) (rfl) hX frX_rfl
  by_cases w_7 : w = 7
  · refine x_tableIn (tgt := 122) dX6_count_1 (by rw [w_7]; decide) (by rw [w_7]; decide) (by rw [w_7]; rfl) (by decide) ?_
    refine x_aload_n dX6_count_122 rfl rfl ?_
    refine gX6_31 dX6_count_123 rfl (by assumption) rfl ?_
    refine x_iconst (v := 3) dX6_count_126 (by decide) ?_
    refine kX6_155 dX6_count_127 rfl (by assumption) (c_howMany hN hL xP xB) (by decide) (Nat.le_of_ble_eq_true rfl) ?_
    refine x_ireturn dX6_count_130 rfl rfl ?_
    exact qO_of (by rw [o_count, if_neg w_0, if_neg w_1, if_neg w_2, if_neg w_3, if_neg w_4, if_neg w_5, if_neg w_6, if_pos w_7]) (rfl) hX frX_rfl
  by_cases w_8 : w = 8
  · refine x_tableIn (tgt := 131) dX6_count_1 (by rw [w_8]; decide) (by rw [w_8]; decide) (by rw [w_8]; rfl) (by decide) ?_
    refine x_aload_n dX6_count_131 rfl rfl ?_
    refine gX6_55 dX6_count_132 rfl (by assumption) rfl ?_
    refine gX6_219 dX6_count_135 rfl (by assumption) rfl ?_
    refine x_ireturn dX6_count_138 rfl rfl ?_
    exact qO_of (by rw [o_count, if_neg w_0, if_neg w_1, if_neg w_2, if_neg w_3, if_neg w_4, if_neg w_5, if_neg w_6, if_neg w_7, if_pos w_8]) (xF.2.1) hX frX_rfl
  by_cases w_9 : w = 9
  · refine x_tableIn (tgt := 139) dX6_count_1 (by rw [w_9]; decide) (by rw [w_9]; decide) (by rw [w_9]; rfl) (by decide) ?_
    refine x_aload_n dX6_count_139 rfl rfl ?_
    refine gX6_44 dX6_count_140 rfl (by assumption) rfl ?_
    refine gX6_176 dX6_count_143 rfl (by assumption) rfl ?_
    refine x_ireturn dX6_count_146 rfl rfl ?_
    exact qO_of (by rw [o_count, if_neg w_0, if_neg w_1, if_neg w_2, if_neg w_3, if_neg w_4, if_neg w_5, if_neg w_6, if_neg w_7, if_neg w_8, if_pos w_9]) (hmy) hX frX_rfl
  by_cases w_10 : w = 10
  · refine x_tableIn (tgt := 147) dX6_count_1 (by rw [w_10]; decide) (by rw [w_10]; decide) (by rw [w_10]; rfl) (by decide) ?_
    refine x_aload_n dX6_count_147 rfl rfl ?_
    refine gX6_243 dX6_count_148 rfl (by assumption) rfl ?_
    refine x_ireturn dX6_count_151 rfl rfl ?_
    exact qO_of (by rw [o_count, if_neg w_0, if_neg w_1, if_neg w_2, if_neg w_3, if_neg w_4, if_neg w_5, if_neg w_6, if_neg w_7, if_neg w_8, if_neg w_9, if_pos w_10]) (xE.2.1) hX frX_rfl
  by_cases w_11 : w = 11
  · refine x_tableIn (tgt := 152) dX6_count_1 (by rw [w_11]; decide) (by rw [w_11]; decide) (by rw [w_11]; rfl) (by decide) ?_
    refine x_aload_n dX6_count_152 rfl rfl ?_
    refine gX6_10 dX6_count_153 rfl (by assumption) rfl ?_
    refine kX6_96 dX6_count_156 rfl (by assumption) (c_length hT0 xT) (by decide) (Nat.le_of_ble_eq_true rfl) ?_
    refine x_ireturn dX6_count_159 rfl rfl ?_
    exact qO_of (by rw [o_count, if_neg w_0, if_neg w_1, if_neg w_2, if_neg w_3, if_neg w_4, if_neg w_5, if_neg w_6, if_neg w_7, if_neg w_8, if_neg w_9, if_neg w_10, if_pos w_11]) (rfl) hX frX_rfl
  refine x_tableOut (tgt := 160) dX6_count_1 (by have z0 := sw_ne (n := 0) (by decide) w_0; have z1 := sw_ne (n := 1) (by decide) w_1; have z2 := sw_ne (n := 2) (by decide) w_2; have z3 := sw_ne (n := 3) (by decide) w_3; have z4 := sw_ne (n := 4) (by decide) w_4; have z5 := sw_ne (n := 5) (by decide) w_5; have z6 := sw_ne (n := 6) (by decide) w_6; have z7 := sw_ne (n := 7) (by decide) w_7; have z8 := sw_ne (n := 8) (by decide) w_8; have z9 := sw_ne (n := 9) (by decide) w_9; have z10 := sw_ne (n := 10) (by decide) w_10; have z11 := sw_ne (n := 11) (by decide) w_11; omega) (by decide) ?_
  refine x_iconst (v := (-1)) dX6_count_160 (by decide) ?_
  refine x_ireturn dX6_count_161 rfl rfl ?_
  exact qO_of (by rw [o_count, if_neg w_0, if_neg w_1, if_neg w_2, if_neg w_3, if_neg w_4, if_neg w_5, if_neg w_6, if_neg w_7, if_neg w_8, if_neg w_9, if_neg w_10, if_neg w_11]) rfl hX frX_rfl
