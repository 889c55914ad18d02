theorem RX_act {S S1 S2 : sSt} {T : Nat × (Nat → Nat)} {P : aP} {r r' : aR} {acts acts' kept : List aR} {f : aF} (hX : RX S (T, P, r, acts, kept, f)) (hA : rA S1 30 acts') (h1 : frA S S1 30) (h2 : chB S1 S2 12 r') : RX S2 (T, P, r', acts', kept, f) ∧ frX S S2 := by
  have e : ∀ a, (a < 12 ∨ 18 ≤ a) → S2 a = S1 a := fun a h => h2.2 a (by omega)
  refine ⟨RX_upd hX h2.1 (rA_ag (fun a x y => e a (by omega)) hA) (fun a _ hs h3 h4 => ?_) ?_, fun a ha => ?_⟩
  · rw [e a (by omega), h1 a (by omega)]
  · rw [e 1 (by omega), h1 1 (by omega)]
  · rw [e a (by omega), h1 a (by omega)]
theorem RX_try {S S1 : sSt} {A : aA} {c : Nat} {q : aR} (hX : RX S A) (h : chB S S1 c q) (hc : c = 18 ∨ c = 24) : RX S1 A ∧ frX S S1 := by
  refine ⟨RX_scr hX (fun a h1 h2 => h.2 a ?_) ?_, fun a ha => h.2 a (by omega)⟩
  · unfold scr at h2; omega
  · rw [h.2 1 (by omega)]
theorem frA_B {S S1 : sSt} {r : aR} (h : frA S S1 30) (hB : rB S 12 r) : rB S1 12 r := rB_fr (fun a x y => h a (by omega)) hB
theorem frA_P {S S1 : sSt} {P : aP} (h : frA S S1 30) (hP : rP S 8 P) : rP S1 8 P := rP_ag (fun a x y => h a (by omega)) hP
theorem ch_P {S S1 : sSt} {P : aP} {c : Nat} {q : aR} (h : chB S S1 c q) (hc : 12 ≤ c) (hP : rP S 8 P) : rP S1 8 P := rP_ch h (by omega) hP

set_option maxHeartbeats 1000000 in
set_option maxRecDepth 20000 in
theorem cX_putIn {B : sB} {S : sSt} {T : Nat × (Nat → Nat)} {P : aP} {r : aR} {acts kept : List aR} {f : aF} (hx : shX B) (hX : RX S (T, P, r, acts, kept, f)) (hn1 : 1 ≤ P.1) {x l : Int32} : CS B yX6_putIn cX6_putIn 3 (some .int) 4 [.ref (s_ad B 0), .int x, .int l] S (qO S (o_putIn (T, P, r, acts, kept, f) x l)) := by
  refine cs_intro (lv := [(0, .ref (s_ad B 0)), (1, .int x), (2, .int l)]) rfl ?_
  obtain ⟨h0, hT0, hD, hL, hN, hTr, hLa, hPa, hKp, hSi, hSh, hK0, hK1⟩ := id hx
  have hTT := hT0.1
  have hDD := hD.1
  have hLL := hL.1
  have hL1 := hL.2.1
  have hL2 := hL.2.2.1
  have hL3 := hL.2.2.2
  have hNN := hN.1
  have hN1 := hN.2.1
  have hN2 := hN.2.2.1
  have hN3 := hN.2.2.2.1
  have hN4 := hN.2.2.2.2.1
  have hN5 := hN.2.2.2.2.2
  have hRR := hTr.1
  have hR4 := hTr.2.2.2.2.1
  have hVV := hLa.1
  have hAA := hPa.1
  have hSS := hSi.1
  have hHH := hSh.1
  have hH3 := hSh.2.2.2
  obtain ⟨xT, xP, xB, xA, xE, xF⟩ := id hX
  have xT : rT S 1 T.2 T.1 := xT
  have xP : rP S 8 P := xP
  have xB : rB S 12 r := xB
  have xA : rA S 30 acts := xA
  have xE : rE S kept := xE
  have xF : rF S 81 f := xF
  have hn9 : P.1 ≤ 9 := xP.1
  refine x_aload_n dX6_putIn_0 rfl rfl ?_
  refine x_iload_n dX6_putIn_1 rfl rfl ?_
  refine kX6_101 dX6_putIn_2 rfl (by assumption) (c_isGuest hx hX hn1) (by decide) (Nat.le_of_ble_eq_true rfl) ?_
  refine x_ifeq_b (tgt := 15) dX6_putIn_5 (by decide) (fun c_5 => ?_) (fun c_5 => ?_)
  · refine x_iconst (v := (-1)) dX6_putIn_15 (by decide) ?_
    refine x_ireturn dX6_putIn_16 rfl rfl ?_
    first
    | exact qO_of (by rw [o_putIn, if_neg (by rw [Bool.and_eq_true]; exact fun z => c_5 z.1)]) rfl hX frX_rfl
    | exact qO_of (by rw [o_putIn, if_neg (by rw [Bool.and_eq_true]; exact fun z => c_12 (wn_iff.mp z.2))]) rfl hX frX_rfl
  · have hgk := c_5
    obtain ⟨g, hg, rfl⟩ : ∃ g, g < P.1 ∧ x = nI g := ⟨_, gok_nI c_5⟩
    have hgc : (nI g).toNatClampNeg = g := nI_clamp (by omega)
    refine x_iload_n dX6_putIn_8 rfl rfl ?_
    refine kX6_138 dX6_putIn_9 rfl (c_isLane) (by decide) (Nat.le_of_ble_eq_true rfl) ?_
    refine x_ifne_b (tgt := 17) dX6_putIn_12 (by decide) (fun c_12 => ?_) (fun c_12 => ?_)
    · have hok : (gok P (nI g) && wn l 0 1) = true := by rw [Bool.and_eq_true]; exact ⟨hgk, wn_iff.mpr c_12⟩
      refine x_aload_n dX6_putIn_17 rfl rfl ?_
      refine gX6_31 dX6_putIn_18 rfl (by assumption) rfl ?_
      refine x_iload_n dX6_putIn_21 rfl rfl ?_
      refine kX6_141 dX6_putIn_22 rfl (by assumption) (c_canGoIn hN hL xP xB hg) (by decide) (Nat.le_of_ble_eq_true rfl) ?_
      refine x_ifeq_b (tgt := 39) dX6_putIn_25 (by decide) (fun c_25 => ?_) (fun c_25 => ?_)
      · refine x_bipush (v := (-2)) dX6_putIn_39 (by decide) ?_
        refine x_ireturn dX6_putIn_41 rfl rfl ?_
        first
        | exact qO_of (by rw [o_putIn, if_pos hok, if_neg (by rw [Bool.and_eq_true, hgc]; exact fun z => c_25 z.1)]) rfl hX frX_rfl
        | exact qO_of (by rw [o_putIn, if_pos hok, if_neg (by rw [Bool.and_eq_true, hgc]; exact fun z => c_36 z.2)]) rfl hX frX_rfl
      · refine x_aload_n dX6_putIn_28 rfl rfl ?_
        refine gX6_31 dX6_putIn_29 rfl (by assumption) rfl ?_
        refine x_iload_n dX6_putIn_32 rfl rfl ?_
        refine kX6_144 dX6_putIn_33 rfl (by assumption) (c_isFreeAtStart hN hL xP xB) (by decide) (Nat.le_of_ble_eq_true rfl) ?_
        refine x_ifne_b (tgt := 42) dX6_putIn_36 (by decide) (fun c_36 => ?_) (fun c_36 => ?_)
        · refine x_aload_n dX6_putIn_42 rfl rfl ?_
          refine gX6_44 dX6_putIn_43 rfl (by assumption) rfl ?_
          refine x_aload_n dX6_putIn_46 rfl rfl ?_
          refine gX6_31 dX6_putIn_47 rfl (by assumption) rfl ?_
          refine kX6_147r dX6_putIn_50 rfl (by assumption) (c_remember hPa xA hN xB (by omega)) (by decide) (Nat.le_of_ble_eq_true rfl) (fun S1 hq => ?_)
          obtain ⟨-, xA1, hf1⟩ := hq
          have xB1 := frA_B hf1 xB
          have xP1 := frA_P hf1 xP
          refine x_aload_n dX6_putIn_53 rfl rfl ?_
          refine gX6_31 dX6_putIn_54 rfl (by assumption) rfl ?_
          refine x_iload_n dX6_putIn_57 rfl rfl ?_
          refine x_iload_n dX6_putIn_58 rfl rfl ?_
          refine kX6_151r dX6_putIn_59 rfl (by assumption) (c_setAtStart hN xB1 (by omega)) (by decide) (Nat.le_of_ble_eq_true rfl) (fun S2 hq => ?_)
          obtain ⟨-, h2⟩ := hq
          obtain ⟨hX2, hf2⟩ := RX_act hX xA1 hf1 h2
          have xP2 := ch_P h2 (by omega) xP1
          refine x_aload_n dX6_putIn_62 rfl rfl ?_
          refine gX6_31 dX6_putIn_63 rfl (by assumption) rfl ?_
          refine x_iconst (v := 1) dX6_putIn_66 (by decide) ?_
          refine kX6_155 dX6_putIn_67 rfl (by assumption) (c_howMany hN hL xP2 h2.1) (by decide) (Nat.le_of_ble_eq_true rfl) ?_
          refine x_ireturn dX6_putIn_70 rfl rfl ?_
          exact qO_of (by rw [o_putIn, if_pos hok, if_pos (by rw [Bool.and_eq_true, hgc]; exact ⟨c_25, c_36⟩), hgc]; rfl) rfl hX2 hf2
        · refine x_bipush (v := (-2)) dX6_putIn_39 (by decide) ?_
          refine x_ireturn dX6_putIn_41 rfl rfl ?_
          first
          | exact qO_of (by rw [o_putIn, if_pos hok, if_neg (by rw [Bool.and_eq_true, hgc]; exact fun z => c_25 z.1)]) rfl hX frX_rfl
          | exact qO_of (by rw [o_putIn, if_pos hok, if_neg (by rw [Bool.and_eq_true, hgc]; exact fun z => c_36 z.2)]) rfl hX frX_rfl
    · refine x_iconst (v := (-1)) dX6_putIn_15 (by decide) ?_
      refine x_ireturn dX6_putIn_16 rfl rfl ?_
      first
      | exact qO_of (by rw [o_putIn, if_neg (by rw [Bool.and_eq_true]; exact fun z => c_5 z.1)]) rfl hX frX_rfl
      | exact qO_of (by rw [o_putIn, if_neg (by rw [Bool.and_eq_true]; exact fun z => c_12 (wn_iff.mp z.2))]) rfl hX frX_rfl

set_option maxHeartbeats 1000000 in
set_option maxRecDepth 20000 in
theorem l_pass {B : sB} {S1 : sSt} {P : aP} {n on : Nat} (hx : shX B) (jP : iP P) (hn : n < 100) :
    ∀ (k i : Nat) (S0 : sSt) (q : aR), i + k = n → rP S0 8 P → chB S1 S0 12 q → (0 ≤ (q 1).toInt ∧ (q 1).toInt ≤ 30) → WS B (fun _ => True) yX6_pass cX6_pass 4 (some .int) 4 52 [(3, .int (nI i)), (2, .int (nI on)), (0, .ref (s_ad B 0)), (1, .int (nI n))] [] S0 (fun v S2 => v = some (.int (nI on - nI (onF P (momN P k q) 1))) ∧ chB S1 S2 12 (momN P k q)) := by
  obtain ⟨h0, hT0, hD, hL, hN, hTr, hLa, hPa, hKp, hSi, hSh, hK0, hK1⟩ := id hx
  have hTT := hT0.1
  have hDD := hD.1
  have hLL := hL.1
  have hL1 := hL.2.1
  have hL2 := hL.2.2.1
  have hL3 := hL.2.2.2
  have hNN := hN.1
  have hN1 := hN.2.1
  have hN2 := hN.2.2.1
  have hN3 := hN.2.2.2.1
  have hN4 := hN.2.2.2.2.1
  have hN5 := hN.2.2.2.2.2
  have hRR := hTr.1
  have hR4 := hTr.2.2.2.2.1
  have hVV := hLa.1
  have hAA := hPa.1
  have hSS := hSi.1
  have hHH := hSh.1
  have hH3 := hSh.2.2.2
  intro k
  induction k with
  | zero =>
    intro i S0 q hi hP0 H0 hh
    refine x_iload_n dX6_pass_52 rfl rfl ?_
    refine x_iload_n dX6_pass_53 rfl rfl ?_
    refine x_icmp_ge (tgt := 70) dX6_pass_54 (by decide) (fun c_54 => ?_) (fun c_54 => ?_)
    · refine x_iload_n dX6_pass_70 rfl rfl ?_
      refine x_aload_n dX6_pass_71 rfl rfl ?_
      refine gX6_31 dX6_pass_72 rfl (by assumption) rfl ?_
      refine x_iconst (v := 1) dX6_pass_75 (by decide) ?_
      refine kX6_155 dX6_pass_76 rfl (by assumption) (c_howMany hN hL hP0 H0.1) (by decide) (Nat.le_of_ble_eq_true rfl) ?_
      refine x_isub dX6_pass_79 ?_
      refine x_ireturn dX6_pass_80 rfl rfl ?_
      exact ⟨rfl, H0⟩
    · exact absurd (by exact nI_le (by omega) (by omega)) c_54
  | succ k ih =>
    intro i S0 q hi hP0 H0 hh
    refine x_iload_n dX6_pass_52 rfl rfl ?_
    refine x_iload_n dX6_pass_53 rfl rfl ?_
    refine x_icmp_ge (tgt := 70) dX6_pass_54 (by decide) (fun c_54 => ?_) (fun c_54 => ?_)
    · exact absurd c_54 (by exact nI_ge (by omega) (by omega))
    · refine x_aload_n dX6_pass_57 rfl rfl ?_
      refine gX6_31 dX6_pass_58 rfl (by assumption) rfl ?_
      refine kX6_161r dX6_pass_61 rfl (by assumption) (c_goOn hN hL hP0 H0.1 (by omega) jP hh) (by decide) (Nat.le_of_ble_eq_true rfl) (fun S2 hq => ?_)
      obtain ⟨-, hq1⟩ := hq
      have H2 := chB_trans H0 hq1
      have hP2 := ch_P hq1 (by omega) hP0
      first | refine x_inc1N (lv' := [(3, _), (2, _), (0, _), (1, _)]) dX6_pass_64 rfl (by decide) rfl ?_ | refine x_iinc (v := _ + 1) (lv' := [(3, _), (2, _), (0, _), (1, _)]) dX6_pass_64 rfl rfl (by decide) rfl ?_
      refine x_goto (tgt := 52) dX6_pass_67 (by decide) ?_
      rw [momN]
      exact ih (i + 1) S2 _ (by omega) hP2 H2 (momF_heat jP hh)

set_option maxHeartbeats 1000000 in
set_option maxRecDepth 20000 in
theorem cX_pass {B : sB} {S : sSt} {T : Nat × (Nat → Nat)} {P : aP} {r : aR} {acts kept : List aR} {f : aF} (hx : shX B) (hX : RX S (T, P, r, acts, kept, f)) (hI : iA (T, P, r, acts, kept, f)) {x : Int32} : CS B yX6_pass cX6_pass 4 (some .int) 4 [.ref (s_ad B 0), .int x] S (qO S (o_pass (T, P, r, acts, kept, f) x)) := by
  refine cs_intro (lv := [(0, .ref (s_ad B 0)), (1, .int x)]) rfl ?_
  obtain ⟨h0, hT0, hD, hL, hN, hTr, hLa, hPa, hKp, hSi, hSh, hK0, hK1⟩ := id hx
  have hTT := hT0.1
  have hDD := hD.1
  have hLL := hL.1
  have hL1 := hL.2.1
  have hL2 := hL.2.2.1
  have hL3 := hL.2.2.2
  have hNN := hN.1
  have hN1 := hN.2.1
  have hN2 := hN.2.2.1
  have hN3 := hN.2.2.2.1
  have hN4 := hN.2.2.2.2.1
  have hN5 := hN.2.2.2.2.2
  have hRR := hTr.1
  have hR4 := hTr.2.2.2.2.1
  have hVV := hLa.1
  have hAA := hPa.1
  have hSS := hSi.1
  have hHH := hSh.1
  have hH3 := hSh.2.2.2
  obtain ⟨xT, xP, xB, xA, xE, xF⟩ := id hX
  have xT : rT S 1 T.2 T.1 := xT
  have xP : rP S 8 P := xP
  have xB : rB S 12 r := xB
  have xA : rA S 30 acts := xA
  have xE : rE S kept := xE
  have xF : rF S 81 f := xF
  have hn9 : P.1 ≤ 9 := xP.1
  obtain ⟨jP, jR, jA, jE, jF⟩ := id hI
  have jP : iP P := jP
  have jR : iR P r := jR
  have jF : iF f := jF
  have hn1 : 1 ≤ P.1 := jP.1
  refine x_iload_n dX6_pass_0 rfl rfl ?_
  refine x_iconst (v := 1) dX6_pass_1 (by decide) ?_
  refine x_bipush (v := 60) dX6_pass_2 (by decide) ?_
  refine kX6_92 dX6_pass_4 rfl (c_within) (by decide) (Nat.le_of_ble_eq_true rfl) ?_
  refine x_ifne_b (tgt := 12) dX6_pass_7 (by decide) (fun c_7 => ?_) (fun c_7 => ?_)
  · have hw := wn_iff.mpr c_7
    obtain ⟨n, hn, rfl⟩ : ∃ n, n ≤ 60 ∧ x = nI n := by
      obtain ⟨z1, z2⟩ := c_7
      rw [Int32.le_iff_toInt_le] at z1 z2
      have e1 : (1 : Int32).toInt = 1 := by decide
      have e2 : (60 : Int32).toInt = 60 := by decide
      exact nI_of3 (by omega) (by omega) (by decide)
    have hnc : (nI n).toNatClampNeg = n := nI_clamp (by omega)
    refine x_aload_n dX6_pass_12 rfl rfl ?_
    refine gX6_31 dX6_pass_13 rfl (by assumption) rfl ?_
    refine gX6_158 dX6_pass_16 rfl (by assumption) rfl ?_
    refine x_iload_n dX6_pass_19 rfl rfl ?_
    refine x_iadd dX6_pass_20 ?_
    refine x_sipush (v := 999) dX6_pass_21 (by decide) ?_
    rw [xB.2.2.1]
    refine x_icmp_le (tgt := 30) dX6_pass_24 (by decide) (fun c_24 => ?_) (fun c_24 => ?_)
    · refine x_aload_n dX6_pass_30 rfl rfl ?_
      refine gX6_44 dX6_pass_31 rfl (by assumption) rfl ?_
      refine x_aload_n dX6_pass_34 rfl rfl ?_
      refine gX6_31 dX6_pass_35 rfl (by assumption) rfl ?_
      refine kX6_147r dX6_pass_38 rfl (by assumption) (c_remember hPa xA hN xB (by omega)) (by decide) (Nat.le_of_ble_eq_true rfl) (fun S1 hq => ?_)
      obtain ⟨-, xA1, hf1⟩ := hq
      have xB1 := frA_B hf1 xB
      have xP1 := frA_P hf1 xP
      refine x_aload_n dX6_pass_41 rfl rfl ?_
      refine gX6_31 dX6_pass_42 rfl (by assumption) rfl ?_
      refine x_iconst (v := 1) dX6_pass_45 (by decide) ?_
      refine kX6_155 dX6_pass_46 rfl (by assumption) (c_howMany hN hL xP1 xB1) (by decide) (Nat.le_of_ble_eq_true rfl) ?_
      refine x_istore_n (lv' := [(2, _), (0, _), (1, _)]) dX6_pass_49 rfl (by decide) rfl ?_
      refine x_iconst (v := 0) dX6_pass_50 (by decide) ?_
      refine x_istore_n (lv' := [(3, _), (2, _), (0, _), (1, _)]) dX6_pass_51 rfl (by decide) rfl ?_
      refine x_post (fun v S2 hq => ?_) (l_pass hx jP (by omega) n 0 S1 r (by omega) xP1 (chB_rfl xB1) jR.2.1)
      obtain ⟨q1, q2⟩ := hq
      obtain ⟨hX2, hf2⟩ := RX_act hX xA1 hf1 q2
      cases q1
      exact qO_of (by rw [o_pass, if_pos hw, if_neg (by rw [Int32.not_lt]; exact c_24), hnc]; rfl) rfl hX2 hf2
    · refine x_bipush (v := (-2)) dX6_pass_27 (by decide) ?_
      refine x_ireturn dX6_pass_29 rfl rfl ?_
      exact qO_of (by rw [o_pass, if_pos hw, if_pos (by rw [← Int32.not_le]; exact c_24)]) rfl hX frX_rfl
  · refine x_iconst (v := (-1)) dX6_pass_10 (by decide) ?_
    refine x_ireturn dX6_pass_11 rfl rfl ?_
    exact qO_of (by rw [o_pass, if_neg (fun h => c_7 (wn_iff.mp h))]) rfl hX frX_rfl

set_option maxHeartbeats 1000000 in
set_option maxRecDepth 20000 in
theorem cX_knob {B : sB} {S : sSt} {T : Nat × (Nat → Nat)} {P : aP} {r : aR} {acts kept : List aR} {f : aF} (hx : shX B) (hX : RX S (T, P, r, acts, kept, f)) {x : Int32} : CS B yX6_knob cX6_knob 3 (some .int) 4 [.ref (s_ad B 0), .int x] S (qO S (o_knob (T, P, r, acts, kept, f) x)) := by
  refine cs_intro (lv := [(0, .ref (s_ad B 0)), (1, .int x)]) rfl ?_
  obtain ⟨h0, hT0, hD, hL, hN, hTr, hLa, hPa, hKp, hSi, hSh, hK0, hK1⟩ := id hx
  have hTT := hT0.1
  have hDD := hD.1
  have hLL := hL.1
  have hL1 := hL.2.1
  have hL2 := hL.2.2.1
  have hL3 := hL.2.2.2
  have hNN := hN.1
  have hN1 := hN.2.1
  have hN2 := hN.2.2.1
  have hN3 := hN.2.2.2.1
  have hN4 := hN.2.2.2.2.1
  have hN5 := hN.2.2.2.2.2
  have hRR := hTr.1
  have hR4 := hTr.2.2.2.2.1
  have hVV := hLa.1
  have hAA := hPa.1
  have hSS := hSi.1
  have hHH := hSh.1
  have hH3 := hSh.2.2.2
  obtain ⟨xT, xP, xB, xA, xE, xF⟩ := id hX
  have xT : rT S 1 T.2 T.1 := xT
  have xP : rP S 8 P := xP
  have xB : rB S 12 r := xB
  have xA : rA S 30 acts := xA
  have xE : rE S kept := xE
  have xF : rF S 81 f := xF
  have hn9 : P.1 ≤ 9 := xP.1
  refine x_iload_n dX6_knob_0 rfl rfl ?_
  refine kX6_164 dX6_knob_1 rfl (c_isKnob) (by decide) (Nat.le_of_ble_eq_true rfl) ?_
  refine x_ifne_b (tgt := 9) dX6_knob_4 (by decide) (fun c_4 => ?_) (fun c_4 => ?_)
  · refine x_aload_n dX6_knob_9 rfl rfl ?_
    refine gX6_44 dX6_knob_10 rfl (by assumption) rfl ?_
    refine x_aload_n dX6_knob_13 rfl rfl ?_
    refine gX6_31 dX6_knob_14 rfl (by assumption) rfl ?_
    refine kX6_147r dX6_knob_17 rfl (by assumption) (c_remember hPa xA hN xB (by omega)) (by decide) (Nat.le_of_ble_eq_true rfl) (fun S1 hq => ?_)
    obtain ⟨-, xA1, hf1⟩ := hq
    have xB1 := frA_B hf1 xB
    have xP1 := frA_P hf1 xP
    refine x_aload_n dX6_knob_20 rfl rfl ?_
    refine gX6_31 dX6_knob_21 rfl (by assumption) rfl ?_
    refine gX6_167 dX6_knob_24 rfl (by assumption) rfl ?_
    refine x_istore_n (lv' := [(2, _), (0, _), (1, _)]) dX6_knob_27 rfl (by decide) rfl ?_
    refine x_aload_n dX6_knob_28 rfl rfl ?_
    refine gX6_31 dX6_knob_29 rfl (by assumption) rfl ?_
    refine x_iload_n dX6_knob_32 rfl rfl ?_
    refine pX6_167 dX6_knob_33 rfl (by assumption) rfl ?_
    refine x_iload_n dX6_knob_36 rfl rfl ?_
    refine x_ireturn dX6_knob_37 rfl rfl ?_
    obtain ⟨hX2, hf2⟩ := RX_act hX xA1 hf1 (chB_k (v := x) (chB_rfl xB1))
    exact qO_of (by rw [o_knob, if_pos (wn_iff.mpr c_4)]; rfl) xB1.1 hX2 hf2
  · refine x_iconst (v := (-1)) dX6_knob_7 (by decide) ?_
    refine x_ireturn dX6_knob_8 rfl rfl ?_
    exact qO_of (by rw [o_knob, if_neg (fun h => c_4 (wn_iff.mp h))]) rfl hX frX_rfl

set_option maxHeartbeats 1000000 in
set_option maxRecDepth 20000 in
theorem cX_take {B : sB} {S : sSt} {T : Nat × (Nat → Nat)} {P : aP} {r : aR} {acts kept : List aR} {f : aF} (hx : shX B) (hX : RX S (T, P, r, acts, kept, f)) (hn1 : 1 ≤ P.1) {x y : Int32} : CS B yX6_take cX6_take 3 (some .int) 4 [.ref (s_ad B 0), .int x, .int y] S (qO S (o_take (T, P, r, acts, kept, f) x y)) := by
  refine cs_intro (lv := [(0, .ref (s_ad B 0)), (1, .int x), (2, .int y)]) rfl ?_
  obtain ⟨h0, hT0, hD, hL, hN, hTr, hLa, hPa, hKp, hSi, hSh, hK0, hK1⟩ := id hx
  have hTT := hT0.1
  have hDD := hD.1
  have hLL := hL.1
  have hL1 := hL.2.1
  have hL2 := hL.2.2.1
  have hL3 := hL.2.2.2
  have hNN := hN.1
  have hN1 := hN.2.1
  have hN2 := hN.2.2.1
  have hN3 := hN.2.2.2.1
  have hN4 := hN.2.2.2.2.1
  have hN5 := hN.2.2.2.2.2
  have hRR := hTr.1
  have hR4 := hTr.2.2.2.2.1
  have hVV := hLa.1
  have hAA := hPa.1
  have hSS := hSi.1
  have hHH := hSh.1
  have hH3 := hSh.2.2.2
  obtain ⟨xT, xP, xB, xA, xE, xF⟩ := id hX
  have xT : rT S 1 T.2 T.1 := xT
  have xP : rP S 8 P := xP
  have xB : rB S 12 r := xB
  have xA : rA S 30 acts := xA
  have xE : rE S kept := xE
  have xF : rF S 81 f := xF
  have hn9 : P.1 ≤ 9 := xP.1
  refine x_aload_n dX6_take_0 rfl rfl ?_
  refine x_iload_n dX6_take_1 rfl rfl ?_
  refine kX6_101 dX6_take_2 rfl (by assumption) (c_isGuest hx hX hn1) (by decide) (Nat.le_of_ble_eq_true rfl) ?_
  refine x_ifeq_b (tgt := 16) dX6_take_5 (by decide) (fun c_5 => ?_) (fun c_5 => ?_)
  · refine x_iconst (v := (-1)) dX6_take_16 (by decide) ?_
    refine x_ireturn dX6_take_17 rfl rfl ?_
    first
    | exact qO_of (by rw [o_take, if_neg (by rw [Bool.and_eq_true]; exact fun z => c_5 z.1)]) rfl hX frX_rfl
    | exact qO_of (by rw [o_take, if_neg (by rw [Bool.and_eq_true]; exact fun z => c_13 z.2)]) rfl hX frX_rfl
  · have hgk := c_5
    obtain ⟨g, hg, rfl⟩ : ∃ g, g < P.1 ∧ x = nI g := ⟨_, gok_nI c_5⟩
    have hgc : (nI g).toNatClampNeg = g := nI_clamp (by omega)
    refine x_aload_n dX6_take_8 rfl rfl ?_
    refine x_iload_n dX6_take_9 rfl rfl ?_
    refine kX6_101 dX6_take_10 rfl (by assumption) (c_isGuest hx hX hn1) (by decide) (Nat.le_of_ble_eq_true rfl) ?_
    refine x_ifne_b (tgt := 18) dX6_take_13 (by decide) (fun c_13 => ?_) (fun c_13 => ?_)
    · have hgk2 := c_13
      have hok : (gok P (nI g) && gok P y) = true := by rw [Bool.and_eq_true]; exact ⟨hgk, hgk2⟩
      obtain ⟨s, hs, rfl⟩ : ∃ g, g < P.1 ∧ y = nI g := ⟨_, gok_nI c_13⟩
      have hsc : (nI s).toNatClampNeg = s := nI_clamp (by omega)
      refine x_aload_n dX6_take_18 rfl rfl ?_
      refine gX6_31 dX6_take_19 rfl (by assumption) rfl ?_
      refine x_iload_n dX6_take_22 rfl rfl ?_
      refine x_iload_n dX6_take_23 rfl rfl ?_
      refine kX6_170 dX6_take_24 rfl (by assumption) (c_mayEat hN hL xP xB hg hs) (by decide) (Nat.le_of_ble_eq_true rfl) ?_
      refine x_ifne_b (tgt := 33) dX6_take_27 (by decide) (fun c_27 => ?_) (fun c_27 => ?_)
      · refine x_aload_n dX6_take_33 rfl rfl ?_
        refine gX6_44 dX6_take_34 rfl (by assumption) rfl ?_
        refine x_aload_n dX6_take_37 rfl rfl ?_
        refine gX6_31 dX6_take_38 rfl (by assumption) rfl ?_
        refine kX6_147r dX6_take_41 rfl (by assumption) (c_remember hPa xA hN xB (by omega)) (by decide) (Nat.le_of_ble_eq_true rfl) (fun S1 hq => ?_)
        obtain ⟨-, xA1, hf1⟩ := hq
        have xB1 := frA_B hf1 xB
        have xP1 := frA_P hf1 xP
        refine x_aload_n dX6_take_44 rfl rfl ?_
        refine gX6_31 dX6_take_45 rfl (by assumption) rfl ?_
        refine x_iload_n dX6_take_48 rfl rfl ?_
        refine x_iload_n dX6_take_49 rfl rfl ?_
        refine kX6_173r dX6_take_50 rfl (by assumption) (c_eat hN xB1 (by omega)) (by decide) (Nat.le_of_ble_eq_true rfl) (fun S2 hq => ?_)
        obtain ⟨-, h2⟩ := hq
        obtain ⟨hX2, hf2⟩ := RX_act hX xA1 hf1 h2
        have xP2 := ch_P h2 (by omega) xP1
        refine x_aload_n dX6_take_53 rfl rfl ?_
        refine gX6_31 dX6_take_54 rfl (by assumption) rfl ?_
        refine x_iload_n dX6_take_57 rfl rfl ?_
        refine x_iload_n dX6_take_58 rfl rfl ?_
        refine kX6_134 dX6_take_59 rfl (by assumption) (c_isRight hN hL xP2 h2.1 hg hs) (by decide) (Nat.le_of_ble_eq_true rfl) ?_
        refine x_ifeq_b (tgt := 69) dX6_take_62 (by decide) (fun c_62 => ?_) (fun c_62 => ?_)
        · refine x_iconst (v := 0) dX6_take_69 (by decide) ?_
          refine x_ireturn dX6_take_70 rfl rfl ?_
          first
          | exact qO_of (by rw [o_take, if_pos hok, if_pos (by rw [hgc, hsc]; exact c_27), hgc, hsc]; rfl) (bI_f c_62) hX2 hf2
          | exact qO_of (by rw [o_take, if_pos hok, if_pos (by rw [hgc, hsc]; exact c_27), hgc, hsc]; rfl) (bI_t c_62) hX2 hf2
        · refine x_iconst (v := 1) dX6_take_65 (by decide) ?_
          refine x_goto (tgt := 70) dX6_take_66 (by decide) ?_
          refine x_ireturn dX6_take_70 rfl rfl ?_
          first
          | exact qO_of (by rw [o_take, if_pos hok, if_pos (by rw [hgc, hsc]; exact c_27), hgc, hsc]; rfl) (bI_f c_62) hX2 hf2
          | exact qO_of (by rw [o_take, if_pos hok, if_pos (by rw [hgc, hsc]; exact c_27), hgc, hsc]; rfl) (bI_t c_62) hX2 hf2
      · refine x_bipush (v := (-2)) dX6_take_30 (by decide) ?_
        refine x_ireturn dX6_take_32 rfl rfl ?_
        exact qO_of (by rw [o_take, if_pos hok, if_neg (by rw [hgc, hsc]; exact c_27)]) rfl hX frX_rfl
    · refine x_iconst (v := (-1)) dX6_take_16 (by decide) ?_
      refine x_ireturn dX6_take_17 rfl rfl ?_
      first
      | exact qO_of (by rw [o_take, if_neg (by rw [Bool.and_eq_true]; exact fun z => c_5 z.1)]) rfl hX frX_rfl
      | exact qO_of (by rw [o_take, if_neg (by rw [Bool.and_eq_true]; exact fun z => c_13 z.2)]) rfl hX frX_rfl

set_option maxHeartbeats 1000000 in
set_option maxRecDepth 20000 in
theorem cX_undo {B : sB} {S : sSt} {T : Nat × (Nat → Nat)} {P : aP} {r : aR} {acts kept : List aR} {f : aF} (hx : shX B) (hX : RX S (T, P, r, acts, kept, f)) : CS B yX6_undo cX6_undo 1 (some .int) 3 [.ref (s_ad B 0)] S (qO S (o_undo (T, P, r, acts, kept, f))) := by
  refine cs_intro (lv := [(0, .ref (s_ad B 0))]) rfl ?_
  obtain ⟨h0, hT0, hD, hL, hN, hTr, hLa, hPa, hKp, hSi, hSh, hK0, hK1⟩ := id hx
  have hTT := hT0.1
  have hDD := hD.1
  have hLL := hL.1
  have hL1 := hL.2.1
  have hL2 := hL.2.2.1
  have hL3 := hL.2.2.2
  have hNN := hN.1
  have hN1 := hN.2.1
  have hN2 := hN.2.2.1
  have hN3 := hN.2.2.2.1
  have hN4 := hN.2.2.2.2.1
  have hN5 := hN.2.2.2.2.2
  have hRR := hTr.1
  have hR4 := hTr.2.2.2.2.1
  have hVV := hLa.1
  have hAA := hPa.1
  have hSS := hSi.1
  have hHH := hSh.1
  have hH3 := hSh.2.2.2
  obtain ⟨xT, xP, xB, xA, xE, xF⟩ := id hX
  have xT : rT S 1 T.2 T.1 := xT
  have xP : rP S 8 P := xP
  have xB : rB S 12 r := xB
  have xA : rA S 30 acts := xA
  have xE : rE S kept := xE
  have xF : rF S 81 f := xF
  have hn9 : P.1 ≤ 9 := xP.1
  have hmy : acts.length ≤ 8 ∧ S 30 2 = nI acts.length := by obtain ⟨nx, z1, z2, z3, z4, z5⟩ := id xA; exact ⟨z3, z4⟩
  refine x_aload_n dX6_undo_0 rfl rfl ?_
  refine gX6_44 dX6_undo_1 rfl (by assumption) rfl ?_
  refine gX6_176 dX6_undo_4 rfl (by assumption) rfl ?_
  rw [hmy.2]
  refine x_if_ne (tgt := 13) dX6_undo_7 (by decide) (fun c_7 => ?_) (fun c_7 => ?_)
  · obtain ⟨q, rest, rfl⟩ : ∃ q rest, acts = q :: rest := by
      cases acts with
      | nil => exact absurd rfl c_7
      | cons q rest => exact ⟨q, rest, rfl⟩
    refine x_aload_n dX6_undo_13 rfl rfl ?_
    refine gX6_44 dX6_undo_14 rfl (by assumption) rfl ?_
    refine x_aload_n dX6_undo_17 rfl rfl ?_
    refine gX6_31 dX6_undo_18 rfl (by assumption) rfl ?_
    refine kX6_179r dX6_undo_21 rfl (by assumption) (c_bringBack hPa xA hN (by omega)) (by decide) (Nat.le_of_ble_eq_true rfl) (fun S1 hq => ?_)
    obtain ⟨-, q1, q2, q3⟩ := hq
    have e1 : S1 30 2 = nI rest.length := by obtain ⟨nx, z1, z2, z3, z4, z5⟩ := id q1; exact z4
    refine x_aload_n dX6_undo_24 rfl rfl ?_
    refine gX6_44 dX6_undo_25 rfl (by assumption) rfl ?_
    refine gX6_176 dX6_undo_28 rfl (by assumption) rfl ?_
    refine x_ireturn dX6_undo_31 rfl rfl ?_
    exact qO_of (by rw [o_undo]) e1 (RX_upd hX q2 q1 (fun a h1 h2 h3 h4 => q3 a (by omega) (by omega)) (by rw [q3 1 (by omega) (by omega)])) (fun a h => q3 a (by omega) (by omega))
  · have he : acts = [] := by
      cases acts with
      | nil => rfl
      | cons q rest => exact absurd c_7 (nI_ne0 (by rw [List.length_cons]; omega) (by have := hmy.1; omega))
    subst he
    refine x_bipush (v := (-2)) dX6_undo_10 (by decide) ?_
    refine x_ireturn dX6_undo_12 rfl rfl ?_
    exact qO_of (by rw [o_undo]) rfl hX frX_rfl

set_option maxHeartbeats 1000000 in
set_option maxRecDepth 20000 in
theorem cX_falls {B : sB} {S : sSt} {T : Nat × (Nat → Nat)} {P : aP} {r : aR} {acts kept : List aR} {f : aF} (hx : shX B) (hX : RX S (T, P, r, acts, kept, f)) (hI : iA (T, P, r, acts, kept, f)) {x : Int32} : CS B yX6_falls cX6_falls 2 (some .int) 3 [.ref (s_ad B 0), .int x] S (qO S (o_falls (T, P, r, acts, kept, f) x)) := by
  refine cs_intro (lv := [(0, .ref (s_ad B 0)), (1, .int x)]) rfl ?_
  obtain ⟨h0, hT0, hD, hL, hN, hTr, hLa, hPa, hKp, hSi, hSh, hK0, hK1⟩ := id hx
  have hTT := hT0.1
  have hDD := hD.1
  have hLL := hL.1
  have hL1 := hL.2.1
  have hL2 := hL.2.2.1
  have hL3 := hL.2.2.2
  have hNN := hN.1
  have hN1 := hN.2.1
  have hN2 := hN.2.2.1
  have hN3 := hN.2.2.2.1
  have hN4 := hN.2.2.2.2.1
  have hN5 := hN.2.2.2.2.2
  have hRR := hTr.1
  have hR4 := hTr.2.2.2.2.1
  have hVV := hLa.1
  have hAA := hPa.1
  have hSS := hSi.1
  have hHH := hSh.1
  have hH3 := hSh.2.2.2
  obtain ⟨xT, xP, xB, xA, xE, xF⟩ := id hX
  have xT : rT S 1 T.2 T.1 := xT
  have xP : rP S 8 P := xP
  have xB : rB S 12 r := xB
  have xA : rA S 30 acts := xA
  have xE : rE S kept := xE
  have xF : rF S 81 f := xF
  have hn9 : P.1 ≤ 9 := xP.1
  obtain ⟨jP, jR, jA, jE, jF⟩ := id hI
  have jP : iP P := jP
  have jR : iR P r := jR
  have jF : iF f := jF
  have hn1 : 1 ≤ P.1 := jP.1
  refine x_aload_n dX6_falls_0 rfl rfl ?_
  refine x_iload_n dX6_falls_1 rfl rfl ?_
  refine kX6_101 dX6_falls_2 rfl (by assumption) (c_isGuest hx hX hn1) (by decide) (Nat.le_of_ble_eq_true rfl) ?_
  refine x_ifne_b (tgt := 10) dX6_falls_5 (by decide) (fun c_5 => ?_) (fun c_5 => ?_)
  · have hgk := c_5
    obtain ⟨g, hg, rfl⟩ : ∃ g, g < P.1 ∧ x = nI g := ⟨_, gok_nI c_5⟩
    have hgc : (nI g).toNatClampNeg = g := nI_clamp (by omega)
    obtain ⟨b1, b2, b3, b4, b5⟩ := xB.2.2.2 g (by omega)
    refine x_aload_n dX6_falls_10 rfl rfl ?_
    refine gX6_31 dX6_falls_11 rfl (by assumption) rfl ?_
    refine gX6_119 dX6_falls_14 rfl (by assumption) rfl ?_
    refine x_iload_n dX6_falls_17 rfl rfl ?_
    first | refine x_ialdN (by assumption) dX6_falls_18 (by omega) (by decide) ?_ | refine x_iald (by assumption) dX6_falls_18 (by assumption) ?_
    refine x_iconst (v := 1) dX6_falls_19 (by decide) ?_
    rw [b1]
    refine x_icmp_eq (tgt := 26) dX6_falls_20 (by decide) (fun c_20 => ?_) (fun c_20 => ?_)
    · refine x_aload_n dX6_falls_26 rfl rfl ?_
      refine gX6_23 dX6_falls_27 rfl (by assumption) rfl ?_
      refine gX6_182 dX6_falls_30 rfl (by assumption) rfl ?_
      refine x_aload_n dX6_falls_33 rfl rfl ?_
      refine gX6_31 dX6_falls_34 rfl (by assumption) rfl ?_
      refine gX6_125 dX6_falls_37 rfl (by assumption) rfl ?_
      refine x_iload_n dX6_falls_40 rfl rfl ?_
      first | refine x_ialdN (by assumption) dX6_falls_41 (by omega) (by decide) ?_ | refine x_iald (by assumption) dX6_falls_41 (by assumption) ?_
      refine x_isub dX6_falls_42 ?_
      refine x_aload_n dX6_falls_43 rfl rfl ?_
      refine gX6_31 dX6_falls_44 rfl (by assumption) rfl ?_
      refine gX6_167 dX6_falls_47 rfl (by assumption) rfl ?_
      rw [xP.2.2.1, b3, xB.1]
      refine kX6_184 dX6_falls_50 rfl (c_momentsThrough jR.1.1) (by decide) (Nat.le_of_ble_eq_true rfl) ?_
      refine x_ireturn dX6_falls_53 rfl rfl ?_
      exact qO_of (by rw [o_falls, if_pos hgk, hgc, if_pos c_20]) rfl hX frX_rfl
    · refine x_bipush (v := (-4)) dX6_falls_23 (by decide) ?_
      refine x_ireturn dX6_falls_25 rfl rfl ?_
      exact qO_of (by rw [o_falls, if_pos hgk, hgc, if_neg c_20]) rfl hX frX_rfl
  · refine x_iconst (v := (-1)) dX6_falls_8 (by decide) ?_
    refine x_ireturn dX6_falls_9 rfl rfl ?_
    exact qO_of (by rw [o_falls, if_neg c_5]) rfl hX frX_rfl

set_option maxHeartbeats 1000000 in
set_option maxRecDepth 20000 in
theorem cX_willBe {B : sB} {S : sSt} {T : Nat × (Nat → Nat)} {P : aP} {r : aR} {acts kept : List aR} {f : aF} (hx : shX B) (hX : RX S (T, P, r, acts, kept, f)) (hI : iA (T, P, r, acts, kept, f)) {x : Int32} : CS B yX6_willBe cX6_willBe 2 (some .int) 5 [.ref (s_ad B 0), .int x] S (qO S (o_willBe (T, P, r, acts, kept, f) x)) := by
  refine cs_intro (lv := [(0, .ref (s_ad B 0)), (1, .int x)]) rfl ?_
  obtain ⟨h0, hT0, hD, hL, hN, hTr, hLa, hPa, hKp, hSi, hSh, hK0, hK1⟩ := id hx
  have hTT := hT0.1
  have hDD := hD.1
  have hLL := hL.1
  have hL1 := hL.2.1
  have hL2 := hL.2.2.1
  have hL3 := hL.2.2.2
  have hNN := hN.1
  have hN1 := hN.2.1
  have hN2 := hN.2.2.1
  have hN3 := hN.2.2.2.1
  have hN4 := hN.2.2.2.2.1
  have hN5 := hN.2.2.2.2.2
  have hRR := hTr.1
  have hR4 := hTr.2.2.2.2.1
  have hVV := hLa.1
  have hAA := hPa.1
  have hSS := hSi.1
  have hHH := hSh.1
  have hH3 := hSh.2.2.2
  obtain ⟨xT, xP, xB, xA, xE, xF⟩ := id hX
  have xT : rT S 1 T.2 T.1 := xT
  have xP : rP S 8 P := xP
  have xB : rB S 12 r := xB
  have xA : rA S 30 acts := xA
  have xE : rE S kept := xE
  have xF : rF S 81 f := xF
  have hn9 : P.1 ≤ 9 := xP.1
  obtain ⟨jP, jR, jA, jE, jF⟩ := id hI
  have jP : iP P := jP
  have jR : iR P r := jR
  have jF : iF f := jF
  have hn1 : 1 ≤ P.1 := jP.1
  refine x_aload_n dX6_willBe_0 rfl rfl ?_
  refine x_iload_n dX6_willBe_1 rfl rfl ?_
  refine kX6_101 dX6_willBe_2 rfl (by assumption) (c_isGuest hx hX hn1) (by decide) (Nat.le_of_ble_eq_true rfl) ?_
  refine x_ifne_b (tgt := 10) dX6_willBe_5 (by decide) (fun c_5 => ?_) (fun c_5 => ?_)
  · have hgk := c_5
    obtain ⟨g, hg, rfl⟩ : ∃ g, g < P.1 ∧ x = nI g := ⟨_, gok_nI c_5⟩
    have hgc : (nI g).toNatClampNeg = g := nI_clamp (by omega)
    obtain ⟨b1, b2, b3, b4, b5⟩ := xB.2.2.2 g (by omega)
    refine x_aload_n dX6_willBe_10 rfl rfl ?_
    refine gX6_31 dX6_willBe_11 rfl (by assumption) rfl ?_
    refine gX6_119 dX6_willBe_14 rfl (by assumption) rfl ?_
    refine x_iload_n dX6_willBe_17 rfl rfl ?_
    first | refine x_ialdN (by assumption) dX6_willBe_18 (by omega) (by decide) ?_ | refine x_iald (by assumption) dX6_willBe_18 (by assumption) ?_
    refine x_iconst (v := 3) dX6_willBe_19 (by decide) ?_
    rw [b1]
    refine x_icmp_ne (tgt := 26) dX6_willBe_20 (by decide) (fun c_20 => ?_) (fun c_20 => ?_)
    · refine x_aload_n dX6_willBe_26 rfl rfl ?_
      refine gX6_35 dX6_willBe_27 rfl (by assumption) rfl ?_
      refine x_aload_n dX6_willBe_30 rfl rfl ?_
      refine gX6_31 dX6_willBe_31 rfl (by assumption) rfl ?_
      refine kX6_188r dX6_willBe_34 rfl (by assumption) (c_copyFrom hTr hN xB (by omega)) (by decide) (Nat.le_of_ble_eq_true rfl) (fun S1 hq => ?_)
      obtain ⟨-, h1⟩ := hq
      have xP1 := ch_P h1 (by omega) xP
      refine x_aload_n dX6_willBe_37 rfl rfl ?_
      refine gX6_35 dX6_willBe_38 rfl (by assumption) rfl ?_
      refine x_iload_n dX6_willBe_41 rfl rfl ?_
      refine kX6_191r dX6_willBe_42 rfl (by assumption) (c_goOnTillFallen hTr hL xP1 h1.1 (by omega) jP (by omega) jR.2.1) (by decide) (Nat.le_of_ble_eq_true rfl) (fun S2 hq => ?_)
      obtain ⟨-, h2⟩ := hq
      have h12 := chB_trans h1 h2
      obtain ⟨hX2, hf2⟩ := RX_try hX h12 (Or.inl rfl)
      obtain ⟨d1, d2, d3, d4, d5⟩ := h2.1.2.2.2 g (by omega)
      refine x_aload_n dX6_willBe_45 rfl rfl ?_
      refine gX6_35 dX6_willBe_46 rfl (by assumption) rfl ?_
      refine gX6_128 dX6_willBe_49 rfl (by assumption) rfl ?_
      refine x_iload_n dX6_willBe_52 rfl rfl ?_
      first | refine x_ialdN (by assumption) dX6_willBe_53 (by omega) (by decide) ?_ | refine x_iald (by assumption) dX6_willBe_53 (by assumption) ?_
      refine x_ireturn dX6_willBe_54 rfl rfl ?_
      exact qO_of (by rw [o_willBe, if_pos hgk, hgc, if_neg c_20]) d4 hX2 hf2
    · refine x_bipush (v := (-4)) dX6_willBe_23 (by decide) ?_
      refine x_ireturn dX6_willBe_25 rfl rfl ?_
      exact qO_of (by rw [o_willBe, if_pos hgk, hgc, if_pos c_20]) rfl hX frX_rfl
  · refine x_iconst (v := (-1)) dX6_willBe_8 (by decide) ?_
    refine x_ireturn dX6_willBe_9 rfl rfl ?_
    exact qO_of (by rw [o_willBe, if_neg c_5]) rfl hX frX_rfl

set_option maxHeartbeats 1000000 in
set_option maxRecDepth 20000 in
theorem cX_content {B : sB} {S : sSt} {T : Nat × (Nat → Nat)} {P : aP} {r : aR} {acts kept : List aR} {f : aF} (hx : shX B) (hX : RX S (T, P, r, acts, kept, f)) (hI : iA (T, P, r, acts, kept, f)) : CS B yX6_content cX6_content 1 (some .int) 4 [.ref (s_ad B 0)] S (qO S (o_content (T, P, r, acts, kept, f))) := by
  refine cs_intro (lv := [(0, .ref (s_ad B 0))]) rfl ?_
  obtain ⟨h0, hT0, hD, hL, hN, hTr, hLa, hPa, hKp, hSi, hSh, hK0, hK1⟩ := id hx
  have hTT := hT0.1
  have hDD := hD.1
  have hLL := hL.1
  have hL1 := hL.2.1
  have hL2 := hL.2.2.1
  have hL3 := hL.2.2.2
  have hNN := hN.1
  have hN1 := hN.2.1
  have hN2 := hN.2.2.1
  have hN3 := hN.2.2.2.1
  have hN4 := hN.2.2.2.2.1
  have hN5 := hN.2.2.2.2.2
  have hRR := hTr.1
  have hR4 := hTr.2.2.2.2.1
  have hVV := hLa.1
  have hAA := hPa.1
  have hSS := hSi.1
  have hHH := hSh.1
  have hH3 := hSh.2.2.2
  obtain ⟨xT, xP, xB, xA, xE, xF⟩ := id hX
  have xT : rT S 1 T.2 T.1 := xT
  have xP : rP S 8 P := xP
  have xB : rB S 12 r := xB
  have xA : rA S 30 acts := xA
  have xE : rE S kept := xE
  have xF : rF S 81 f := xF
  have hn9 : P.1 ≤ 9 := xP.1
  obtain ⟨jP, jR, jA, jE, jF⟩ := id hI
  have jP : iP P := jP
  have jR : iR P r := jR
  have jF : iF f := jF
  have hn1 : 1 ≤ P.1 := jP.1
  refine x_aload_n dX6_content_0 rfl rfl ?_
  refine gX6_31 dX6_content_1 rfl (by assumption) rfl ?_
  refine kX6_195 dX6_content_4 rfl (by assumption) (c_contentBits hN hL xP xB jR.2.2.2.1) (by decide) (Nat.le_of_ble_eq_true rfl) ?_
  refine x_ireturn dX6_content_7 rfl rfl ?_
  exact qO_of (by rw [o_content]) rfl hX frX_rfl

set_option maxHeartbeats 1000000 in
set_option maxRecDepth 20000 in
theorem c_refusal {B : sB} {S : sSt} {T : Nat × (Nat → Nat)} {P : aP} {r : aR} {acts kept : List aR} {f : aF} (hx : shX B) (hX : RX S (T, P, r, acts, kept, f)) (hn1 : 1 ≤ P.1) {x l : Int32} : CS B yX6_refusalToGoIn cX6_refusalToGoIn 3 (some .int) 3 [.ref (s_ad B 0), .int x, .int l] S (qI (refF P r x l) S) := by
  refine cs_intro (lv := [(0, .ref (s_ad B 0)), (1, .int x), (2, .int l)]) rfl ?_
  obtain ⟨h0, hT0, hD, hL, hN, hTr, hLa, hPa, hKp, hSi, hSh, hK0, hK1⟩ := id hx
  have hTT := hT0.1
  have hDD := hD.1
  have hLL := hL.1
  have hL1 := hL.2.1
  have hL2 := hL.2.2.1
  have hL3 := hL.2.2.2
  have hNN := hN.1
  have hN1 := hN.2.1
  have hN2 := hN.2.2.1
  have hN3 := hN.2.2.2.1
  have hN4 := hN.2.2.2.2.1
  have hN5 := hN.2.2.2.2.2
  have hRR := hTr.1
  have hR4 := hTr.2.2.2.2.1
  have hVV := hLa.1
  have hAA := hPa.1
  have hSS := hSi.1
  have hHH := hSh.1
  have hH3 := hSh.2.2.2
  obtain ⟨xT, xP, xB, xA, xE, xF⟩ := id hX
  have xT : rT S 1 T.2 T.1 := xT
  have xP : rP S 8 P := xP
  have xB : rB S 12 r := xB
  have xA : rA S 30 acts := xA
  have xE : rE S kept := xE
  have xF : rF S 81 f := xF
  have hn9 : P.1 ≤ 9 := xP.1
  refine x_aload_n dX6_refusalToGoIn_0 rfl rfl ?_
  refine x_iload_n dX6_refusalToGoIn_1 rfl rfl ?_
  refine kX6_101 dX6_refusalToGoIn_2 rfl (by assumption) (c_isGuest hx hX hn1) (by decide) (Nat.le_of_ble_eq_true rfl) ?_
  refine x_ifeq_b (tgt := 15) dX6_refusalToGoIn_5 (by decide) (fun c_5 => ?_) (fun c_5 => ?_)
  · refine x_iconst (v := (-1)) dX6_refusalToGoIn_15 (by decide) ?_
    refine x_ireturn dX6_refusalToGoIn_16 rfl rfl ?_
    first
    | exact qI_of (by rw [refF, if_neg (by rw [Bool.and_eq_true]; exact fun z => c_5 z.1)]) rfl
    | exact qI_of (by rw [refF, if_neg (by rw [Bool.and_eq_true]; exact fun z => c_12 (wn_iff.mp z.2))]) rfl
  · have hgk := c_5
    obtain ⟨g, hg, rfl⟩ : ∃ g, g < P.1 ∧ x = nI g := ⟨_, gok_nI c_5⟩
    have hgc : (nI g).toNatClampNeg = g := nI_clamp (by omega)
    refine x_iload_n dX6_refusalToGoIn_8 rfl rfl ?_
    refine kX6_138 dX6_refusalToGoIn_9 rfl (c_isLane) (by decide) (Nat.le_of_ble_eq_true rfl) ?_
    refine x_ifne_b (tgt := 17) dX6_refusalToGoIn_12 (by decide) (fun c_12 => ?_) (fun c_12 => ?_)
    · have hok : (gok P (nI g) && wn l 0 1) = true := by rw [Bool.and_eq_true]; exact ⟨hgk, wn_iff.mpr c_12⟩
      refine x_aload_n dX6_refusalToGoIn_17 rfl rfl ?_
      refine gX6_31 dX6_refusalToGoIn_18 rfl (by assumption) rfl ?_
      refine x_iload_n dX6_refusalToGoIn_21 rfl rfl ?_
      refine kX6_141 dX6_refusalToGoIn_22 rfl (by assumption) (c_canGoIn hN hL xP xB hg) (by decide) (Nat.le_of_ble_eq_true rfl) ?_
      refine x_ifeq_b (tgt := 32) dX6_refusalToGoIn_25 (by decide) (fun c_25 => ?_) (fun c_25 => ?_)
      · refine x_bipush (v := (-2)) dX6_refusalToGoIn_32 (by decide) ?_
        refine x_ireturn dX6_refusalToGoIn_34 rfl rfl ?_
        first
        | exact qI_of (by rw [refF, if_pos hok, hgc, if_neg c_25]) rfl
        | exact qI_of (by rw [refF, if_pos hok, hgc, if_pos c_25]) rfl
      · refine x_iconst (v := 0) dX6_refusalToGoIn_28 (by decide) ?_
        refine x_goto (tgt := 34) dX6_refusalToGoIn_29 (by decide) ?_
        refine x_ireturn dX6_refusalToGoIn_34 rfl rfl ?_
        first
        | exact qI_of (by rw [refF, if_pos hok, hgc, if_neg c_25]) rfl
        | exact qI_of (by rw [refF, if_pos hok, hgc, if_pos c_25]) rfl
    · refine x_iconst (v := (-1)) dX6_refusalToGoIn_15 (by decide) ?_
      refine x_ireturn dX6_refusalToGoIn_16 rfl rfl ?_
      first
      | exact qI_of (by rw [refF, if_neg (by rw [Bool.and_eq_true]; exact fun z => c_5 z.1)]) rfl
      | exact qI_of (by rw [refF, if_neg (by rw [Bool.and_eq_true]; exact fun z => c_12 (wn_iff.mp z.2))]) rfl

theorem refF_ok {P : aP} {r : aR} {x l : Int32} (h : refF P r x l = 0) : gok P x = true := by
  unfold refF at h
  split at h
  · rename_i h1; rw [Bool.and_eq_true] at h1; exact h1.1
  · exact absurd h (by decide)

set_option maxHeartbeats 1000000 in
set_option maxRecDepth 20000 in
theorem l_knobFor {B : sB} {S : sSt} {T : Nat × (Nat → Nat)} {P : aP} {r : aR} {acts kept : List aR} {f : aF} (hx : shX B) (hX : RX S (T, P, r, acts, kept, f)) (hI : iA (T, P, r, acts, kept, f)) {g : Nat} {l z : Int32} (hg : g < P.1) :
    ∀ (k i : Nat) (S0 : sSt), i + k = 10 → RX S0 (T, P, r, acts, kept, f) → frX S S0 → WS B (fun _ => True) yX6_knobFor cX6_knobFor 5 (some .int) 6 16 [(4, .int (nI i)), (3, .int z), (0, .ref (s_ad B 0)), (1, .int (nI g)), (2, .int l)] [] S0 (fun v S1 => v = some (.int (oI (fndU (fun k => rgt P (rideF P (upd r 0 (nI k)) g l) g g) k i))) ∧ RX S1 (T, P, r, acts, kept, f) ∧ frX S S1) := by
  obtain ⟨h0, hT0, hD, hL, hN, hTr, hLa, hPa, hKp, hSi, hSh, hK0, hK1⟩ := id hx
  have hTT := hT0.1
  have hDD := hD.1
  have hLL := hL.1
  have hL1 := hL.2.1
  have hL2 := hL.2.2.1
  have hL3 := hL.2.2.2
  have hNN := hN.1
  have hN1 := hN.2.1
  have hN2 := hN.2.2.1
  have hN3 := hN.2.2.2.1
  have hN4 := hN.2.2.2.2.1
  have hN5 := hN.2.2.2.2.2
  have hRR := hTr.1
  have hR4 := hTr.2.2.2.2.1
  have hVV := hLa.1
  have hAA := hPa.1
  have hSS := hSi.1
  have hHH := hSh.1
  have hH3 := hSh.2.2.2
  obtain ⟨jP, jR, jA, jE, jF⟩ := id hI
  have jP : iP P := jP
  have jR : iR P r := jR
  have jF : iF f := jF
  have hn1 : 1 ≤ P.1 := jP.1
  intro k
  induction k with
  | zero =>
    intro i S0 hi hX0 hf0
    refine x_iload dX6_knobFor_16 rfl ?_
    refine x_bipush (v := 9) dX6_knobFor_18 (by decide) ?_
    refine x_icmp_gt (tgt := 64) dX6_knobFor_20 (by decide) (fun c_20 => ?_) (fun c_20 => ?_)
    · refine x_bipush (v := (-4)) dX6_knobFor_64 (by decide) ?_
      refine x_ireturn dX6_knobFor_66 rfl rfl ?_
      exact ⟨rfl, hX0, hf0⟩
    · exact absurd (show (9 : Int32) < nI i from nI_lt (a := 9) (by omega) (by omega)) c_20
  | succ k ih =>
    intro i S0 hi hX0 hf0
    have xP : rP S0 8 P := hX0.2.1
    have xB : rB S0 12 r := hX0.2.2.1
    refine x_iload dX6_knobFor_16 rfl ?_
    refine x_bipush (v := 9) dX6_knobFor_18 (by decide) ?_
    refine x_icmp_gt (tgt := 64) dX6_knobFor_20 (by decide) (fun c_20 => ?_) (fun c_20 => ?_)
    · exact absurd c_20 (nI_nlt (a := 9) (by omega) (by omega))
    · refine x_aload_n dX6_knobFor_23 rfl rfl ?_
      refine gX6_35 dX6_knobFor_24 rfl (by assumption) rfl ?_
      refine x_aload_n dX6_knobFor_27 rfl rfl ?_
      refine gX6_31 dX6_knobFor_28 rfl (by assumption) rfl ?_
      refine kX6_188r dX6_knobFor_31 rfl (by assumption) (c_copyFrom hTr hN xB (by omega)) (by decide) (Nat.le_of_ble_eq_true rfl) (fun S1 hq => ?_)
      obtain ⟨-, h1⟩ := hq
      have xP1 := ch_P h1 (by omega) xP
      refine x_aload_n dX6_knobFor_34 rfl rfl ?_
      refine gX6_35 dX6_knobFor_35 rfl (by assumption) rfl ?_
      refine x_iload dX6_knobFor_38 rfl ?_
      refine pX6_167 dX6_knobFor_40 rfl (by assumption) rfl ?_
      refine x_gen (Pz := fun S' => chB S0 S' 18 _) (chB_k h1) (fun S2 h2 => ?_)
      have xP2 := ch_P h2 (by omega) xP
      refine x_aload_n dX6_knobFor_43 rfl rfl ?_
      refine gX6_35 dX6_knobFor_44 rfl (by assumption) rfl ?_
      refine x_iload_n dX6_knobFor_47 rfl rfl ?_
      refine x_iload_n dX6_knobFor_48 rfl rfl ?_
      refine kX6_201r dX6_knobFor_49 rfl (by assumption) (c_isRightAfterRide hTr hL xP2 h2.1 (by omega) jP hg (by rw [upd_ne (by decide)]; exact jR.2.1)) (by decide) (Nat.le_of_ble_eq_true rfl) (fun zz S3 hq => ?_)
      obtain ⟨q1, h3⟩ := hq
      cases q1
      obtain ⟨hX3, hf3⟩ := RX_try hX0 (chB_trans h2 h3) (Or.inl rfl)
      refine x_ifeq_b (tgt := 58) dX6_knobFor_52 (by decide) (fun c_52 => ?_) (fun c_52 => ?_)
      · first | refine x_inc1N (lv' := [(4, _), (3, _), (0, _), (1, _), (2, _)]) dX6_knobFor_58 rfl (by decide) rfl ?_ | refine x_iinc (v := _ + 1) (lv' := [(4, _), (3, _), (0, _), (1, _), (2, _)]) dX6_knobFor_58 rfl rfl (by decide) rfl ?_
        refine x_goto (tgt := 16) dX6_knobFor_61 (by decide) ?_
        refine x_wk [0, 1, 2, 3, 4] rfl ?_
        rw [fndU, if_neg c_52]
        exact ih (i + 1) S3 (by omega) hX3 (frX_trans hf0 hf3)
      · refine x_iload dX6_knobFor_55 rfl ?_
        refine x_ireturn dX6_knobFor_57 rfl rfl ?_
        rw [fndU, if_pos c_52]
        exact ⟨rfl, hX3, frX_trans hf0 hf3⟩

set_option maxHeartbeats 1000000 in
set_option maxRecDepth 20000 in
theorem cX_knobFor {B : sB} {S : sSt} {T : Nat × (Nat → Nat)} {P : aP} {r : aR} {acts kept : List aR} {f : aF} (hx : shX B) (hX : RX S (T, P, r, acts, kept, f)) (hI : iA (T, P, r, acts, kept, f)) {x l : Int32} : CS B yX6_knobFor cX6_knobFor 5 (some .int) 6 [.ref (s_ad B 0), .int x, .int l] S (qO S (o_knobFor (T, P, r, acts, kept, f) x l)) := by
  refine cs_intro (lv := [(0, .ref (s_ad B 0)), (1, .int x), (2, .int l)]) rfl ?_
  obtain ⟨h0, hT0, hD, hL, hN, hTr, hLa, hPa, hKp, hSi, hSh, hK0, hK1⟩ := id hx
  have hTT := hT0.1
  have hDD := hD.1
  have hLL := hL.1
  have hL1 := hL.2.1
  have hL2 := hL.2.2.1
  have hL3 := hL.2.2.2
  have hNN := hN.1
  have hN1 := hN.2.1
  have hN2 := hN.2.2.1
  have hN3 := hN.2.2.2.1
  have hN4 := hN.2.2.2.2.1
  have hN5 := hN.2.2.2.2.2
  have hRR := hTr.1
  have hR4 := hTr.2.2.2.2.1
  have hVV := hLa.1
  have hAA := hPa.1
  have hSS := hSi.1
  have hHH := hSh.1
  have hH3 := hSh.2.2.2
  obtain ⟨xT, xP, xB, xA, xE, xF⟩ := id hX
  have xT : rT S 1 T.2 T.1 := xT
  have xP : rP S 8 P := xP
  have xB : rB S 12 r := xB
  have xA : rA S 30 acts := xA
  have xE : rE S kept := xE
  have xF : rF S 81 f := xF
  have hn9 : P.1 ≤ 9 := xP.1
  obtain ⟨jP, jR, jA, jE, jF⟩ := id hI
  have jP : iP P := jP
  have jR : iR P r := jR
  have jF : iF f := jF
  have hn1 : 1 ≤ P.1 := jP.1
  refine x_aload_n dX6_knobFor_0 rfl rfl ?_
  refine x_iload_n dX6_knobFor_1 rfl rfl ?_
  refine x_iload_n dX6_knobFor_2 rfl rfl ?_
  refine kX6_198 dX6_knobFor_3 rfl (by assumption) (c_refusal hx hX hn1) (by decide) (Nat.le_of_ble_eq_true rfl) ?_
  refine x_istore_n (lv' := [(3, _), (0, _), (1, _), (2, _)]) dX6_knobFor_6 rfl (by decide) rfl ?_
  refine x_iload_n dX6_knobFor_7 rfl rfl ?_
  refine x_if_eq (tgt := 13) dX6_knobFor_8 (by decide) (fun c_8 => ?_) (fun c_8 => ?_)
  · have hgk := refF_ok c_8
    have hrf := c_8
    obtain ⟨g, hg, rfl⟩ : ∃ g, g < P.1 ∧ x = nI g := ⟨_, gok_nI hgk⟩
    have hgc : (nI g).toNatClampNeg = g := nI_clamp (by omega)
    refine x_iconst (v := 1) dX6_knobFor_13 (by decide) ?_
    refine x_istore (lv' := [(4, _), (3, _), (0, _), (1, _), (2, _)]) dX6_knobFor_14 (by decide) rfl ?_
    refine x_post (fun v S2 hq => ?_) (l_knobFor hx hX hI hg 9 1 S (by omega) hX frX_rfl)
    obtain ⟨q1, q2, q3⟩ := hq
    cases q1
    exact qO_of (by rw [o_knobFor, if_pos hrf, hgc]) rfl q2 q3
  · refine x_iload_n dX6_knobFor_11 rfl rfl ?_
    refine x_ireturn dX6_knobFor_12 rfl rfl ?_
    exact qO_of (by rw [o_knobFor, if_neg c_8]) rfl hX frX_rfl

set_option maxHeartbeats 1000000 in
set_option maxRecDepth 20000 in
theorem l_often {B : sB} {S : sSt} {T : Nat × (Nat → Nat)} {P : aP} {r : aR} {acts kept : List aR} {f : aF} (hx : shX B) (hX : RX S (T, P, r, acts, kept, f)) (hI : iA (T, P, r, acts, kept, f)) {g : Nat} {l z : Int32} (hg : g < P.1) :
    ∀ (k i : Nat) (S0 : sSt) (q : aR), i + k = 6 → RX S0 (T, P, r, acts, kept, f) → rB S0 18 q → (0 ≤ (q 1).toInt ∧ (q 1).toInt ≤ 30) → frX S S0 → WS B (fun _ => True) yX6_often cX6_often 5 (some .int) 6 27 [(4, .int (nI i)), (3, .int z), (0, .ref (s_ad B 0)), (1, .int (nI g)), (2, .int l)] [] S0 (fun v S1 => v = some (.int (oI (oftU P g l k i q))) ∧ RX S1 (T, P, r, acts, kept, f) ∧ frX S S1) := by
  obtain ⟨h0, hT0, hD, hL, hN, hTr, hLa, hPa, hKp, hSi, hSh, hK0, hK1⟩ := id hx
  have hTT := hT0.1
  have hDD := hD.1
  have hLL := hL.1
  have hL1 := hL.2.1
  have hL2 := hL.2.2.1
  have hL3 := hL.2.2.2
  have hNN := hN.1
  have hN1 := hN.2.1
  have hN2 := hN.2.2.1
  have hN3 := hN.2.2.2.1
  have hN4 := hN.2.2.2.2.1
  have hN5 := hN.2.2.2.2.2
  have hRR := hTr.1
  have hR4 := hTr.2.2.2.2.1
  have hVV := hLa.1
  have hAA := hPa.1
  have hSS := hSi.1
  have hHH := hSh.1
  have hH3 := hSh.2.2.2
  obtain ⟨jP, jR, jA, jE, jF⟩ := id hI
  have jP : iP P := jP
  have jR : iR P r := jR
  have jF : iF f := jF
  have hn1 : 1 ≤ P.1 := jP.1
  intro k
  induction k with
  | zero =>
    intro i S0 q hi hX0 hq0 hh hf0
    refine x_iload dX6_often_27 rfl ?_
    refine x_iconst (v := 5) dX6_often_29 (by decide) ?_
    refine x_icmp_gt (tgt := 54) dX6_often_30 (by decide) (fun c_30 => ?_) (fun c_30 => ?_)
    · refine x_bipush (v := (-4)) dX6_often_54 (by decide) ?_
      refine x_ireturn dX6_often_56 rfl rfl ?_
      exact ⟨rfl, hX0, hf0⟩
    · exact absurd (show (5 : Int32) < nI i from nI_lt (a := 5) (by omega) (by omega)) c_30
  | succ k ih =>
    intro i S0 q hi hX0 hq0 hh hf0
    have xP : rP S0 8 P := hX0.2.1
    refine x_iload dX6_often_27 rfl ?_
    refine x_iconst (v := 5) dX6_often_29 (by decide) ?_
    refine x_icmp_gt (tgt := 54) dX6_often_30 (by decide) (fun c_30 => ?_) (fun c_30 => ?_)
    · exact absurd c_30 (nI_nlt (a := 5) (by omega) (by omega))
    · refine x_aload_n dX6_often_33 rfl rfl ?_
      refine gX6_35 dX6_often_34 rfl (by assumption) rfl ?_
      refine x_iload_n dX6_often_37 rfl rfl ?_
      refine x_iload_n dX6_often_38 rfl rfl ?_
      refine kX6_201r dX6_often_39 rfl (by assumption) (c_isRightAfterRide hTr hL xP hq0 (by omega) jP hg hh) (by decide) (Nat.le_of_ble_eq_true rfl) (fun zz S3 hq => ?_)
      obtain ⟨q1, h3⟩ := hq
      cases q1
      obtain ⟨hX3, hf3⟩ := RX_try hX0 h3 (Or.inl rfl)
      refine x_ifeq_b (tgt := 48) dX6_often_42 (by decide) (fun c_42 => ?_) (fun c_42 => ?_)
      · first | refine x_inc1N (lv' := [(4, _), (3, _), (0, _), (1, _), (2, _)]) dX6_often_48 rfl (by decide) rfl ?_ | refine x_iinc (v := _ + 1) (lv' := [(4, _), (3, _), (0, _), (1, _), (2, _)]) dX6_often_48 rfl rfl (by decide) rfl ?_
        refine x_goto (tgt := 27) dX6_often_51 (by decide) ?_
        refine x_wk [0, 1, 2, 3, 4] rfl ?_
        rw [oftU, if_neg c_42]
        exact ih (i + 1) S3 _ (by omega) hX3 h3.1 (tilU_heat jP 40 _ (by rw [putF_1]; exact hh)) (frX_trans hf0 hf3)
      · refine x_iload dX6_often_45 rfl ?_
        refine x_ireturn dX6_often_47 rfl rfl ?_
        rw [oftU, if_pos c_42]
        exact ⟨rfl, hX3, frX_trans hf0 hf3⟩

set_option maxHeartbeats 1000000 in
set_option maxRecDepth 20000 in
theorem cX_often {B : sB} {S : sSt} {T : Nat × (Nat → Nat)} {P : aP} {r : aR} {acts kept : List aR} {f : aF} (hx : shX B) (hX : RX S (T, P, r, acts, kept, f)) (hI : iA (T, P, r, acts, kept, f)) {x l : Int32} : CS B yX6_often cX6_often 5 (some .int) 6 [.ref (s_ad B 0), .int x, .int l] S (qO S (o_often (T, P, r, acts, kept, f) x l)) := by
  refine cs_intro (lv := [(0, .ref (s_ad B 0)), (1, .int x), (2, .int l)]) rfl ?_
  obtain ⟨h0, hT0, hD, hL, hN, hTr, hLa, hPa, hKp, hSi, hSh, hK0, hK1⟩ := id hx
  have hTT := hT0.1
  have hDD := hD.1
  have hLL := hL.1
  have hL1 := hL.2.1
  have hL2 := hL.2.2.1
  have hL3 := hL.2.2.2
  have hNN := hN.1
  have hN1 := hN.2.1
  have hN2 := hN.2.2.1
  have hN3 := hN.2.2.2.1
  have hN4 := hN.2.2.2.2.1
  have hN5 := hN.2.2.2.2.2
  have hRR := hTr.1
  have hR4 := hTr.2.2.2.2.1
  have hVV := hLa.1
  have hAA := hPa.1
  have hSS := hSi.1
  have hHH := hSh.1
  have hH3 := hSh.2.2.2
  obtain ⟨xT, xP, xB, xA, xE, xF⟩ := id hX
  have xT : rT S 1 T.2 T.1 := xT
  have xP : rP S 8 P := xP
  have xB : rB S 12 r := xB
  have xA : rA S 30 acts := xA
  have xE : rE S kept := xE
  have xF : rF S 81 f := xF
  have hn9 : P.1 ≤ 9 := xP.1
  obtain ⟨jP, jR, jA, jE, jF⟩ := id hI
  have jP : iP P := jP
  have jR : iR P r := jR
  have jF : iF f := jF
  have hn1 : 1 ≤ P.1 := jP.1
  refine x_aload_n dX6_often_0 rfl rfl ?_
  refine x_iload_n dX6_often_1 rfl rfl ?_
  refine x_iload_n dX6_often_2 rfl rfl ?_
  refine kX6_198 dX6_often_3 rfl (by assumption) (c_refusal hx hX hn1) (by decide) (Nat.le_of_ble_eq_true rfl) ?_
  refine x_istore_n (lv' := [(3, _), (0, _), (1, _), (2, _)]) dX6_often_6 rfl (by decide) rfl ?_
  refine x_iload_n dX6_often_7 rfl rfl ?_
  refine x_if_eq (tgt := 13) dX6_often_8 (by decide) (fun c_8 => ?_) (fun c_8 => ?_)
  · have hgk := refF_ok c_8
    have hrf := c_8
    obtain ⟨g, hg, rfl⟩ : ∃ g, g < P.1 ∧ x = nI g := ⟨_, gok_nI hgk⟩
    have hgc : (nI g).toNatClampNeg = g := nI_clamp (by omega)
    refine x_aload_n dX6_often_13 rfl rfl ?_
    refine gX6_35 dX6_often_14 rfl (by assumption) rfl ?_
    refine x_aload_n dX6_often_17 rfl rfl ?_
    refine gX6_31 dX6_often_18 rfl (by assumption) rfl ?_
    refine kX6_188r dX6_often_21 rfl (by assumption) (c_copyFrom hTr hN xB (by omega)) (by decide) (Nat.le_of_ble_eq_true rfl) (fun S1 hq => ?_)
    obtain ⟨-, h1⟩ := hq
    have xP1 := ch_P h1 (by omega) xP
    refine x_iconst (v := 1) dX6_often_24 (by decide) ?_
    refine x_istore (lv' := [(4, _), (3, _), (0, _), (1, _), (2, _)]) dX6_often_25 (by decide) rfl ?_
    obtain ⟨hX1, hf1⟩ := RX_try hX h1 (Or.inl rfl)
    refine x_post (fun v S2 hq => ?_) (l_often hx hX hI hg 5 1 S1 r (by omega) hX1 h1.1 jR.2.1 hf1)
    obtain ⟨q1, q2, q3⟩ := hq
    cases q1
    exact qO_of (by rw [o_often, if_pos hrf, hgc]) rfl q2 q3
  · refine x_iload_n dX6_often_11 rfl rfl ?_
    refine x_ireturn dX6_often_12 rfl rfl ?_
    exact qO_of (by rw [o_often, if_neg c_8]) rfl hX frX_rfl

set_option maxHeartbeats 1000000 in
set_option maxRecDepth 20000 in
theorem l_waits {B : sB} {S : sSt} {T : Nat × (Nat → Nat)} {P : aP} {r : aR} {acts kept : List aR} {f : aF} (hx : shX B) (hX : RX S (T, P, r, acts, kept, f)) (hI : iA (T, P, r, acts, kept, f)) {g : Nat} {l z : Int32} (hg : g < P.1) :
    ∀ (k i : Nat) (S0 : sSt) (q : aR), i + k = 31 → RX S0 (T, P, r, acts, kept, f) → rB S0 24 q → (0 ≤ (q 1).toInt ∧ (q 1).toInt ≤ 30) → frX S S0 → WS B (fun _ => True) yX6_waits cX6_waits 5 (some .int) 6 27 [(4, .int (nI i)), (3, .int z), (0, .ref (s_ad B 0)), (1, .int (nI g)), (2, .int l)] [] S0 (fun v S1 => v = some (.int (oI (waiU P g l k i q))) ∧ RX S1 (T, P, r, acts, kept, f) ∧ frX S S1) := by
  obtain ⟨h0, hT0, hD, hL, hN, hTr, hLa, hPa, hKp, hSi, hSh, hK0, hK1⟩ := id hx
  have hTT := hT0.1
  have hDD := hD.1
  have hLL := hL.1
  have hL1 := hL.2.1
  have hL2 := hL.2.2.1
  have hL3 := hL.2.2.2
  have hNN := hN.1
  have hN1 := hN.2.1
  have hN2 := hN.2.2.1
  have hN3 := hN.2.2.2.1
  have hN4 := hN.2.2.2.2.1
  have hN5 := hN.2.2.2.2.2
  have hRR := hTr.1
  have hR4 := hTr.2.2.2.2.1
  have hVV := hLa.1
  have hAA := hPa.1
  have hSS := hSi.1
  have hHH := hSh.1
  have hH3 := hSh.2.2.2
  obtain ⟨jP, jR, jA, jE, jF⟩ := id hI
  have jP : iP P := jP
  have jR : iR P r := jR
  have jF : iF f := jF
  have hn1 : 1 ≤ P.1 := jP.1
  intro k
  induction k with
  | zero =>
    intro i S0 q hi hX0 hq0 hh hf0
    refine x_iload dX6_waits_27 rfl ?_
    refine x_bipush (v := 30) dX6_waits_29 (by decide) ?_
    refine x_icmp_gt (tgt := 73) dX6_waits_31 (by decide) (fun c_31 => ?_) (fun c_31 => ?_)
    · refine x_bipush (v := (-4)) dX6_waits_73 (by decide) ?_
      refine x_ireturn dX6_waits_75 rfl rfl ?_
      exact ⟨rfl, hX0, hf0⟩
    · exact absurd (show (30 : Int32) < nI i from nI_lt (a := 30) (by omega) (by omega)) c_31
  | succ k ih =>
    intro i S0 q hi hX0 hq0 hh hf0
    have xP : rP S0 8 P := hX0.2.1
    refine x_iload dX6_waits_27 rfl ?_
    refine x_bipush (v := 30) dX6_waits_29 (by decide) ?_
    refine x_icmp_gt (tgt := 73) dX6_waits_31 (by decide) (fun c_31 => ?_) (fun c_31 => ?_)
    · exact absurd c_31 (nI_nlt (a := 30) (by omega) (by omega))
    · refine x_aload_n dX6_waits_34 rfl rfl ?_
      refine gX6_35 dX6_waits_35 rfl (by assumption) rfl ?_
      refine x_aload_n dX6_waits_38 rfl rfl ?_
      refine gX6_38 dX6_waits_39 rfl (by assumption) rfl ?_
      refine kX6_188r dX6_waits_42 rfl (by assumption) (c_copyFrom hTr hLa hq0 (by omega)) (by decide) (Nat.le_of_ble_eq_true rfl) (fun S1 hq => ?_)
      obtain ⟨-, h1⟩ := hq
      have xP1 := ch_P h1 (by omega) xP
      refine x_aload_n dX6_waits_45 rfl rfl ?_
      refine gX6_35 dX6_waits_46 rfl (by assumption) rfl ?_
      refine x_iload_n dX6_waits_49 rfl rfl ?_
      refine x_iload_n dX6_waits_50 rfl rfl ?_
      refine kX6_201r dX6_waits_51 rfl (by assumption) (c_isRightAfterRide hTr hL xP1 h1.1 (by omega) jP hg hh) (by decide) (Nat.le_of_ble_eq_true rfl) (fun zz S3 hq => ?_)
      obtain ⟨q1, h3⟩ := hq
      cases q1
      have h13 := chB_trans h1 h3
      obtain ⟨hX3, hf3⟩ := RX_try hX0 h13 (Or.inl rfl)
      have xP3 : rP S3 8 P := hX3.2.1
      have hq3 : rB S3 24 q := rB_fr (fun a x y => h13.2 a (by omega)) hq0
      refine x_ifeq_b (tgt := 60) dX6_waits_54 (by decide) (fun c_54 => ?_) (fun c_54 => ?_)
      · refine x_aload_n dX6_waits_60 rfl rfl ?_
        refine gX6_38 dX6_waits_61 rfl (by assumption) rfl ?_
        refine kX6_161r dX6_waits_64 rfl (by assumption) (c_goOn hLa hL xP3 hq3 (by omega) jP hh) (by decide) (Nat.le_of_ble_eq_true rfl) (fun S4 hq => ?_)
        obtain ⟨-, h4⟩ := hq
        obtain ⟨hX4, hf4⟩ := RX_try hX3 h4 (Or.inr rfl)
        first | refine x_inc1N (lv' := [(4, _), (3, _), (0, _), (1, _), (2, _)]) dX6_waits_67 rfl (by decide) rfl ?_ | refine x_iinc (v := _ + 1) (lv' := [(4, _), (3, _), (0, _), (1, _), (2, _)]) dX6_waits_67 rfl rfl (by decide) rfl ?_
        refine x_goto (tgt := 27) dX6_waits_70 (by decide) ?_
        refine x_wk [0, 1, 2, 3, 4] rfl ?_
        rw [waiU, if_neg c_54]
        exact ih (i + 1) S4 _ (by omega) hX4 h4.1 (momF_heat jP hh) (frX_trans hf0 (frX_trans hf3 hf4))
      · refine x_iload dX6_waits_57 rfl ?_
        refine x_ireturn dX6_waits_59 rfl rfl ?_
        rw [waiU, if_pos c_54]
        exact ⟨rfl, hX3, frX_trans hf0 hf3⟩

set_option maxHeartbeats 1000000 in
set_option maxRecDepth 20000 in
theorem cX_waits {B : sB} {S : sSt} {T : Nat × (Nat → Nat)} {P : aP} {r : aR} {acts kept : List aR} {f : aF} (hx : shX B) (hX : RX S (T, P, r, acts, kept, f)) (hI : iA (T, P, r, acts, kept, f)) {x l : Int32} : CS B yX6_waits cX6_waits 5 (some .int) 6 [.ref (s_ad B 0), .int x, .int l] S (qO S (o_waits (T, P, r, acts, kept, f) x l)) := by
  refine cs_intro (lv := [(0, .ref (s_ad B 0)), (1, .int x), (2, .int l)]) rfl ?_
  obtain ⟨h0, hT0, hD, hL, hN, hTr, hLa, hPa, hKp, hSi, hSh, hK0, hK1⟩ := id hx
  have hTT := hT0.1
  have hDD := hD.1
  have hLL := hL.1
  have hL1 := hL.2.1
  have hL2 := hL.2.2.1
  have hL3 := hL.2.2.2
  have hNN := hN.1
  have hN1 := hN.2.1
  have hN2 := hN.2.2.1
  have hN3 := hN.2.2.2.1
  have hN4 := hN.2.2.2.2.1
  have hN5 := hN.2.2.2.2.2
  have hRR := hTr.1
  have hR4 := hTr.2.2.2.2.1
  have hVV := hLa.1
  have hAA := hPa.1
  have hSS := hSi.1
  have hHH := hSh.1
  have hH3 := hSh.2.2.2
  obtain ⟨xT, xP, xB, xA, xE, xF⟩ := id hX
  have xT : rT S 1 T.2 T.1 := xT
  have xP : rP S 8 P := xP
  have xB : rB S 12 r := xB
  have xA : rA S 30 acts := xA
  have xE : rE S kept := xE
  have xF : rF S 81 f := xF
  have hn9 : P.1 ≤ 9 := xP.1
  obtain ⟨jP, jR, jA, jE, jF⟩ := id hI
  have jP : iP P := jP
  have jR : iR P r := jR
  have jF : iF f := jF
  have hn1 : 1 ≤ P.1 := jP.1
  refine x_aload_n dX6_waits_0 rfl rfl ?_
  refine x_iload_n dX6_waits_1 rfl rfl ?_
  refine x_iload_n dX6_waits_2 rfl rfl ?_
  refine kX6_198 dX6_waits_3 rfl (by assumption) (c_refusal hx hX hn1) (by decide) (Nat.le_of_ble_eq_true rfl) ?_
  refine x_istore_n (lv' := [(3, _), (0, _), (1, _), (2, _)]) dX6_waits_6 rfl (by decide) rfl ?_
  refine x_iload_n dX6_waits_7 rfl rfl ?_
  refine x_if_eq (tgt := 13) dX6_waits_8 (by decide) (fun c_8 => ?_) (fun c_8 => ?_)
  · have hgk := refF_ok c_8
    have hrf := c_8
    obtain ⟨g, hg, rfl⟩ : ∃ g, g < P.1 ∧ x = nI g := ⟨_, gok_nI hgk⟩
    have hgc : (nI g).toNatClampNeg = g := nI_clamp (by omega)
    refine x_aload_n dX6_waits_13 rfl rfl ?_
    refine gX6_38 dX6_waits_14 rfl (by assumption) rfl ?_
    refine x_aload_n dX6_waits_17 rfl rfl ?_
    refine gX6_31 dX6_waits_18 rfl (by assumption) rfl ?_
    refine kX6_188r dX6_waits_21 rfl (by assumption) (c_copyFrom hLa hN xB (by omega)) (by decide) (Nat.le_of_ble_eq_true rfl) (fun S1 hq => ?_)
    obtain ⟨-, h1⟩ := hq
    refine x_iconst (v := 0) dX6_waits_24 (by decide) ?_
    refine x_istore (lv' := [(4, _), (3, _), (0, _), (1, _), (2, _)]) dX6_waits_25 (by decide) rfl ?_
    obtain ⟨hX1, hf1⟩ := RX_try hX h1 (Or.inr rfl)
    refine x_post (fun v S2 hq => ?_) (l_waits hx hX hI hg 31 0 S1 r (by omega) hX1 h1.1 jR.2.1 hf1)
    obtain ⟨q1, q2, q3⟩ := hq
    cases q1
    exact qO_of (by rw [o_waits, if_pos hrf, hgc]) rfl q2 q3
  · refine x_iload_n dX6_waits_11 rfl rfl ?_
    refine x_ireturn dX6_waits_12 rfl rfl ?_
    exact qO_of (by rw [o_waits, if_neg c_8]) rfl hX frX_rfl
