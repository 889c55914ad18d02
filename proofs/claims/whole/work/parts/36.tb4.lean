def gdU (a b : Nat) : Nat → Nat
  | 0 => 1
  | d + 1 => if d = 0 then 1 else if a % (d + 1) = 0 ∧ b % (d + 1) = 0 then d + 1 else gdU a b d
theorem gd_gcd : ∀ b : Nat, b ≤ 9 → ∀ a : Nat, a ≤ 9 → 1 ≤ b → gdU a b b = Nat.gcd a b := by decide +kernel

set_option maxHeartbeats 1000000 in
set_option maxRecDepth 20000 in
theorem l_gd {B : sB} {S : sSt} {a b : Nat} (ha : a ≤ 9) (hb : b ≤ 9) : ∀ (d : Nat), d ≤ 9 → WS B (fun _ => True) yX6_greatestDivisor cX6_greatestDivisor 3 (some .int) 1 2 [(2, .int (nI d)), (0, .int (nI a)), (1, .int (nI b))] [] S (qI (nI (gdU a b d)) S) := by
  intro d
  induction d with
  | zero =>
    intro hd
    refine x_iload_n dX6_greatestDivisor_2 rfl rfl ?_
    refine x_iconst (v := 1) dX6_greatestDivisor_3 (by decide) ?_
    refine x_icmp_le (tgt := 27) dX6_greatestDivisor_4 (by decide) (fun c_4 => ?_) (fun c_4 => ?_)
    · refine x_iconst (v := 1) dX6_greatestDivisor_27 (by decide) ?_
      refine x_ireturn dX6_greatestDivisor_28 rfl rfl ?_
      exact ⟨rfl, rfl⟩
    · exact absurd (show nI 0 ≤ 1 by decide) c_4
  | succ d ih =>
    intro hd
    refine x_iload_n dX6_greatestDivisor_2 rfl rfl ?_
    refine x_iconst (v := 1) dX6_greatestDivisor_3 (by decide) ?_
    refine x_icmp_le (tgt := 27) dX6_greatestDivisor_4 (by decide) (fun c_4 => ?_) (fun c_4 => ?_)
    · have hd0 : d = 0 := by
        rcases Nat.eq_zero_or_pos d with h | h
        · exact h
        · exact absurd c_4 (nI_ge (a := 1) (by omega) (by omega))
      refine x_iconst (v := 1) dX6_greatestDivisor_27 (by decide) ?_
      refine x_ireturn dX6_greatestDivisor_28 rfl rfl ?_
      exact qI_of (by rw [gdU, if_pos hd0]; rfl) rfl
    · have hd0 : ¬ d = 0 := fun h => c_4 (by rw [h]; decide)
      refine x_iload_n dX6_greatestDivisor_7 rfl rfl ?_
      refine x_iload_n dX6_greatestDivisor_8 rfl rfl ?_
      refine x_irem dX6_greatestDivisor_9 (nI_ne0 (by omega) (by omega)) ?_
      refine x_re (b := nI (a % (d + 1))) (pk_rem (by omega) (by omega) (by omega)) ?_
      refine x_if_ne (tgt := 21) dX6_greatestDivisor_10 (by decide) (fun c_10 => ?_) (fun c_10 => ?_)
      · have hA : ¬ a % (d + 1) = 0 := fun h => c_10 (by rw [h]; rfl)
        refine x_iinc (v := nI d) (lv' := [(2, _), (0, _), (1, _)]) dX6_greatestDivisor_21 rfl (pk_m1 d) (by decide) rfl ?_
        refine x_goto (tgt := 2) dX6_greatestDivisor_24 (by decide) ?_
        first
        | (rw [gdU, if_neg hd0, if_neg (fun z => hA z.1)]; exact ih (by omega))
        | (rw [gdU, if_neg hd0, if_neg (fun z => hB z.2)]; exact ih (by omega))
      · have hA : a % (d + 1) = 0 := (nI_eq (b := 0) (Nat.lt_of_le_of_lt (Nat.mod_le _ _) (by omega)) (by decide)).mp c_10
        refine x_iload_n dX6_greatestDivisor_13 rfl rfl ?_
        refine x_iload_n dX6_greatestDivisor_14 rfl rfl ?_
        refine x_irem dX6_greatestDivisor_15 (nI_ne0 (by omega) (by omega)) ?_
        refine x_re (b := nI (b % (d + 1))) (pk_rem (by omega) (by omega) (by omega)) ?_
        refine x_if_ne (tgt := 21) dX6_greatestDivisor_16 (by decide) (fun c_16 => ?_) (fun c_16 => ?_)
        · have hB : ¬ b % (d + 1) = 0 := fun h => c_16 (by rw [h]; rfl)
          refine x_iinc (v := nI d) (lv' := [(2, _), (0, _), (1, _)]) dX6_greatestDivisor_21 rfl (pk_m1 d) (by decide) rfl ?_
          refine x_goto (tgt := 2) dX6_greatestDivisor_24 (by decide) ?_
          first
          | (rw [gdU, if_neg hd0, if_neg (fun z => hA z.1)]; exact ih (by omega))
          | (rw [gdU, if_neg hd0, if_neg (fun z => hB z.2)]; exact ih (by omega))
        · have hB : b % (d + 1) = 0 := (nI_eq (b := 0) (Nat.lt_of_le_of_lt (Nat.mod_le _ _) (by omega)) (by decide)).mp c_16
          refine x_iload_n dX6_greatestDivisor_19 rfl rfl ?_
          refine x_ireturn dX6_greatestDivisor_20 rfl rfl ?_
          exact qI_of (by rw [gdU, if_neg hd0, if_pos ⟨hA, hB⟩]) rfl

set_option maxHeartbeats 1000000 in
set_option maxRecDepth 20000 in
theorem c_gd {B : sB} {S : sSt} {a b : Nat} (ha : a ≤ 9) (hb : b ≤ 9) (hb1 : 1 ≤ b) : CS B yX6_greatestDivisor cX6_greatestDivisor 3 (some .int) 1 [.int (nI a), .int (nI b)] S (qI (nI (Nat.gcd a b)) S) := by
  refine cs_intro (lv := [(0, .int (nI a)), (1, .int (nI b))]) rfl ?_
  rw [← gd_gcd b hb a ha hb1]
  refine x_iload_n dX6_greatestDivisor_0 rfl rfl ?_
  refine x_istore_n (lv' := [(2, _), (0, _), (1, _)]) dX6_greatestDivisor_1 rfl (by decide) rfl ?_
  exact l_gd ha hb b hb

theorem cntU_pos {f : Nat → Bool} : ∀ {k i j : Nat}, i ≤ j → j < i + k → f j = true → 1 ≤ cntU f k i := by
  intro k; induction k with
  | zero => intro i j h1 h2 h3; omega
  | succ k ih =>
    intro i j h1 h2 h3
    rw [cntU]
    by_cases hj : j = i
    · subst hj; rw [if_pos h3]; omega
    · have := ih (i := i + 1) (by omega) (by omega) h3; omega
theorem wn_nI {x : Int32} {n : Nat} {m : Int32} (hm : m.toInt = n) (hn : n < 2 ^ 31) (h : wn x 0 m = true) : ∃ j, j ≤ n ∧ x = nI j := by
  rw [wn_iff, Int32.le_iff_toInt_le, Int32.le_iff_toInt_le] at h
  have e : (0 : Int32).toInt = 0 := by decide
  exact nI_of3 (by omega) (by omega) hn
theorem max_sub : ∀ m : Nat, m ≤ 9 → ∀ n : Nat, n ≤ 8 → (if (0 : Int32) < nI m - nI n then nI m - nI n else 0) = nI (m - n) := by decide
theorem gcd_pos9 {a b : Nat} (hb : 1 ≤ b) : 1 ≤ Nat.gcd a b := Nat.gcd_pos_of_pos_right a hb

set_option maxHeartbeats 1000000 in
set_option maxRecDepth 20000 in
theorem cX_left {B : sB} {S : sSt} {T : Nat × (Nat → Nat)} {P : aP} {r : aR} {acts kept : List aR} {f : aF} (hx : shX B) (hX : RX S (T, P, r, acts, kept, f)) (hn1 : 1 ≤ P.1) {x n w : Int32} : CS B yX6_left cX6_left 7 (some .int) 3 [.ref (s_ad B 0), .int x, .int n, .int w] S (qO S (o_left (T, P, r, acts, kept, f) x n w)) := by
  refine cs_intro (lv := [(0, .ref (s_ad B 0)), (1, .int x), (2, .int n), (3, .int w)]) rfl ?_
  obtain ⟨h0, hT0, hD, hL, hN, hTr, hLa, hPa, hKp, hSi, hSh, hK0, hK1⟩ := id hx
  have hTT := hT0.1
  have hDD := hD.1
  have hLL := hL.1
  have hL1 := hL.2.1
  have hL2 := hL.2.2.1
  have hL3 := hL.2.2.2
  have hNN := hN.1
  have hN1 := hN.2.1
  have hN2 := hN.2.2.1
  have hN3 := hN.2.2.2.1
  have hN4 := hN.2.2.2.2.1
  have hN5 := hN.2.2.2.2.2
  have hRR := hTr.1
  have hR4 := hTr.2.2.2.2.1
  have hVV := hLa.1
  have hAA := hPa.1
  have hSS := hSi.1
  have hHH := hSh.1
  have hH3 := hSh.2.2.2
  obtain ⟨xT, xP, xB, xA, xE, xF⟩ := id hX
  have xT : rT S 1 T.2 T.1 := xT
  have xP : rP S 8 P := xP
  have xB : rB S 12 r := xB
  have xA : rA S 30 acts := xA
  have xE : rE S kept := xE
  have xF : rF S 81 f := xF
  have hn9 : P.1 ≤ 9 := xP.1
  refine x_aload_n dX6_left_0 rfl rfl ?_
  refine x_iload_n dX6_left_1 rfl rfl ?_
  refine kX6_101 dX6_left_2 rfl (by assumption) (c_isGuest hx hX hn1) (by decide) (Nat.le_of_ble_eq_true rfl) ?_
  refine x_ifeq_b (tgt := 27) dX6_left_5 (by decide) (fun c_5 => ?_) (fun c_5 => ?_)
  · refine x_iconst (v := (-1)) dX6_left_27 (by decide) ?_
    refine x_ireturn dX6_left_28 rfl rfl ?_
    first
    | exact qO_of (by rw [o_left, if_neg (by simp only [Bool.and_eq_true, wn_iff]; exact fun z => c_5 z.1)]) rfl hX frX_rfl
    | exact qO_of (by rw [o_left, if_neg (by simp only [Bool.and_eq_true, wn_iff]; exact fun z => c_15 z.2.1)]) rfl hX frX_rfl
    | exact qO_of (by rw [o_left, if_neg (by simp only [Bool.and_eq_true, wn_iff]; exact fun z => c_24 z.2.2)]) rfl hX frX_rfl
  · have hgk := c_5
    obtain ⟨g, hg, rfl⟩ : ∃ g, g < P.1 ∧ x = nI g := ⟨_, gok_nI c_5⟩
    have hgc : (nI g).toNatClampNeg = g := nI_clamp (by omega)
    obtain ⟨b1, b2, b3, b4, b5⟩ := xB.2.2.2 g (by omega)
    refine x_iload_n dX6_left_8 rfl rfl ?_
    refine x_iconst (v := 0) dX6_left_9 (by decide) ?_
    refine x_bipush (v := 8) dX6_left_10 (by decide) ?_
    refine kX6_92 dX6_left_12 rfl (c_within) (by decide) (Nat.le_of_ble_eq_true rfl) ?_
    refine x_ifeq_b (tgt := 27) dX6_left_15 (by decide) (fun c_15 => ?_) (fun c_15 => ?_)
    · refine x_iconst (v := (-1)) dX6_left_27 (by decide) ?_
      refine x_ireturn dX6_left_28 rfl rfl ?_
      first
      | exact qO_of (by rw [o_left, if_neg (by simp only [Bool.and_eq_true, wn_iff]; exact fun z => c_5 z.1)]) rfl hX frX_rfl
      | exact qO_of (by rw [o_left, if_neg (by simp only [Bool.and_eq_true, wn_iff]; exact fun z => c_15 z.2.1)]) rfl hX frX_rfl
      | exact qO_of (by rw [o_left, if_neg (by simp only [Bool.and_eq_true, wn_iff]; exact fun z => c_24 z.2.2)]) rfl hX frX_rfl
    · refine x_iload_n dX6_left_18 rfl rfl ?_
      refine x_iconst (v := 0) dX6_left_19 (by decide) ?_
      refine x_iconst (v := 1) dX6_left_20 (by decide) ?_
      refine kX6_92 dX6_left_21 rfl (c_within) (by decide) (Nat.le_of_ble_eq_true rfl) ?_
      refine x_ifne_b (tgt := 29) dX6_left_24 (by decide) (fun c_24 => ?_) (fun c_24 => ?_)
      · have hok : (gok P (nI g) && (wn n 0 8 && wn w 0 1)) = true := by simp only [Bool.and_eq_true, wn_iff]; exact ⟨hgk, c_15, c_24⟩
        obtain ⟨nn, hnn, rfl⟩ := wn_nI (n := 8) (m := 8) (by decide) (by decide) (wn_iff.mpr c_15)
        have hnc : (nI nn).toNatClampNeg = nn := nI_clamp (by omega)
        refine x_aload_n dX6_left_29 rfl rfl ?_
        refine gX6_31 dX6_left_30 rfl (by assumption) rfl ?_
        refine gX6_119 dX6_left_33 rfl (by assumption) rfl ?_
        refine x_iload_n dX6_left_36 rfl rfl ?_
        first | refine x_ialdN (by assumption) dX6_left_37 (by omega) (by decide) ?_ | refine x_iald (by assumption) dX6_left_37 (by assumption) ?_
        refine x_iconst (v := 2) dX6_left_38 (by decide) ?_
        rw [b1]
        refine x_icmp_eq (tgt := 45) dX6_left_39 (by decide) (fun c_39 => ?_) (fun c_39 => ?_)
        · refine x_aload_n dX6_left_45 rfl rfl ?_
          refine gX6_31 dX6_left_46 rfl (by assumption) rfl ?_
          refine x_aload_n dX6_left_49 rfl rfl ?_
          refine gX6_23 dX6_left_50 rfl (by assumption) rfl ?_
          refine gX6_105 dX6_left_53 rfl (by assumption) rfl ?_
          refine x_iload_n dX6_left_56 rfl rfl ?_
          first | refine x_ialdN (by assumption) dX6_left_57 (by omega) (by decide) ?_ | refine x_iald (by assumption) dX6_left_57 (by assumption) ?_
          rw [(xP.2.2.2.2 g hg).1]
          refine kX6_223 dX6_left_58 rfl (by assumption) (c_alikeOnTray hN hL xP xB) (by decide) (Nat.le_of_ble_eq_true rfl) ?_
          refine x_re (b := nI (alkF P r g)) rfl ?_
          have hm1 : 1 ≤ alkF P r g := cntU_pos (j := g) (by omega) (by omega) (by rw [c_39]; simp)
          have hm9 : alkF P r g ≤ 9 := Nat.le_trans (cntU_le _ _ _) hn9
          generalize hmm : alkF P r g = mm at hm1 hm9
          refine x_istore (lv' := [(4, _), (0, _), (1, _), (2, _), (3, _)]) dX6_left_61 (by decide) rfl ?_
          refine x_iconst (v := 0) dX6_left_63 (by decide) ?_
          refine x_iload dX6_left_64 rfl ?_
          refine x_iload_n dX6_left_66 rfl rfl ?_
          refine x_isub dX6_left_67 ?_
          refine kX6_226 dX6_left_68 rfl (by decide) (Nat.le_of_ble_eq_true rfl) ?_
          refine x_re (max_sub mm hm9 nn hnn) ?_
          refine x_istore (lv' := [(5, _), (4, _), (0, _), (1, _), (2, _), (3, _)]) dX6_left_71 (by decide) rfl ?_
          refine x_iload dX6_left_73 rfl ?_
          refine x_iload dX6_left_75 rfl ?_
          refine kX6_231 dX6_left_77 rfl (c_gd (by omega) hm9 hm1) (by decide) (Nat.le_of_ble_eq_true rfl) ?_
          refine x_istore (lv' := [(6, _), (5, _), (4, _), (0, _), (1, _), (2, _), (3, _)]) dX6_left_80 (by decide) rfl ?_
          refine x_iload_n dX6_left_82 rfl rfl ?_
          refine x_if_ne (tgt := 91) dX6_left_83 (by decide) (fun c_83 => ?_) (fun c_83 => ?_)
          · refine x_iload dX6_left_91 rfl ?_
            refine x_iload dX6_left_93 rfl ?_
            refine x_idiv dX6_left_95 (nI_ne0 (gcd_pos9 hm1) (by have := Nat.gcd_le_right (m := mm - nn) (n := mm) (by omega); omega)) ?_
            have hgp := gcd_pos9 (a := mm - nn) hm1
            have hgl := Nat.gcd_le_right (m := mm - nn) (n := mm) (by omega)
            refine x_re (pk_div (by omega) (by omega) (by omega)) ?_
            refine x_ireturn dX6_left_96 rfl rfl ?_
            first
            | exact qO_of (by rw [o_left, if_pos hok, hgc, hnc, if_pos c_39, if_neg c_83, hmm]) rfl hX frX_rfl
            | exact qO_of (by rw [o_left, if_pos hok, hgc, hnc, if_pos c_39, if_pos c_83, hmm]) rfl hX frX_rfl
          · refine x_iload dX6_left_86 rfl ?_
            refine x_goto (tgt := 93) dX6_left_88 (by decide) ?_
            refine x_iload dX6_left_93 rfl ?_
            refine x_idiv dX6_left_95 (nI_ne0 (gcd_pos9 hm1) (by have := Nat.gcd_le_right (m := mm - nn) (n := mm) (by omega); omega)) ?_
            have hgp := gcd_pos9 (a := mm - nn) hm1
            have hgl := Nat.gcd_le_right (m := mm - nn) (n := mm) (by omega)
            refine x_re (pk_div (by omega) (by omega) (by omega)) ?_
            refine x_ireturn dX6_left_96 rfl rfl ?_
            first
            | exact qO_of (by rw [o_left, if_pos hok, hgc, hnc, if_pos c_39, if_neg c_83, hmm]) rfl hX frX_rfl
            | exact qO_of (by rw [o_left, if_pos hok, hgc, hnc, if_pos c_39, if_pos c_83, hmm]) rfl hX frX_rfl
        · refine x_bipush (v := (-2)) dX6_left_42 (by decide) ?_
          refine x_ireturn dX6_left_44 rfl rfl ?_
          exact qO_of (by rw [o_left, if_pos hok, hgc, if_neg c_39]) rfl hX frX_rfl
      · refine x_iconst (v := (-1)) dX6_left_27 (by decide) ?_
        refine x_ireturn dX6_left_28 rfl rfl ?_
        first
        | exact qO_of (by rw [o_left, if_neg (by simp only [Bool.and_eq_true, wn_iff]; exact fun z => c_5 z.1)]) rfl hX frX_rfl
        | exact qO_of (by rw [o_left, if_neg (by simp only [Bool.and_eq_true, wn_iff]; exact fun z => c_15 z.2.1)]) rfl hX frX_rfl
        | exact qO_of (by rw [o_left, if_neg (by simp only [Bool.and_eq_true, wn_iff]; exact fun z => c_24 z.2.2)]) rfl hX frX_rfl

theorem drw_lt (z i : Nat) : drw z i < 20000 := by
  unfold drw
  have := Nat.mod_lt ((7919 * z + 6151 * i + 1) * (7919 * z + 6151 * i + 1)) (show 65521 > 0 by decide)
  omega
theorem drw_sq {z i : Nat} (hz : z ≤ 9999) (hi : i < 40) : (7919 * z + 6151 * i + 1) * (7919 * z + 6151 * i + 1) < 2 ^ 63 := by
  have h : 7919 * z + 6151 * i + 1 ≤ 80000000 := by omega
  have := Nat.mul_le_mul h h
  omega

set_option maxHeartbeats 1000000 in
set_option maxRecDepth 20000 in
theorem c_draw {B : sB} {S : sSt} {z i : Nat} (hz : z ≤ 9999) (hi : i < 40) : CS B yX6_draw cX6_draw 4 (some .int) 1 [.int (nI z), .int (nI i)] S (qI (nI (drw z i)) S) := by
  refine cs_intro (lv := [(0, .int (nI z)), (1, .int (nI i))]) rfl ?_
  refine x_ldc2 (v := 7919) dX6_draw_0 (sT_3 131 rfl rfl) ?_
  refine x_iload_n dX6_draw_3 rfl rfl ?_
  refine x_i2l dX6_draw_4 ?_
  rw [nI_l (by omega)]
  refine x_lmul dX6_draw_5 ?_
  rw [show (7919 : Int64) * lN z = lN (7919 * z) from lN_mul 7919 z]
  refine x_ldc2 (v := 6151) dX6_draw_6 (sT_3 132 rfl rfl) ?_
  refine x_iload_n dX6_draw_9 rfl rfl ?_
  refine x_i2l dX6_draw_10 ?_
  rw [nI_l (by omega)]
  refine x_lmul dX6_draw_11 ?_
  rw [show (6151 : Int64) * lN i = lN (6151 * i) from lN_mul 6151 i]
  refine x_ladd dX6_draw_12 ?_
  rw [lN_add]
  refine x_lconst (v := 1) dX6_draw_13 (by decide) ?_
  refine x_ladd dX6_draw_14 ?_
  rw [lN_1]
  refine x_lstore_n (lv' := [(2, _), (0, _), (1, _)]) dX6_draw_15 rfl (by decide) rfl ?_
  refine x_lload_n dX6_draw_16 rfl rfl ?_
  refine x_lload_n dX6_draw_17 rfl rfl ?_
  refine x_lmul dX6_draw_18 ?_
  rw [lN_mul]
  refine x_ldc2 (v := 65521) dX6_draw_19 (sT_3 133 rfl rfl) ?_
  refine x_lrem dX6_draw_22 (by decide) ?_
  rw [show lN ((7919 * z + 6151 * i + 1) * (7919 * z + 6151 * i + 1)) - lN ((7919 * z + 6151 * i + 1) * (7919 * z + 6151 * i + 1)) / 65521 * 65521 = lN ((7919 * z + 6151 * i + 1) * (7919 * z + 6151 * i + 1) % 65521) from pk_lRem (b := 65521) (drw_sq hz hi) (by decide) (by decide)]
  refine x_ldc2 (v := 4) dX6_draw_23 (sT_3 134 rfl rfl) ?_
  refine x_ldiv dX6_draw_26 (by decide) ?_
  have hml := Nat.mod_lt ((7919 * z + 6151 * i + 1) * (7919 * z + 6151 * i + 1)) (show 65521 > 0 by decide)
  rw [show lN ((7919 * z + 6151 * i + 1) * (7919 * z + 6151 * i + 1) % 65521) / 4 = lN ((7919 * z + 6151 * i + 1) * (7919 * z + 6151 * i + 1) % 65521 / 4) from pk_lDiv (b := 4) (by omega) (by decide) (by decide)]
  refine x_l2i dX6_draw_27 ?_
  rw [lN_i]
  refine x_ireturn dX6_draw_28 rfl rfl ?_
  exact ⟨rfl, rfl⟩

set_option maxHeartbeats 1000000 in
set_option maxRecDepth 20000 in
theorem l_morning {B : sB} {S : sSt} {T : Nat × (Nat → Nat)} {P : aP} {r : aR} {acts kept : List aR} {f : aF} (hx : shX B) (hX : RX S (T, P, r, acts, kept, f)) (hI : iA (T, P, r, acts, kept, f)) {z n : Nat} {w : Int32} (hz : z ≤ 9999) (hn : n ≤ 40) :
    ∀ (k i : Nat) (S0 : sSt) (q : aR), i + k = n → RX S0 (T, P, r, acts, kept, f) → rB S0 18 q → iR P q → frX S S0 → WS B (fun _ => True) yX6_morning cX6_morning 5 (some .int) 6 46 [(4, .int (nI i)), (0, .ref (s_ad B 0)), (1, .int (nI z)), (2, .int (nI n)), (3, .int w)] [] S0 (fun v S1 => v = some (.int (if w = 0 then conU P (mrnU P z k i q) P.1 0 0 else mrnU P z k i q 1)) ∧ RX S1 (T, P, r, acts, kept, f) ∧ frX S S1) := by
  obtain ⟨h0, hT0, hD, hL, hN, hTr, hLa, hPa, hKp, hSi, hSh, hK0, hK1⟩ := id hx
  have hTT := hT0.1
  have hDD := hD.1
  have hLL := hL.1
  have hL1 := hL.2.1
  have hL2 := hL.2.2.1
  have hL3 := hL.2.2.2
  have hNN := hN.1
  have hN1 := hN.2.1
  have hN2 := hN.2.2.1
  have hN3 := hN.2.2.2.1
  have hN4 := hN.2.2.2.2.1
  have hN5 := hN.2.2.2.2.2
  have hRR := hTr.1
  have hR4 := hTr.2.2.2.2.1
  have hVV := hLa.1
  have hAA := hPa.1
  have hSS := hSi.1
  have hHH := hSh.1
  have hH3 := hSh.2.2.2
  obtain ⟨jP, jR, jA, jE, jF⟩ := id hI
  have jP : iP P := jP
  have jR : iR P r := jR
  have jF : iF f := jF
  have hn1 : 1 ≤ P.1 := jP.1
  intro k
  induction k with
  | zero =>
    intro i S0 q hi hX0 hq0 jq hf0
    have xP : rP S0 8 P := hX0.2.1
    refine x_iload dX6_morning_46 rfl ?_
    refine x_iload_n dX6_morning_48 rfl rfl ?_
    refine x_icmp_ge (tgt := 78) dX6_morning_49 (by decide) (fun c_49 => ?_) (fun c_49 => ?_)
    · refine x_iload_n dX6_morning_78 rfl rfl ?_
      refine x_if_ne (tgt := 92) dX6_morning_79 (by decide) (fun c_79 => ?_) (fun c_79 => ?_)
      · refine x_aload_n dX6_morning_92 rfl rfl ?_
        refine gX6_35 dX6_morning_93 rfl (by assumption) rfl ?_
        refine gX6_240 dX6_morning_96 rfl (by assumption) rfl ?_
        refine x_ireturn dX6_morning_99 rfl rfl ?_
        first
        | exact ⟨by rw [if_neg c_79]; exact congrArg (fun z => some (Value.int z)) hq0.2.1, hX0, hf0⟩
        | exact ⟨by rw [if_pos c_79]; rfl, hX0, hf0⟩
      · refine x_aload_n dX6_morning_82 rfl rfl ?_
        refine gX6_35 dX6_morning_83 rfl (by assumption) rfl ?_
        refine kX6_195 dX6_morning_86 rfl (by assumption) (c_contentBits hTr hL xP hq0 jq.2.2.2.1) (by decide) (Nat.le_of_ble_eq_true rfl) ?_
        refine x_goto (tgt := 99) dX6_morning_89 (by decide) ?_
        refine x_ireturn dX6_morning_99 rfl rfl ?_
        first
        | exact ⟨by rw [if_neg c_79]; exact congrArg (fun z => some (Value.int z)) hq0.2.1, hX0, hf0⟩
        | exact ⟨by rw [if_pos c_79]; rfl, hX0, hf0⟩
    · exact absurd (by exact nI_le (by omega) (by omega)) c_49
  | succ k ih =>
    intro i S0 q hi hX0 hq0 jq hf0
    have xP : rP S0 8 P := hX0.2.1
    refine x_iload dX6_morning_46 rfl ?_
    refine x_iload_n dX6_morning_48 rfl rfl ?_
    refine x_icmp_ge (tgt := 78) dX6_morning_49 (by decide) (fun c_49 => ?_) (fun c_49 => ?_)
    · exact absurd c_49 (by exact nI_ge (by omega) (by omega))
    · refine x_aload_n dX6_morning_52 rfl rfl ?_
      refine gX6_35 dX6_morning_53 rfl (by assumption) rfl ?_
      refine x_iload_n dX6_morning_56 rfl rfl ?_
      refine x_iload dX6_morning_57 rfl ?_
      refine kX6_234 dX6_morning_59 rfl (c_draw hz (by omega)) (by decide) (Nat.le_of_ble_eq_true rfl) ?_
      refine kX6_237r dX6_morning_62 rfl (by assumption) (c_actByDraw hTr hL xP hq0 (by omega) hn1 (by have := drw_lt z i; omega)) (by decide) (Nat.le_of_ble_eq_true rfl) (fun S2 hq => ?_)
      obtain ⟨-, h2⟩ := hq
      obtain ⟨hX2, hf2⟩ := RX_try hX0 h2 (Or.inl rfl)
      have xP2 : rP S2 8 P := hX2.2.1
      refine x_aload_n dX6_morning_65 rfl rfl ?_
      refine gX6_35 dX6_morning_66 rfl (by assumption) rfl ?_
      refine kX6_161r dX6_morning_69 rfl (by assumption) (c_goOn hTr hL xP2 h2.1 (by omega) jP (iR_act jP jq).2.1) (by decide) (Nat.le_of_ble_eq_true rfl) (fun S3 hq => ?_)
      obtain ⟨-, h3⟩ := hq
      obtain ⟨hX3, hf3⟩ := RX_try hX2 h3 (Or.inl rfl)
      first | refine x_inc1N (lv' := [(4, _), (0, _), (1, _), (2, _), (3, _)]) dX6_morning_72 rfl (by decide) rfl ?_ | refine x_iinc (v := _ + 1) (lv' := [(4, _), (0, _), (1, _), (2, _), (3, _)]) dX6_morning_72 rfl rfl (by decide) rfl ?_
      refine x_goto (tgt := 46) dX6_morning_75 (by decide) ?_
      rw [mrnU]
      exact ih (i + 1) S3 _ (by omega) hX3 h3.1 (iR_mom jP (iR_act jP jq)) (frX_trans hf0 (frX_trans hf2 hf3))

set_option maxHeartbeats 1000000 in
set_option maxRecDepth 20000 in
theorem cX_morning {B : sB} {S : sSt} {T : Nat × (Nat → Nat)} {P : aP} {r : aR} {acts kept : List aR} {f : aF} (hx : shX B) (hX : RX S (T, P, r, acts, kept, f)) (hI : iA (T, P, r, acts, kept, f)) {z n w : Int32} : CS B yX6_morning cX6_morning 5 (some .int) 6 [.ref (s_ad B 0), .int z, .int n, .int w] S (qO S (o_morning (T, P, r, acts, kept, f) z n w)) := by
  refine cs_intro (lv := [(0, .ref (s_ad B 0)), (1, .int z), (2, .int n), (3, .int w)]) rfl ?_
  obtain ⟨h0, hT0, hD, hL, hN, hTr, hLa, hPa, hKp, hSi, hSh, hK0, hK1⟩ := id hx
  have hTT := hT0.1
  have hDD := hD.1
  have hLL := hL.1
  have hL1 := hL.2.1
  have hL2 := hL.2.2.1
  have hL3 := hL.2.2.2
  have hNN := hN.1
  have hN1 := hN.2.1
  have hN2 := hN.2.2.1
  have hN3 := hN.2.2.2.1
  have hN4 := hN.2.2.2.2.1
  have hN5 := hN.2.2.2.2.2
  have hRR := hTr.1
  have hR4 := hTr.2.2.2.2.1
  have hVV := hLa.1
  have hAA := hPa.1
  have hSS := hSi.1
  have hHH := hSh.1
  have hH3 := hSh.2.2.2
  obtain ⟨xT, xP, xB, xA, xE, xF⟩ := id hX
  have xT : rT S 1 T.2 T.1 := xT
  have xP : rP S 8 P := xP
  have xB : rB S 12 r := xB
  have xA : rA S 30 acts := xA
  have xE : rE S kept := xE
  have xF : rF S 81 f := xF
  have hn9 : P.1 ≤ 9 := xP.1
  obtain ⟨jP, jR, jA, jE, jF⟩ := id hI
  have jP : iP P := jP
  have jR : iR P r := jR
  have jF : iF f := jF
  have hn1 : 1 ≤ P.1 := jP.1
  refine x_iload_n dX6_morning_0 rfl rfl ?_
  refine x_iconst (v := 0) dX6_morning_1 (by decide) ?_
  refine x_sipush (v := 9999) dX6_morning_2 (by decide) ?_
  refine kX6_92 dX6_morning_5 rfl (c_within) (by decide) (Nat.le_of_ble_eq_true rfl) ?_
  refine x_ifeq_b (tgt := 30) dX6_morning_8 (by decide) (fun c_8 => ?_) (fun c_8 => ?_)
  · refine x_iconst (v := (-1)) dX6_morning_30 (by decide) ?_
    refine x_ireturn dX6_morning_31 rfl rfl ?_
    first
    | exact qO_of (by rw [o_morning, if_neg (by simp only [Bool.and_eq_true, wn_iff]; exact fun z => c_8 z.1)]) rfl hX frX_rfl
    | exact qO_of (by rw [o_morning, if_neg (by simp only [Bool.and_eq_true, wn_iff]; exact fun z => c_18 z.2.1)]) rfl hX frX_rfl
    | exact qO_of (by rw [o_morning, if_neg (by simp only [Bool.and_eq_true, wn_iff]; exact fun z => c_27 z.2.2)]) rfl hX frX_rfl
  · refine x_iload_n dX6_morning_11 rfl rfl ?_
    refine x_iconst (v := 1) dX6_morning_12 (by decide) ?_
    refine x_bipush (v := 40) dX6_morning_13 (by decide) ?_
    refine kX6_92 dX6_morning_15 rfl (c_within) (by decide) (Nat.le_of_ble_eq_true rfl) ?_
    refine x_ifeq_b (tgt := 30) dX6_morning_18 (by decide) (fun c_18 => ?_) (fun c_18 => ?_)
    · refine x_iconst (v := (-1)) dX6_morning_30 (by decide) ?_
      refine x_ireturn dX6_morning_31 rfl rfl ?_
      first
      | exact qO_of (by rw [o_morning, if_neg (by simp only [Bool.and_eq_true, wn_iff]; exact fun z => c_8 z.1)]) rfl hX frX_rfl
      | exact qO_of (by rw [o_morning, if_neg (by simp only [Bool.and_eq_true, wn_iff]; exact fun z => c_18 z.2.1)]) rfl hX frX_rfl
      | exact qO_of (by rw [o_morning, if_neg (by simp only [Bool.and_eq_true, wn_iff]; exact fun z => c_27 z.2.2)]) rfl hX frX_rfl
    · refine x_iload_n dX6_morning_21 rfl rfl ?_
      refine x_iconst (v := 0) dX6_morning_22 (by decide) ?_
      refine x_iconst (v := 1) dX6_morning_23 (by decide) ?_
      refine kX6_92 dX6_morning_24 rfl (c_within) (by decide) (Nat.le_of_ble_eq_true rfl) ?_
      refine x_ifne_b (tgt := 32) dX6_morning_27 (by decide) (fun c_27 => ?_) (fun c_27 => ?_)
      · have hok : (wn z 0 9999 && (wn n 1 40 && wn w 0 1)) = true := by simp only [Bool.and_eq_true, wn_iff]; exact ⟨c_8, c_18, c_27⟩
        obtain ⟨zz, hzz, rfl⟩ := wn_nI (n := 9999) (m := 9999) (by decide) (by decide) (wn_iff.mpr c_8)
        obtain ⟨nn, hnn, rfl⟩ : ∃ j, j ≤ 40 ∧ n = nI j := by
          obtain ⟨z1, z2⟩ := c_18
          rw [Int32.le_iff_toInt_le] at z1 z2
          have e1 : (1 : Int32).toInt = 1 := by decide
          have e2 : (40 : Int32).toInt = 40 := by decide
          exact nI_of3 (by omega) (by omega) (by decide)
        have hzc : (nI zz).toNatClampNeg = zz := nI_clamp (by omega)
        have hnc : (nI nn).toNatClampNeg = nn := nI_clamp (by omega)
        refine x_aload_n dX6_morning_32 rfl rfl ?_
        refine gX6_35 dX6_morning_33 rfl (by assumption) rfl ?_
        refine x_aload_n dX6_morning_36 rfl rfl ?_
        refine gX6_31 dX6_morning_37 rfl (by assumption) rfl ?_
        refine kX6_188r dX6_morning_40 rfl (by assumption) (c_copyFrom hTr hN xB (by omega)) (by decide) (Nat.le_of_ble_eq_true rfl) (fun S1 hq => ?_)
        obtain ⟨-, h1⟩ := hq
        have xP1 := ch_P h1 (by omega) xP
        refine x_iconst (v := 0) dX6_morning_43 (by decide) ?_
        refine x_istore (lv' := [(4, _), (0, _), (1, _), (2, _), (3, _)]) dX6_morning_44 (by decide) rfl ?_
        obtain ⟨hX1, hf1⟩ := RX_try hX h1 (Or.inl rfl)
        refine x_post (fun v S2 hq => ?_) (l_morning hx hX hI (w := w) hzz hnn nn 0 S1 r (by omega) hX1 h1.1 jR hf1)
        obtain ⟨q1, q2, q3⟩ := hq
        cases q1
        exact qO_of (by rw [o_morning, if_pos hok, hzc, hnc]) rfl q2 q3
      · refine x_iconst (v := (-1)) dX6_morning_30 (by decide) ?_
        refine x_ireturn dX6_morning_31 rfl rfl ?_
        first
        | exact qO_of (by rw [o_morning, if_neg (by simp only [Bool.and_eq_true, wn_iff]; exact fun z => c_8 z.1)]) rfl hX frX_rfl
        | exact qO_of (by rw [o_morning, if_neg (by simp only [Bool.and_eq_true, wn_iff]; exact fun z => c_18 z.2.1)]) rfl hX frX_rfl
        | exact qO_of (by rw [o_morning, if_neg (by simp only [Bool.and_eq_true, wn_iff]; exact fun z => c_27 z.2.2)]) rfl hX frX_rfl

theorem ks_get {i : Nat} (h : i < 2) : ([90, 96] : List Nat)[i]? = some (90 + 6 * i) := by
  have h2 : i = 0 ∨ i = 1 := by omega
  rcases h2 with rfl | rfl <;> rfl

set_option maxHeartbeats 1000000 in
set_option maxRecDepth 20000 in
theorem cX_keep {B : sB} {S : sSt} {T : Nat × (Nat → Nat)} {P : aP} {r : aR} {acts kept : List aR} {f : aF} (hx : shX B) (hX : RX S (T, P, r, acts, kept, f)) : CS B yX6_keep cX6_keep 1 (some .int) 2 [.ref (s_ad B 0)] S (qO S (o_keep (T, P, r, acts, kept, f))) := by
  refine cs_intro (lv := [(0, .ref (s_ad B 0))]) rfl ?_
  obtain ⟨h0, hT0, hD, hL, hN, hTr, hLa, hPa, hKp, hSi, hSh, hK0, hK1⟩ := id hx
  have hTT := hT0.1
  have hDD := hD.1
  have hLL := hL.1
  have hL1 := hL.2.1
  have hL2 := hL.2.2.1
  have hL3 := hL.2.2.2
  have hNN := hN.1
  have hN1 := hN.2.1
  have hN2 := hN.2.2.1
  have hN3 := hN.2.2.2.1
  have hN4 := hN.2.2.2.2.1
  have hN5 := hN.2.2.2.2.2
  have hRR := hTr.1
  have hR4 := hTr.2.2.2.2.1
  have hVV := hLa.1
  have hAA := hPa.1
  have hSS := hSi.1
  have hHH := hSh.1
  have hH3 := hSh.2.2.2
  obtain ⟨xT, xP, xB, xA, xE, xF⟩ := id hX
  have xT : rT S 1 T.2 T.1 := xT
  have xP : rP S 8 P := xP
  have xB : rB S 12 r := xB
  have xA : rA S 30 acts := xA
  have xE : rE S kept := xE
  have xF : rF S 81 f := xF
  have hn9 : P.1 ≤ 9 := xP.1
  refine x_aload_n dX6_keep_0 rfl rfl ?_
  refine gX6_243 dX6_keep_1 rfl (by assumption) rfl ?_
  rw [xE.2.1]
  refine x_iconst (v := 2) dX6_keep_4 (by decide) ?_
  refine x_icmp_lt (tgt := 11) dX6_keep_5 (by decide) (fun c_5 => ?_) (fun c_5 => ?_)
  · have hk2 : kept.length < 2 := by
      rcases Nat.lt_or_ge kept.length 2 with h | h
      · exact h
      · exact absurd c_5 (nI_nlt (b := 2) h (by have := xE.1; omega))
    have hKx : shB B (90 + 6 * kept.length) 8 := by
      have h2 : kept.length = 0 ∨ kept.length = 1 := by omega
      rcases h2 with h2 | h2
      · rw [h2]; exact hK0
      · rw [h2]; exact hK1
    have hKx0 := hKx.1
    refine x_aload_n dX6_keep_11 rfl rfl ?_
    refine gX6_48 dX6_keep_12 rfl (by assumption) rfl ?_
    refine x_aload_n dX6_keep_15 rfl rfl ?_
    refine gX6_243 dX6_keep_16 rfl (by assumption) rfl ?_
    rw [xE.2.1]
    refine x_aald hKp dX6_keep_19 (vp_in_nI hk2 (by decide)) (by rw [nI_clamp (by omega)]; exact ks_get hk2) ?_
    refine x_aload_n dX6_keep_20 rfl rfl ?_
    refine gX6_31 dX6_keep_21 rfl (by assumption) rfl ?_
    refine kX6_188r dX6_keep_24 rfl (by assumption) (c_copyFrom hKx hN xB (by omega)) (by decide) (Nat.le_of_ble_eq_true rfl) (fun S1 hq => ?_)
    obtain ⟨-, h1⟩ := hq
    have e0 : S1 0 8 = nI kept.length := by rw [h1.2 0 (by omega)]; exact xE.2.1
    refine x_aload_n dX6_keep_27 rfl rfl ?_
    refine x_dup dX6_keep_28 rfl ?_
    refine gX6_243 dX6_keep_29 rfl (by assumption) rfl ?_
    rw [e0]
    refine x_iconst (v := 1) dX6_keep_32 (by decide) ?_
    refine x_iadd dX6_keep_33 ?_
    refine pX6_243 dX6_keep_34 rfl (by assumption) rfl ?_
    refine x_aload_n dX6_keep_37 rfl rfl ?_
    refine gX6_243 dX6_keep_38 rfl (by assumption) rfl ?_
    refine x_ireturn dX6_keep_41 rfl rfl ?_
    have q3 : ∀ a, a ≠ 0 → (a < 90 + 6 * kept.length ∨ 90 + 6 * kept.length + 6 ≤ a) → s_put S1 0 8 (nI kept.length + 1) a = S a := fun a h h' => by rw [s_put_ne h]; exact h1.2 a h'
    refine qO_of (A' := (T, P, r, acts, r :: kept, f)) (by rw [o_keep, if_pos hk2]) ?_ ⟨rT_ag (by rw [q3 1 (by omega) (by omega)]) (q3 2 (by omega) (by omega)) xT, rP_ag (fun a x y => q3 a (by omega) (by omega)) xP, rB_fr (fun a x y => q3 a (by omega) (by omega)) xB, rA_ag (fun a x y => q3 a (by omega) (by omega)) xA, ?_, rF_ag (fun a x y => q3 a (by omega) (by omega)) xF⟩ (fun a h => q3 a (by omega) (by omega))
    · rw [s_put_eq, if_pos rfl]; exact nI_1 _
    · refine ⟨by show kept.length + 1 ≤ 2; omega, by rw [s_put_eq, if_pos rfl]; exact nI_1 _, fun i r' hr => ?_⟩
      have hr : (r :: kept)[i]? = some r' := hr
      show rB _ (90 + 6 * (kept.length + 1 - 1 - i)) r'
      cases i with
      | zero =>
        cases hr
        rw [show kept.length + 1 - 1 - 0 = kept.length by omega]
        exact rB_fr (fun a x y => s_put_ne (by omega)) h1.1
      | succ i =>
        rw [List.getElem?_cons_succ] at hr
        have hi := (List.getElem?_eq_some_iff.mp hr).1
        rw [show kept.length + 1 - 1 - (i + 1) = kept.length - 1 - i by omega]
        exact rB_fr (fun a x y => q3 a (by omega) (by omega)) (xE.2.2 i r' hr)
  · have hk2 : ¬ kept.length < 2 := fun h => c_5 (nI_lt (b := 2) h (by decide))
    refine x_bipush (v := (-3)) dX6_keep_8 (by decide) ?_
    refine x_ireturn dX6_keep_10 rfl rfl ?_
    exact qO_of (by rw [o_keep, if_neg hk2]) rfl hX frX_rfl

set_option maxHeartbeats 1000000 in
set_option maxRecDepth 20000 in
theorem cX_back {B : sB} {S : sSt} {T : Nat × (Nat → Nat)} {P : aP} {r : aR} {acts kept : List aR} {f : aF} (hx : shX B) (hX : RX S (T, P, r, acts, kept, f)) : CS B yX6_back cX6_back 1 (some .int) 2 [.ref (s_ad B 0)] S (qO S (o_back (T, P, r, acts, kept, f))) := by
  refine cs_intro (lv := [(0, .ref (s_ad B 0))]) rfl ?_
  obtain ⟨h0, hT0, hD, hL, hN, hTr, hLa, hPa, hKp, hSi, hSh, hK0, hK1⟩ := id hx
  have hTT := hT0.1
  have hDD := hD.1
  have hLL := hL.1
  have hL1 := hL.2.1
  have hL2 := hL.2.2.1
  have hL3 := hL.2.2.2
  have hNN := hN.1
  have hN1 := hN.2.1
  have hN2 := hN.2.2.1
  have hN3 := hN.2.2.2.1
  have hN4 := hN.2.2.2.2.1
  have hN5 := hN.2.2.2.2.2
  have hRR := hTr.1
  have hR4 := hTr.2.2.2.2.1
  have hVV := hLa.1
  have hAA := hPa.1
  have hSS := hSi.1
  have hHH := hSh.1
  have hH3 := hSh.2.2.2
  obtain ⟨xT, xP, xB, xA, xE, xF⟩ := id hX
  have xT : rT S 1 T.2 T.1 := xT
  have xP : rP S 8 P := xP
  have xB : rB S 12 r := xB
  have xA : rA S 30 acts := xA
  have xE : rE S kept := xE
  have xF : rF S 81 f := xF
  have hn9 : P.1 ≤ 9 := xP.1
  refine x_aload_n dX6_back_0 rfl rfl ?_
  refine gX6_243 dX6_back_1 rfl (by assumption) rfl ?_
  rw [xE.2.1]
  refine x_if_ne (tgt := 10) dX6_back_4 (by decide) (fun c_4 => ?_) (fun c_4 => ?_)
  · obtain ⟨q, rest, rfl⟩ : ∃ q rest, kept = q :: rest := by
      cases kept with
      | nil => exact absurd rfl c_4
      | cons q rest => exact ⟨q, rest, rfl⟩
    have hlen : rest.length + 1 ≤ 2 := xE.1
    have hx2 : S 0 8 = nI (rest.length + 1) := xE.2.1
    have hq0 : rB S (90 + 6 * rest.length) q := xE.2.2 0 q rfl
    have hKx : shB B (90 + 6 * rest.length) 8 := by
      have h2 : rest.length = 0 ∨ rest.length = 1 := by omega
      rcases h2 with h2 | h2
      · rw [h2]; exact hK0
      · rw [h2]; exact hK1
    refine x_aload_n dX6_back_10 rfl rfl ?_
    refine x_dup dX6_back_11 rfl ?_
    refine gX6_243 dX6_back_12 rfl (by assumption) rfl ?_
    rw [hx2]
    refine x_iconst (v := 1) dX6_back_15 (by decide) ?_
    refine x_isub dX6_back_16 ?_
    refine x_re (nI_pred rest.length) ?_
    refine pX6_243 dX6_back_17 rfl (by assumption) rfl ?_
    refine x_gen (Pz := fun S' => S' 0 8 = nI rest.length ∧ ∀ a, a ≠ 0 → S' a = S a) ⟨by rw [s_put_eq, if_pos rfl], fun a h => s_put_ne h⟩ (fun S1 H1 => ?_)
    obtain ⟨e1, e2⟩ := H1
    refine x_aload_n dX6_back_20 rfl rfl ?_
    refine gX6_31 dX6_back_21 rfl (by assumption) rfl ?_
    refine x_aload_n dX6_back_24 rfl rfl ?_
    refine gX6_48 dX6_back_25 rfl (by assumption) rfl ?_
    refine x_aload_n dX6_back_28 rfl rfl ?_
    refine gX6_243 dX6_back_29 rfl (by assumption) rfl ?_
    rw [e1]
    refine x_aald hKp dX6_back_32 (vp_in_nI (show rest.length < 2 by omega) (by decide)) (by rw [nI_clamp (by omega)]; exact ks_get (by omega)) ?_
    refine kX6_188r dX6_back_33 rfl (by assumption) (c_copyFrom hN hKx (rB_fr (fun a x y => e2 a (by omega)) hq0) (by omega)) (by decide) (Nat.le_of_ble_eq_true rfl) (fun S2 hq => ?_)
    obtain ⟨-, h2⟩ := hq
    have xA2 : rA S2 30 acts := rA_ag (fun a x y => by rw [h2.2 a (by omega), e2 a (by omega)]) xA
    refine x_aload_n dX6_back_36 rfl rfl ?_
    refine gX6_44 dX6_back_37 rfl (by assumption) rfl ?_
    refine kX6_246r dX6_back_40 rfl (by assumption) (c_Aclear hPa xA2) (by decide) (Nat.le_of_ble_eq_true rfl) (fun S3 hq => ?_)
    obtain ⟨-, t1, t2⟩ := hq
    have e3 : ∀ a, a ≠ 0 → a ≠ 30 → (a < 12 ∨ 18 ≤ a) → S3 a = S a := fun a x y z => by rw [t2 a y, h2.2 a (by omega), e2 a x]
    have e0 : S3 0 8 = nI rest.length := by rw [t2 0 (by omega), h2.2 0 (by omega)]; exact e1
    refine x_aload_n dX6_back_43 rfl rfl ?_
    refine gX6_243 dX6_back_44 rfl (by assumption) rfl ?_
    refine x_ireturn dX6_back_47 rfl rfl ?_
    refine qO_of (A' := (T, P, q, [], rest, f)) (by rw [o_back]) e0 ⟨rT_ag (by rw [e3 1 (by omega) (by omega) (by omega)]) (e3 2 (by omega) (by omega) (by omega)) xT, rP_ag (fun a x y => e3 a (by omega) (by omega) (by omega)) xP, rB_fr (fun a x y => t2 a (by omega)) h2.1, t1, ⟨by show rest.length ≤ 2; omega, e0, fun i r' hr => ?_⟩, rF_ag (fun a x y => e3 a (by omega) (by omega) (by omega)) xF⟩ (fun a h => e3 a (by omega) (by omega) (by omega))
    have hr : rest[i]? = some r' := hr
    have hi := (List.getElem?_eq_some_iff.mp hr).1
    have hb := xE.2.2 (i + 1) r' (by rw [List.getElem?_cons_succ]; exact hr)
    rw [show (q :: rest).length - 1 - (i + 1) = rest.length - 1 - i by rw [List.length_cons]; omega] at hb
    exact rB_fr (fun a x y => e3 a (by omega) (by omega) (by omega)) hb
  · have he : kept = [] := by
      cases kept with
      | nil => rfl
      | cons q rest => exact absurd c_4 (nI_ne0 (by rw [List.length_cons]; omega) (by have := xE.1; omega))
    subst he
    refine x_bipush (v := (-2)) dX6_back_7 (by decide) ?_
    refine x_ireturn dX6_back_9 rfl rfl ?_
    exact qO_of (by rw [o_back]) rfl hX frX_rfl
