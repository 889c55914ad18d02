set_option maxHeartbeats 1000000 in
set_option maxRecDepth 20000 in
theorem cM_falls {B : sB} {S : sSt} {T : Nat × (Nat → Nat)} {P : aP} {r : aR} {acts kept : List aR} {f : aF} (hm : shM B) (hX : RM S (T, P, r, acts, kept, f)) (hI : iA (T, P, r, acts, kept, f)) {x : Int32} : CS B yX7_falls cX7_falls 2 (some .int) 3 [.ref (s_ad B 102), .int x] S (qR S (o_falls (T, P, r, acts, kept, f) x)) := by
  refine cs_intro (lv := [(0, .ref (s_ad B 102)), (1, .int x)]) rfl ?_
  obtain ⟨hm0, h103, h104, h105, h106, h107, h108, h109, h110, h111, h112, h113, h114, h115, h116, h117, h118, h119, h120, h121, h122⟩ := id hm
  obtain ⟨xT, xP, xB, xA, xE, xF⟩ := id hX
  have xT : tM S T.2 T.1 := xT
  have xP : pM S P := xP
  have xB : ag (S 113) r := xB
  have xA : aM S acts := xA
  have xE : eM S kept := xE
  have xF : fM S f := xF
  have hn9 : P.1 ≤ 9 := xP.1
  have haN : isA B 113 := ⟨Or.inl rfl, h113⟩
  have haT : isA B 114 := ⟨Or.inr rfl, h114⟩
  obtain ⟨jP, jR, jA, jE, jF⟩ := id hI
  have jP : iP P := jP
  have jR : iR P r := jR
  have jF : iF f := jF
  have hn1 : 1 ≤ P.1 := jP.1
  refine x_aload_n dX7_falls_0 rfl rfl ?_
  refine x_iload_n dX7_falls_1 rfl rfl ?_
  refine kX7_132 dX7_falls_2 rfl (by assumption) (cm_isGuest hm hX hn1) (by decide) (Nat.le_of_ble_eq_true rfl) ?_
  refine x_ifne_b (tgt := 10) dX7_falls_5 (by decide) (fun c_5 => ?_) (fun c_5 => ?_)
  · have hgk := c_5
    obtain ⟨g, hg, rfl⟩ : ∃ g, g < P.1 ∧ x = nI g := ⟨_, gok_nI c_5⟩
    have hgc : (nI g).toNatClampNeg = g := nI_clamp (by omega)
    have b1 := xB (3 + g) (by omega)
    have b3 := xB (21 + g) (by omega)
    have b0 := xB 0 (by omega)
    refine x_aload_n dX7_falls_10 rfl rfl ?_
    refine gX7_41 dX7_falls_11 rfl (by assumption) rfl ?_
    refine x_iconst (v := 3) dX7_falls_14 (by decide) ?_
    refine x_iload_n dX7_falls_15 rfl rfl ?_
    refine x_iadd dX7_falls_16 ?_
    first | refine x_re (nI_add 3 _) ?_ | skip
    first | refine x_ialdN (by assumption) dX7_falls_17 (by omega) (by decide) ?_ | refine x_iald (by assumption) dX7_falls_17 (by assumption) ?_
    refine x_iconst (v := 1) dX7_falls_18 (by decide) ?_
    rw [b1]
    refine x_icmp_ne (tgt := 57) dX7_falls_19 (by decide) (fun c_19 => ?_) (fun c_19 => ?_)
    · refine x_bipush (v := (-4)) dX7_falls_57 (by decide) ?_
      refine x_ireturn dX7_falls_59 rfl rfl ?_
      first
      | exact qR_of (by rw [o_falls, if_pos hgk, hgc, if_neg c_19]) rfl hX frM_rfl
      | exact qR_of (by rw [o_falls, if_pos hgk, hgc, if_pos c_19]) (by rw [xP.2.2.1, b3, b0]; rfl) hX frM_rfl
    · refine x_aload_n dX7_falls_22 rfl rfl ?_
      refine gX7_17 dX7_falls_23 rfl (by assumption) rfl ?_
      refine x_iconst (v := 0) dX7_falls_26 (by decide) ?_
      refine x_ialdN (j := 0) (by assumption) dX7_falls_27 (by decide) (by decide) ?_
      refine x_aload_n dX7_falls_28 rfl rfl ?_
      refine gX7_41 dX7_falls_29 rfl (by assumption) rfl ?_
      refine x_bipush (v := 21) dX7_falls_32 (by decide) ?_
      refine x_iload_n dX7_falls_34 rfl rfl ?_
      refine x_iadd dX7_falls_35 ?_
      first | refine x_re (nI_add 21 _) ?_ | skip
      first | refine x_ialdN (by assumption) dX7_falls_36 (by omega) (by decide) ?_ | refine x_iald (by assumption) dX7_falls_36 (by assumption) ?_
      refine x_isub dX7_falls_37 ?_
      refine x_aload_n dX7_falls_38 rfl rfl ?_
      refine gX7_41 dX7_falls_39 rfl (by assumption) rfl ?_
      refine x_iconst (v := 0) dX7_falls_42 (by decide) ?_
      refine x_ialdN (j := 0) (by assumption) dX7_falls_43 (by decide) (by decide) ?_
      refine x_iadd dX7_falls_44 ?_
      refine x_iconst (v := 1) dX7_falls_45 (by decide) ?_
      refine x_isub dX7_falls_46 ?_
      refine x_aload_n dX7_falls_47 rfl rfl ?_
      refine gX7_41 dX7_falls_48 rfl (by assumption) rfl ?_
      refine x_iconst (v := 0) dX7_falls_51 (by decide) ?_
      refine x_ialdN (j := 0) (by assumption) dX7_falls_52 (by decide) (by decide) ?_
      refine x_idiv dX7_falls_53 (by intro h; rw [b0] at h; have h1 := jR.1.1; rw [h] at h1; exact absurd h1 (by decide)) ?_
      refine x_goto (tgt := 59) dX7_falls_54 (by decide) ?_
      refine x_ireturn dX7_falls_59 rfl rfl ?_
      first
      | exact qR_of (by rw [o_falls, if_pos hgk, hgc, if_neg c_19]) rfl hX frM_rfl
      | exact qR_of (by rw [o_falls, if_pos hgk, hgc, if_pos c_19]) (by rw [xP.2.2.1, b3, b0]; rfl) hX frM_rfl
  · refine x_iconst (v := (-1)) dX7_falls_8 (by decide) ?_
    refine x_ireturn dX7_falls_9 rfl rfl ?_
    exact qR_of (by rw [o_falls, if_neg c_5]) rfl hX frM_rfl

set_option maxHeartbeats 1000000 in
set_option maxRecDepth 20000 in
theorem cM_willBe {B : sB} {S : sSt} {T : Nat × (Nat → Nat)} {P : aP} {r : aR} {acts kept : List aR} {f : aF} (hm : shM B) (hX : RM S (T, P, r, acts, kept, f)) (hI : iA (T, P, r, acts, kept, f)) {x : Int32} : CS B yX7_willBe cX7_willBe 2 (some .int) 4 [.ref (s_ad B 102), .int x] S (qR S (o_willBe (T, P, r, acts, kept, f) x)) := by
  refine cs_intro (lv := [(0, .ref (s_ad B 102)), (1, .int x)]) rfl ?_
  obtain ⟨hm0, h103, h104, h105, h106, h107, h108, h109, h110, h111, h112, h113, h114, h115, h116, h117, h118, h119, h120, h121, h122⟩ := id hm
  obtain ⟨xT, xP, xB, xA, xE, xF⟩ := id hX
  have xT : tM S T.2 T.1 := xT
  have xP : pM S P := xP
  have xB : ag (S 113) r := xB
  have xA : aM S acts := xA
  have xE : eM S kept := xE
  have xF : fM S f := xF
  have hn9 : P.1 ≤ 9 := xP.1
  have haN : isA B 113 := ⟨Or.inl rfl, h113⟩
  have haT : isA B 114 := ⟨Or.inr rfl, h114⟩
  obtain ⟨jP, jR, jA, jE, jF⟩ := id hI
  have jP : iP P := jP
  have jR : iR P r := jR
  have jF : iF f := jF
  have hn1 : 1 ≤ P.1 := jP.1
  refine x_aload_n dX7_willBe_0 rfl rfl ?_
  refine x_iload_n dX7_willBe_1 rfl rfl ?_
  refine kX7_132 dX7_willBe_2 rfl (by assumption) (cm_isGuest hm hX hn1) (by decide) (Nat.le_of_ble_eq_true rfl) ?_
  refine x_ifne_b (tgt := 10) dX7_willBe_5 (by decide) (fun c_5 => ?_) (fun c_5 => ?_)
  · have hgk := c_5
    obtain ⟨g, hg, rfl⟩ : ∃ g, g < P.1 ∧ x = nI g := ⟨_, gok_nI c_5⟩
    have hgc : (nI g).toNatClampNeg = g := nI_clamp (by omega)
    refine x_aload_n dX7_willBe_10 rfl rfl ?_
    refine kX7_166r dX7_willBe_11 rfl (by assumption) (c_takeNow hm xB) (by decide) (Nat.le_of_ble_eq_true rfl) (fun S1 hq => ?_)
    obtain ⟨-, h1⟩ := hq
    obtain ⟨hX1, hf1⟩ := RM_try hX h1
    have xP1 : pM S1 P := hX1.2.1
    refine x_aload_n dX7_willBe_14 rfl rfl ?_
    refine x_iload_n dX7_willBe_15 rfl rfl ?_
    refine kX7_169r dX7_willBe_16 rfl (by assumption) (cm_goOn hm jP xP1 h1.1 jR hg) (by decide) (Nat.le_of_ble_eq_true rfl) (fun S2 hq => ?_)
    obtain ⟨-, h2⟩ := hq
    obtain ⟨hX2, hf2⟩ := RM_try hX1 h2
    have b1 : S2 113 (3 + g) = r (3 + g) := hX2.2.2.1 (3 + g) (by omega)
    have b4 := h2.1 (30 + g) (by omega)
    refine x_aload_n dX7_willBe_19 rfl rfl ?_
    refine gX7_41 dX7_willBe_20 rfl (by assumption) rfl ?_
    refine x_iconst (v := 3) dX7_willBe_23 (by decide) ?_
    refine x_iload_n dX7_willBe_24 rfl rfl ?_
    refine x_iadd dX7_willBe_25 ?_
    first | refine x_re (nI_add 3 _) ?_ | skip
    first | refine x_ialdN (by assumption) dX7_willBe_26 (by omega) (by decide) ?_ | refine x_iald (by assumption) dX7_willBe_26 (by assumption) ?_
    refine x_iconst (v := 3) dX7_willBe_27 (by decide) ?_
    rw [b1]
    refine x_icmp_ne (tgt := 36) dX7_willBe_28 (by decide) (fun c_28 => ?_) (fun c_28 => ?_)
    · refine x_aload_n dX7_willBe_36 rfl rfl ?_
      refine gX7_44 dX7_willBe_37 rfl (by assumption) rfl ?_
      refine x_bipush (v := 30) dX7_willBe_40 (by decide) ?_
      refine x_iload_n dX7_willBe_42 rfl rfl ?_
      refine x_iadd dX7_willBe_43 ?_
      first | refine x_re (nI_add 30 _) ?_ | skip
      first | refine x_ialdN (by assumption) dX7_willBe_44 (by omega) (by decide) ?_ | refine x_iald (by assumption) dX7_willBe_44 (by assumption) ?_
      refine x_ireturn dX7_willBe_45 rfl rfl ?_
      first
      | exact qR_of (by rw [o_willBe, if_pos hgk, hgc, if_neg c_28]) b4 hX2 (frM_trans hf1 hf2)
      | exact qR_of (by rw [o_willBe, if_pos hgk, hgc, if_pos c_28]) rfl hX2 (frM_trans hf1 hf2)
    · refine x_bipush (v := (-4)) dX7_willBe_31 (by decide) ?_
      refine x_goto (tgt := 45) dX7_willBe_33 (by decide) ?_
      refine x_ireturn dX7_willBe_45 rfl rfl ?_
      first
      | exact qR_of (by rw [o_willBe, if_pos hgk, hgc, if_neg c_28]) b4 hX2 (frM_trans hf1 hf2)
      | exact qR_of (by rw [o_willBe, if_pos hgk, hgc, if_pos c_28]) rfl hX2 (frM_trans hf1 hf2)
  · refine x_iconst (v := (-1)) dX7_willBe_8 (by decide) ?_
    refine x_ireturn dX7_willBe_9 rfl rfl ?_
    exact qR_of (by rw [o_willBe, if_neg c_5]) rfl hX frM_rfl

set_option maxHeartbeats 1000000 in
set_option maxRecDepth 20000 in
theorem cM_content {B : sB} {S : sSt} {T : Nat × (Nat → Nat)} {P : aP} {r : aR} {acts kept : List aR} {f : aF} (hm : shM B) (hX : RM S (T, P, r, acts, kept, f)) (hI : iA (T, P, r, acts, kept, f)) : CS B yX7_content cX7_content 1 (some .int) 4 [.ref (s_ad B 102)] S (qR S (o_content (T, P, r, acts, kept, f))) := by
  refine cs_intro (lv := [(0, .ref (s_ad B 102))]) rfl ?_
  obtain ⟨hm0, h103, h104, h105, h106, h107, h108, h109, h110, h111, h112, h113, h114, h115, h116, h117, h118, h119, h120, h121, h122⟩ := id hm
  obtain ⟨xT, xP, xB, xA, xE, xF⟩ := id hX
  have xT : tM S T.2 T.1 := xT
  have xP : pM S P := xP
  have xB : ag (S 113) r := xB
  have xA : aM S acts := xA
  have xE : eM S kept := xE
  have xF : fM S f := xF
  have hn9 : P.1 ≤ 9 := xP.1
  have haN : isA B 113 := ⟨Or.inl rfl, h113⟩
  have haT : isA B 114 := ⟨Or.inr rfl, h114⟩
  obtain ⟨jP, jR, jA, jE, jF⟩ := id hI
  have jP : iP P := jP
  have jR : iR P r := jR
  have jF : iF f := jF
  have hn1 : 1 ≤ P.1 := jP.1
  refine x_aload_n dX7_content_0 rfl rfl ?_
  refine x_aload_n dX7_content_1 rfl rfl ?_
  refine gX7_41 dX7_content_2 rfl (by assumption) rfl ?_
  refine kX7_172 dX7_content_5 rfl (by assumption) (c_contentOf hm haN xP xB jR.2.2.2.1) (by decide) (Nat.le_of_ble_eq_true rfl) ?_
  refine x_ireturn dX7_content_8 rfl rfl ?_
  exact qR_of (by rw [o_content]) rfl hX frM_rfl

set_option maxHeartbeats 1000000 in
set_option maxRecDepth 20000 in
theorem lm_knobFor {B : sB} {S : sSt} {T : Nat × (Nat → Nat)} {P : aP} {r : aR} {acts kept : List aR} {f : aF} (hm : shM B) (hX : RM S (T, P, r, acts, kept, f)) (hI : iA (T, P, r, acts, kept, f)) {g : Nat} {l : Int32} (hg : g < P.1) :
    ∀ (k i : Nat) (S0 : sSt), i + k = 10 → 1 ≤ i → RM S0 (T, P, r, acts, kept, f) → frM S S0 → WS B (fun _ => True) yX7_knobFor cX7_knobFor 4 (some .int) 5 30 [(3, .int (nI i)), (0, .ref (s_ad B 102)), (1, .int (nI g)), (2, .int l)] [] S0 (fun v S1 => v = some (.int (oI (fndU (fun k => rgt P (rideF P (upd r 0 (nI k)) g l) g g) k i))) ∧ RM S1 (T, P, r, acts, kept, f) ∧ frM S S1) := by
  obtain ⟨hm0, h103, h104, h105, h106, h107, h108, h109, h110, h111, h112, h113, h114, h115, h116, h117, h118, h119, h120, h121, h122⟩ := id hm
  have haN : isA B 113 := ⟨Or.inl rfl, h113⟩
  have haT : isA B 114 := ⟨Or.inr rfl, h114⟩
  obtain ⟨jP, jR, jA, jE, jF⟩ := id hI
  have jP : iP P := jP
  have jR : iR P r := jR
  have jF : iF f := jF
  have hn1 : 1 ≤ P.1 := jP.1
  intro k
  induction k with
  | zero =>
    intro i S0 hi h1i hX0 hf0
    refine x_iload_n dX7_knobFor_30 rfl rfl ?_
    refine x_bipush (v := 9) dX7_knobFor_31 (by decide) ?_
    refine x_icmp_gt (tgt := 64) dX7_knobFor_33 (by decide) (fun c_33 => ?_) (fun c_33 => ?_)
    · refine x_bipush (v := (-4)) dX7_knobFor_64 (by decide) ?_
      refine x_ireturn dX7_knobFor_66 rfl rfl ?_
      exact ⟨rfl, hX0, hf0⟩
    · exact absurd (show (9 : Int32) < nI i from nI_lt (a := 9) (by omega) (by omega)) c_33
  | succ k ih =>
    intro i S0 hi h1i hX0 hf0
    have xP : pM S0 P := hX0.2.1
    have xB : ag (S0 113) r := hX0.2.2.1
    refine x_iload_n dX7_knobFor_30 rfl rfl ?_
    refine x_bipush (v := 9) dX7_knobFor_31 (by decide) ?_
    refine x_icmp_gt (tgt := 64) dX7_knobFor_33 (by decide) (fun c_33 => ?_) (fun c_33 => ?_)
    · exact absurd c_33 (nI_nlt (a := 9) (by omega) (by omega))
    · refine x_aload_n dX7_knobFor_36 rfl rfl ?_
      refine kX7_166r dX7_knobFor_37 rfl (by assumption) (c_takeNow hm xB) (by decide) (Nat.le_of_ble_eq_true rfl) (fun S1 hq => ?_)
      obtain ⟨-, h1⟩ := hq
      have xP1 := pM_ch h1 (by omega) xP
      refine x_aload_n dX7_knobFor_40 rfl rfl ?_
      refine gX7_44 dX7_knobFor_41 rfl (by assumption) rfl ?_
      refine x_iconst (v := 0) dX7_knobFor_44 (by decide) ?_
      refine x_iload_n dX7_knobFor_45 rfl rfl ?_
      refine x_iastN (j := 0) (by assumption) dX7_knobFor_46 (by decide) (by decide) ?_
      refine x_gen (Pz := fun S' => chM S0 S' 114 _) (chM_put h1) (fun S2 h2 => ?_)
      have xP2 := pM_ch h2 (by omega) xP
      refine x_aload_n dX7_knobFor_47 rfl rfl ?_
      refine x_iload_n dX7_knobFor_48 rfl rfl ?_
      refine x_iload_n dX7_knobFor_49 rfl rfl ?_
      refine kX7_175r dX7_knobFor_50 rfl (by assumption) (c_isRightBy hm jP xP2 h2.1 (iR_knob (by rw [nI_toInt (by omega)]; omega) jR) hg) (by decide) (Nat.le_of_ble_eq_true rfl) (fun zz S3 hq => ?_)
      obtain ⟨q1, h3⟩ := hq
      cases q1
      obtain ⟨hX3, hf3⟩ := RM_try hX0 (chM_trans h2 h3)
      refine x_ifeq_b (tgt := 58) dX7_knobFor_53 (by decide) (fun c_53 => ?_) (fun c_53 => ?_)
      · first | refine x_inc1N (lv' := [(3, _), (0, _), (1, _), (2, _)]) dX7_knobFor_58 rfl (by decide) rfl ?_ | refine x_iinc (v := _ + 1) (lv' := [(3, _), (0, _), (1, _), (2, _)]) dX7_knobFor_58 rfl rfl (by decide) rfl ?_
        refine x_goto (tgt := 30) dX7_knobFor_61 (by decide) ?_
        rw [fndU, if_neg c_53]
        exact ih (i + 1) S3 (by omega) (by omega) hX3 (frM_trans hf0 hf3)
      · refine x_iload_n dX7_knobFor_56 rfl rfl ?_
        refine x_ireturn dX7_knobFor_57 rfl rfl ?_
        rw [fndU, if_pos c_53]
        exact ⟨rfl, hX3, frM_trans hf0 hf3⟩

set_option maxHeartbeats 1000000 in
set_option maxRecDepth 20000 in
theorem cM_knobFor {B : sB} {S : sSt} {T : Nat × (Nat → Nat)} {P : aP} {r : aR} {acts kept : List aR} {f : aF} (hm : shM B) (hX : RM S (T, P, r, acts, kept, f)) (hI : iA (T, P, r, acts, kept, f)) {x l : Int32} : CS B yX7_knobFor cX7_knobFor 4 (some .int) 5 [.ref (s_ad B 102), .int x, .int l] S (qR S (o_knobFor (T, P, r, acts, kept, f) x l)) := by
  refine cs_intro (lv := [(0, .ref (s_ad B 102)), (1, .int x), (2, .int l)]) rfl ?_
  obtain ⟨hm0, h103, h104, h105, h106, h107, h108, h109, h110, h111, h112, h113, h114, h115, h116, h117, h118, h119, h120, h121, h122⟩ := id hm
  obtain ⟨xT, xP, xB, xA, xE, xF⟩ := id hX
  have xT : tM S T.2 T.1 := xT
  have xP : pM S P := xP
  have xB : ag (S 113) r := xB
  have xA : aM S acts := xA
  have xE : eM S kept := xE
  have xF : fM S f := xF
  have hn9 : P.1 ≤ 9 := xP.1
  have haN : isA B 113 := ⟨Or.inl rfl, h113⟩
  have haT : isA B 114 := ⟨Or.inr rfl, h114⟩
  obtain ⟨jP, jR, jA, jE, jF⟩ := id hI
  have jP : iP P := jP
  have jR : iR P r := jR
  have jF : iF f := jF
  have hn1 : 1 ≤ P.1 := jP.1
  refine x_aload_n dX7_knobFor_0 rfl rfl ?_
  refine x_iload_n dX7_knobFor_1 rfl rfl ?_
  refine kX7_132 dX7_knobFor_2 rfl (by assumption) (cm_isGuest hm hX hn1) (by decide) (Nat.le_of_ble_eq_true rfl) ?_
  refine x_ifeq_b (tgt := 15) dX7_knobFor_5 (by decide) (fun c_5 => ?_) (fun c_5 => ?_)
  · refine x_iconst (v := (-1)) dX7_knobFor_15 (by decide) ?_
    refine x_ireturn dX7_knobFor_16 rfl rfl ?_
    first
    | exact qR_of (by rw [o_knobFor, show refF P r x l = -1 from by rw [refF, if_neg (by rw [Bool.and_eq_true]; exact fun z => c_5 z.1)], if_neg (by decide)]) rfl hX frM_rfl
    | exact qR_of (by rw [o_knobFor, show refF P r (nI g) l = -1 from by rw [refF, if_neg (by rw [Bool.and_eq_true]; exact fun z => c_12 (wn_iff.mp z.2))], if_neg (by decide)]) rfl hX frM_rfl
  · have hgk := c_5
    obtain ⟨g, hg, rfl⟩ : ∃ g, g < P.1 ∧ x = nI g := ⟨_, gok_nI c_5⟩
    have hgc : (nI g).toNatClampNeg = g := nI_clamp (by omega)
    refine x_iload_n dX7_knobFor_8 rfl rfl ?_
    refine kX7_140 dX7_knobFor_9 rfl (cm_isLane) (by decide) (Nat.le_of_ble_eq_true rfl) ?_
    refine x_ifne_b (tgt := 17) dX7_knobFor_12 (by decide) (fun c_12 => ?_) (fun c_12 => ?_)
    · have hok : (gok P (nI g) && wn l 0 1) = true := by rw [Bool.and_eq_true]; exact ⟨hgk, wn_iff.mpr c_12⟩
      refine x_aload_n dX7_knobFor_17 rfl rfl ?_
      refine x_iload_n dX7_knobFor_18 rfl rfl ?_
      refine kX7_143 dX7_knobFor_19 rfl (by assumption) (c_isLoose hm xB (by omega)) (by decide) (Nat.le_of_ble_eq_true rfl) ?_
      refine x_ifne_b (tgt := 28) dX7_knobFor_22 (by decide) (fun c_22 => ?_) (fun c_22 => ?_)
      · have hrf : refF P r (nI g) l = 0 := by rw [refF, if_pos hok, hgc, if_pos c_22]
        refine x_iconst (v := 1) dX7_knobFor_28 (by decide) ?_
        refine x_istore_n (lv' := [(3, _), (0, _), (1, _), (2, _)]) dX7_knobFor_29 rfl (by decide) rfl ?_
        refine x_post (fun v S2 hq => ?_) (lm_knobFor hm hX hI hg 9 1 S (by omega) (by omega) hX frM_rfl)
        obtain ⟨q1, q2, q3⟩ := hq
        cases q1
        exact qR_of (by rw [o_knobFor, if_pos hrf, hgc]) rfl q2 q3
      · refine x_bipush (v := (-2)) dX7_knobFor_25 (by decide) ?_
        refine x_ireturn dX7_knobFor_27 rfl rfl ?_
        exact qR_of (by rw [o_knobFor, show refF P r (nI g) l = -2 from by rw [refF, if_pos hok, hgc, if_neg c_22], if_neg (by decide)]) rfl hX frM_rfl
    · refine x_iconst (v := (-1)) dX7_knobFor_15 (by decide) ?_
      refine x_ireturn dX7_knobFor_16 rfl rfl ?_
      first
      | exact qR_of (by rw [o_knobFor, show refF P r x l = -1 from by rw [refF, if_neg (by rw [Bool.and_eq_true]; exact fun z => c_5 z.1)], if_neg (by decide)]) rfl hX frM_rfl
      | exact qR_of (by rw [o_knobFor, show refF P r (nI g) l = -1 from by rw [refF, if_neg (by rw [Bool.and_eq_true]; exact fun z => c_12 (wn_iff.mp z.2))], if_neg (by decide)]) rfl hX frM_rfl

set_option maxHeartbeats 1000000 in
set_option maxRecDepth 20000 in
theorem lm_often {B : sB} {S : sSt} {T : Nat × (Nat → Nat)} {P : aP} {r : aR} {acts kept : List aR} {f : aF} (hm : shM B) (hX : RM S (T, P, r, acts, kept, f)) (hI : iA (T, P, r, acts, kept, f)) {g : Nat} {l : Int32} (hg : g < P.1) :
    ∀ (k i : Nat) (S0 : sSt) (q : aR), i + k = 6 → RM S0 (T, P, r, acts, kept, f) → ag (S0 114) q → iR P q → frM S S0 → WS B (fun _ => True) yX7_often cX7_often 4 (some .int) 5 34 [(3, .int (nI i)), (0, .ref (s_ad B 102)), (1, .int (nI g)), (2, .int l)] [] S0 (fun v S1 => v = some (.int (oI (oftU P g l k i q))) ∧ RM S1 (T, P, r, acts, kept, f) ∧ frM S S1) := by
  obtain ⟨hm0, h103, h104, h105, h106, h107, h108, h109, h110, h111, h112, h113, h114, h115, h116, h117, h118, h119, h120, h121, h122⟩ := id hm
  have haN : isA B 113 := ⟨Or.inl rfl, h113⟩
  have haT : isA B 114 := ⟨Or.inr rfl, h114⟩
  obtain ⟨jP, jR, jA, jE, jF⟩ := id hI
  have jP : iP P := jP
  have jR : iR P r := jR
  have jF : iF f := jF
  have hn1 : 1 ≤ P.1 := jP.1
  intro k
  induction k with
  | zero =>
    intro i S0 q hi hX0 hq0 jq hf0
    refine x_iload_n dX7_often_34 rfl rfl ?_
    refine x_iconst (v := 5) dX7_often_35 (by decide) ?_
    refine x_icmp_gt (tgt := 56) dX7_often_36 (by decide) (fun c_36 => ?_) (fun c_36 => ?_)
    · refine x_bipush (v := (-4)) dX7_often_56 (by decide) ?_
      refine x_ireturn dX7_often_58 rfl rfl ?_
      exact ⟨rfl, hX0, hf0⟩
    · exact absurd (show (5 : Int32) < nI i from nI_lt (a := 5) (by omega) (by omega)) c_36
  | succ k ih =>
    intro i S0 q hi hX0 hq0 jq hf0
    refine x_iload_n dX7_often_34 rfl rfl ?_
    refine x_iconst (v := 5) dX7_often_35 (by decide) ?_
    refine x_icmp_gt (tgt := 56) dX7_often_36 (by decide) (fun c_36 => ?_) (fun c_36 => ?_)
    · exact absurd c_36 (nI_nlt (a := 5) (by omega) (by omega))
    · refine x_aload_n dX7_often_39 rfl rfl ?_
      refine x_iload_n dX7_often_40 rfl rfl ?_
      refine x_iload_n dX7_often_41 rfl rfl ?_
      refine kX7_175r dX7_often_42 rfl (by assumption) (c_isRightBy hm jP hX0.2.1 hq0 jq hg) (by decide) (Nat.le_of_ble_eq_true rfl) (fun zz S3 hq => ?_)
      obtain ⟨q1, h3⟩ := hq
      cases q1
      obtain ⟨hX3, hf3⟩ := RM_try hX0 h3
      refine x_ifeq_b (tgt := 50) dX7_often_45 (by decide) (fun c_45 => ?_) (fun c_45 => ?_)
      · first | refine x_inc1N (lv' := [(3, _), (0, _), (1, _), (2, _)]) dX7_often_50 rfl (by decide) rfl ?_ | refine x_iinc (v := _ + 1) (lv' := [(3, _), (0, _), (1, _), (2, _)]) dX7_often_50 rfl rfl (by decide) rfl ?_
        refine x_goto (tgt := 34) dX7_often_53 (by decide) ?_
        rw [oftU, if_neg c_45]
        exact ih (i + 1) S3 _ (by omega) hX3 h3.1 (iR_til jP 40 _ (iR_put jP hg jq)) (frM_trans hf0 hf3)
      · refine x_iload_n dX7_often_48 rfl rfl ?_
        refine x_ireturn dX7_often_49 rfl rfl ?_
        rw [oftU, if_pos c_45]
        exact ⟨rfl, hX3, frM_trans hf0 hf3⟩

set_option maxHeartbeats 1000000 in
set_option maxRecDepth 20000 in
theorem cM_often {B : sB} {S : sSt} {T : Nat × (Nat → Nat)} {P : aP} {r : aR} {acts kept : List aR} {f : aF} (hm : shM B) (hX : RM S (T, P, r, acts, kept, f)) (hI : iA (T, P, r, acts, kept, f)) {x l : Int32} : CS B yX7_often cX7_often 4 (some .int) 5 [.ref (s_ad B 102), .int x, .int l] S (qR S (o_often (T, P, r, acts, kept, f) x l)) := by
  refine cs_intro (lv := [(0, .ref (s_ad B 102)), (1, .int x), (2, .int l)]) rfl ?_
  obtain ⟨hm0, h103, h104, h105, h106, h107, h108, h109, h110, h111, h112, h113, h114, h115, h116, h117, h118, h119, h120, h121, h122⟩ := id hm
  obtain ⟨xT, xP, xB, xA, xE, xF⟩ := id hX
  have xT : tM S T.2 T.1 := xT
  have xP : pM S P := xP
  have xB : ag (S 113) r := xB
  have xA : aM S acts := xA
  have xE : eM S kept := xE
  have xF : fM S f := xF
  have hn9 : P.1 ≤ 9 := xP.1
  have haN : isA B 113 := ⟨Or.inl rfl, h113⟩
  have haT : isA B 114 := ⟨Or.inr rfl, h114⟩
  obtain ⟨jP, jR, jA, jE, jF⟩ := id hI
  have jP : iP P := jP
  have jR : iR P r := jR
  have jF : iF f := jF
  have hn1 : 1 ≤ P.1 := jP.1
  refine x_aload_n dX7_often_0 rfl rfl ?_
  refine x_iload_n dX7_often_1 rfl rfl ?_
  refine kX7_132 dX7_often_2 rfl (by assumption) (cm_isGuest hm hX hn1) (by decide) (Nat.le_of_ble_eq_true rfl) ?_
  refine x_ifeq_b (tgt := 15) dX7_often_5 (by decide) (fun c_5 => ?_) (fun c_5 => ?_)
  · refine x_iconst (v := (-1)) dX7_often_15 (by decide) ?_
    refine x_ireturn dX7_often_16 rfl rfl ?_
    first
    | exact qR_of (by rw [o_often, show refF P r x l = -1 from by rw [refF, if_neg (by rw [Bool.and_eq_true]; exact fun z => c_5 z.1)], if_neg (by decide)]) rfl hX frM_rfl
    | exact qR_of (by rw [o_often, show refF P r (nI g) l = -1 from by rw [refF, if_neg (by rw [Bool.and_eq_true]; exact fun z => c_12 (wn_iff.mp z.2))], if_neg (by decide)]) rfl hX frM_rfl
  · have hgk := c_5
    obtain ⟨g, hg, rfl⟩ : ∃ g, g < P.1 ∧ x = nI g := ⟨_, gok_nI c_5⟩
    have hgc : (nI g).toNatClampNeg = g := nI_clamp (by omega)
    refine x_iload_n dX7_often_8 rfl rfl ?_
    refine kX7_140 dX7_often_9 rfl (cm_isLane) (by decide) (Nat.le_of_ble_eq_true rfl) ?_
    refine x_ifne_b (tgt := 17) dX7_often_12 (by decide) (fun c_12 => ?_) (fun c_12 => ?_)
    · have hok : (gok P (nI g) && wn l 0 1) = true := by rw [Bool.and_eq_true]; exact ⟨hgk, wn_iff.mpr c_12⟩
      refine x_aload_n dX7_often_17 rfl rfl ?_
      refine x_iload_n dX7_often_18 rfl rfl ?_
      refine kX7_143 dX7_often_19 rfl (by assumption) (c_isLoose hm xB (by omega)) (by decide) (Nat.le_of_ble_eq_true rfl) ?_
      refine x_ifne_b (tgt := 28) dX7_often_22 (by decide) (fun c_22 => ?_) (fun c_22 => ?_)
      · have hrf : refF P r (nI g) l = 0 := by rw [refF, if_pos hok, hgc, if_pos c_22]
        refine x_aload_n dX7_often_28 rfl rfl ?_
        refine kX7_166r dX7_often_29 rfl (by assumption) (c_takeNow hm xB) (by decide) (Nat.le_of_ble_eq_true rfl) (fun S1 hq => ?_)
        obtain ⟨-, h1⟩ := hq
        obtain ⟨hX1, hf1⟩ := RM_try hX h1
        have xP1 : pM S1 P := hX1.2.1
        refine x_iconst (v := 1) dX7_often_32 (by decide) ?_
        refine x_istore_n (lv' := [(3, _), (0, _), (1, _), (2, _)]) dX7_often_33 rfl (by decide) rfl ?_
        refine x_post (fun v S2 hq => ?_) (lm_often hm hX hI hg 5 1 S1 r (by omega) hX1 h1.1 jR hf1)
        obtain ⟨q1, q2, q3⟩ := hq
        cases q1
        exact qR_of (by rw [o_often, if_pos hrf, hgc]) rfl q2 q3
      · refine x_bipush (v := (-2)) dX7_often_25 (by decide) ?_
        refine x_ireturn dX7_often_27 rfl rfl ?_
        exact qR_of (by rw [o_often, show refF P r (nI g) l = -2 from by rw [refF, if_pos hok, hgc, if_neg c_22], if_neg (by decide)]) rfl hX frM_rfl
    · refine x_iconst (v := (-1)) dX7_often_15 (by decide) ?_
      refine x_ireturn dX7_often_16 rfl rfl ?_
      first
      | exact qR_of (by rw [o_often, show refF P r x l = -1 from by rw [refF, if_neg (by rw [Bool.and_eq_true]; exact fun z => c_5 z.1)], if_neg (by decide)]) rfl hX frM_rfl
      | exact qR_of (by rw [o_often, show refF P r (nI g) l = -1 from by rw [refF, if_neg (by rw [Bool.and_eq_true]; exact fun z => c_12 (wn_iff.mp z.2))], if_neg (by decide)]) rfl hX frM_rfl

set_option maxHeartbeats 1000000 in
set_option maxRecDepth 20000 in
theorem lm_waits2 {B : sB} {S : sSt} {T : Nat × (Nat → Nat)} {P : aP} {r : aR} {acts kept : List aR} {f : aF} (hm : shM B) (hX : RM S (T, P, r, acts, kept, f)) (hI : iA (T, P, r, acts, kept, f)) {g i : Nat} {l : Int32} {Q : Option Value → sSt → Prop} (hi30 : i ≤ 30) (hex : ∀ S1, RM S1 (T, P, r, acts, kept, f) → ag (S1 114) (momN P i r) → frM S S1 → WS B (fun _ => True) yX7_waits cX7_waits 5 (some .int) 5 64 [(4, .int (nI i)), (3, .int (nI i)), (0, .ref (s_ad B 102)), (1, .int (nI g)), (2, .int l)] [] S1 Q) :
    ∀ (k j : Nat) (S0 : sSt), j + k = i → RM S0 (T, P, r, acts, kept, f) → ag (S0 114) (momN P j r) → frM S S0 → WS B (fun _ => True) yX7_waits cX7_waits 5 (some .int) 5 43 [(4, .int (nI j)), (3, .int (nI i)), (0, .ref (s_ad B 102)), (1, .int (nI g)), (2, .int l)] [] S0 Q := by
  obtain ⟨hm0, h103, h104, h105, h106, h107, h108, h109, h110, h111, h112, h113, h114, h115, h116, h117, h118, h119, h120, h121, h122⟩ := id hm
  have haN : isA B 113 := ⟨Or.inl rfl, h113⟩
  have haT : isA B 114 := ⟨Or.inr rfl, h114⟩
  intro k
  induction k with
  | zero =>
    intro j S0 hj hX0 hq0 hf0
    refine x_iload dX7_waits_43 rfl ?_
    refine x_iload_n dX7_waits_45 rfl rfl ?_
    refine x_icmp_ge (tgt := 64) dX7_waits_46 (by decide) (fun c_46 => ?_) (fun c_46 => ?_)
    · rw [show j = i by omega] at hq0 ⊢
      exact hex S0 hX0 hq0 hf0
    · exact absurd (by exact nI_le (by omega) (by omega)) c_46
  | succ k ih =>
    intro j S0 hj hX0 hq0 hf0
    refine x_iload dX7_waits_43 rfl ?_
    refine x_iload_n dX7_waits_45 rfl rfl ?_
    refine x_icmp_ge (tgt := 64) dX7_waits_46 (by decide) (fun c_46 => ?_) (fun c_46 => ?_)
    · exact absurd c_46 (by exact nI_ge (by omega) (by omega))
    · refine x_aload_n dX7_waits_49 rfl rfl ?_
      refine x_aload_n dX7_waits_50 rfl rfl ?_
      refine gX7_44 dX7_waits_51 rfl (by assumption) rfl ?_
      refine kX7_156r dX7_waits_54 rfl (by assumption) (c_moment hm haT hX0.2.1 hq0) (by decide) (Nat.le_of_ble_eq_true rfl) (fun zz S2 hq => ?_)
      obtain ⟨-, h2⟩ := hq
      obtain ⟨hX2, hf2⟩ := RM_try hX0 h2
      refine x_pop dX7_waits_57 rfl ?_
      first | refine x_inc1N (lv' := [(4, _), (3, _), (0, _), (1, _), (2, _)]) dX7_waits_58 rfl (by decide) rfl ?_ | refine x_iinc (v := _ + 1) (lv' := [(4, _), (3, _), (0, _), (1, _), (2, _)]) dX7_waits_58 rfl rfl (by decide) rfl ?_
      refine x_goto (tgt := 43) dX7_waits_61 (by decide) ?_
      have h3 := h2.1
      rw [← momN_succ] at h3
      exact ih (j + 1) S2 (by omega) hX2 h3 (frM_trans hf0 hf2)

set_option maxHeartbeats 1000000 in
set_option maxRecDepth 20000 in
theorem lm_waits {B : sB} {S : sSt} {T : Nat × (Nat → Nat)} {P : aP} {r : aR} {acts kept : List aR} {f : aF} (hm : shM B) (hX : RM S (T, P, r, acts, kept, f)) (hI : iA (T, P, r, acts, kept, f)) {g : Nat} {l : Int32} (hg : g < P.1) :
    ∀ (k i : Nat) (S0 : sSt), i + k = 31 → RM S0 (T, P, r, acts, kept, f) → frM S S0 → WS B (fun _ => True) yX7_waits cX7_waits 5 (some .int) 5 30 [(3, .int (nI i)), (0, .ref (s_ad B 102)), (1, .int (nI g)), (2, .int l)] [] S0 (fun v S1 => v = some (.int (oI (waiU P g l k i (momN P i r)))) ∧ RM S1 (T, P, r, acts, kept, f) ∧ frM S S1) := by
  obtain ⟨hm0, h103, h104, h105, h106, h107, h108, h109, h110, h111, h112, h113, h114, h115, h116, h117, h118, h119, h120, h121, h122⟩ := id hm
  have haN : isA B 113 := ⟨Or.inl rfl, h113⟩
  have haT : isA B 114 := ⟨Or.inr rfl, h114⟩
  obtain ⟨jP, jR, jA, jE, jF⟩ := id hI
  have jP : iP P := jP
  have jR : iR P r := jR
  have jF : iF f := jF
  have hn1 : 1 ≤ P.1 := jP.1
  intro k
  induction k with
  | zero =>
    intro i S0 hi hX0 hf0
    refine x_iload_n dX7_waits_30 rfl rfl ?_
    refine x_bipush (v := 30) dX7_waits_31 (by decide) ?_
    refine x_icmp_gt (tgt := 81) dX7_waits_33 (by decide) (fun c_33 => ?_) (fun c_33 => ?_)
    · refine x_bipush (v := (-4)) dX7_waits_81 (by decide) ?_
      refine x_ireturn dX7_waits_83 rfl rfl ?_
      exact ⟨rfl, hX0, hf0⟩
    · exact absurd (show (30 : Int32) < nI i from nI_lt (a := 30) (by omega) (by omega)) c_33
  | succ k ih =>
    intro i S0 hi hX0 hf0
    have xB : ag (S0 113) r := hX0.2.2.1
    refine x_iload_n dX7_waits_30 rfl rfl ?_
    refine x_bipush (v := 30) dX7_waits_31 (by decide) ?_
    refine x_icmp_gt (tgt := 81) dX7_waits_33 (by decide) (fun c_33 => ?_) (fun c_33 => ?_)
    · exact absurd c_33 (nI_nlt (a := 30) (by omega) (by omega))
    · refine x_aload_n dX7_waits_36 rfl rfl ?_
      refine kX7_166r dX7_waits_37 rfl (by assumption) (c_takeNow hm xB) (by decide) (Nat.le_of_ble_eq_true rfl) (fun S1 hq => ?_)
      obtain ⟨-, h1⟩ := hq
      obtain ⟨hX1, hf1⟩ := RM_try hX0 h1
      refine x_iconst (v := 0) dX7_waits_40 (by decide) ?_
      refine x_istore (lv' := [(4, _), (3, _), (0, _), (1, _), (2, _)]) dX7_waits_41 (by decide) rfl ?_
      refine lm_waits2 (i := i) hm hX1 hI (by omega) (fun S2 hX2 hq2 hf2 => ?_) i 0 S1 (by omega) hX1 h1.1 frM_rfl
      refine x_aload_n dX7_waits_64 rfl rfl ?_
      refine x_iload_n dX7_waits_65 rfl rfl ?_
      refine x_iload_n dX7_waits_66 rfl rfl ?_
      refine kX7_175r dX7_waits_67 rfl (by assumption) (c_isRightBy hm jP hX2.2.1 hq2 (iR_momN' jP i r jR) hg) (by decide) (Nat.le_of_ble_eq_true rfl) (fun zz S3 hq => ?_)
      obtain ⟨q1, h3⟩ := hq
      cases q1
      obtain ⟨hX3, hf3⟩ := RM_try hX2 h3
      refine x_ifeq_b (tgt := 75) dX7_waits_70 (by decide) (fun c_70 => ?_) (fun c_70 => ?_)
      · first | refine x_inc1N (lv' := [(3, _), (4, _), (0, _), (1, _), (2, _)]) dX7_waits_75 rfl (by decide) rfl ?_ | refine x_iinc (v := _ + 1) (lv' := [(3, _), (4, _), (0, _), (1, _), (2, _)]) dX7_waits_75 rfl rfl (by decide) rfl ?_
        refine x_goto (tgt := 30) dX7_waits_78 (by decide) ?_
        refine x_wk [0, 2, 3, 4] rfl ?_
        rw [waiU, if_neg c_70, ← momN_succ]
        exact ih (i + 1) S3 (by omega) hX3 (frM_trans hf0 (frM_trans hf1 (frM_trans hf2 hf3)))
      · refine x_iload_n dX7_waits_73 rfl rfl ?_
        refine x_ireturn dX7_waits_74 rfl rfl ?_
        rw [waiU, if_pos c_70]
        exact ⟨rfl, hX3, frM_trans hf0 (frM_trans hf1 (frM_trans hf2 hf3))⟩

set_option maxHeartbeats 1000000 in
set_option maxRecDepth 20000 in
theorem cM_waits {B : sB} {S : sSt} {T : Nat × (Nat → Nat)} {P : aP} {r : aR} {acts kept : List aR} {f : aF} (hm : shM B) (hX : RM S (T, P, r, acts, kept, f)) (hI : iA (T, P, r, acts, kept, f)) {x l : Int32} : CS B yX7_waits cX7_waits 5 (some .int) 5 [.ref (s_ad B 102), .int x, .int l] S (qR S (o_waits (T, P, r, acts, kept, f) x l)) := by
  refine cs_intro (lv := [(0, .ref (s_ad B 102)), (1, .int x), (2, .int l)]) rfl ?_
  obtain ⟨hm0, h103, h104, h105, h106, h107, h108, h109, h110, h111, h112, h113, h114, h115, h116, h117, h118, h119, h120, h121, h122⟩ := id hm
  obtain ⟨xT, xP, xB, xA, xE, xF⟩ := id hX
  have xT : tM S T.2 T.1 := xT
  have xP : pM S P := xP
  have xB : ag (S 113) r := xB
  have xA : aM S acts := xA
  have xE : eM S kept := xE
  have xF : fM S f := xF
  have hn9 : P.1 ≤ 9 := xP.1
  have haN : isA B 113 := ⟨Or.inl rfl, h113⟩
  have haT : isA B 114 := ⟨Or.inr rfl, h114⟩
  obtain ⟨jP, jR, jA, jE, jF⟩ := id hI
  have jP : iP P := jP
  have jR : iR P r := jR
  have jF : iF f := jF
  have hn1 : 1 ≤ P.1 := jP.1
  refine x_aload_n dX7_waits_0 rfl rfl ?_
  refine x_iload_n dX7_waits_1 rfl rfl ?_
  refine kX7_132 dX7_waits_2 rfl (by assumption) (cm_isGuest hm hX hn1) (by decide) (Nat.le_of_ble_eq_true rfl) ?_
  refine x_ifeq_b (tgt := 15) dX7_waits_5 (by decide) (fun c_5 => ?_) (fun c_5 => ?_)
  · refine x_iconst (v := (-1)) dX7_waits_15 (by decide) ?_
    refine x_ireturn dX7_waits_16 rfl rfl ?_
    first
    | exact qR_of (by rw [o_waits, show refF P r x l = -1 from by rw [refF, if_neg (by rw [Bool.and_eq_true]; exact fun z => c_5 z.1)], if_neg (by decide)]) rfl hX frM_rfl
    | exact qR_of (by rw [o_waits, show refF P r (nI g) l = -1 from by rw [refF, if_neg (by rw [Bool.and_eq_true]; exact fun z => c_12 (wn_iff.mp z.2))], if_neg (by decide)]) rfl hX frM_rfl
  · have hgk := c_5
    obtain ⟨g, hg, rfl⟩ : ∃ g, g < P.1 ∧ x = nI g := ⟨_, gok_nI c_5⟩
    have hgc : (nI g).toNatClampNeg = g := nI_clamp (by omega)
    refine x_iload_n dX7_waits_8 rfl rfl ?_
    refine kX7_140 dX7_waits_9 rfl (cm_isLane) (by decide) (Nat.le_of_ble_eq_true rfl) ?_
    refine x_ifne_b (tgt := 17) dX7_waits_12 (by decide) (fun c_12 => ?_) (fun c_12 => ?_)
    · have hok : (gok P (nI g) && wn l 0 1) = true := by rw [Bool.and_eq_true]; exact ⟨hgk, wn_iff.mpr c_12⟩
      refine x_aload_n dX7_waits_17 rfl rfl ?_
      refine x_iload_n dX7_waits_18 rfl rfl ?_
      refine kX7_143 dX7_waits_19 rfl (by assumption) (c_isLoose hm xB (by omega)) (by decide) (Nat.le_of_ble_eq_true rfl) ?_
      refine x_ifne_b (tgt := 28) dX7_waits_22 (by decide) (fun c_22 => ?_) (fun c_22 => ?_)
      · have hrf : refF P r (nI g) l = 0 := by rw [refF, if_pos hok, hgc, if_pos c_22]
        refine x_iconst (v := 0) dX7_waits_28 (by decide) ?_
        refine x_istore_n (lv' := [(3, _), (0, _), (1, _), (2, _)]) dX7_waits_29 rfl (by decide) rfl ?_
        refine x_post (fun v S2 hq => ?_) (lm_waits hm hX hI hg 31 0 S (by omega) hX frM_rfl)
        obtain ⟨q1, q2, q3⟩ := hq
        cases q1
        exact qR_of (by rw [o_waits, if_pos hrf, hgc]; rfl) rfl q2 q3
      · refine x_bipush (v := (-2)) dX7_waits_25 (by decide) ?_
        refine x_ireturn dX7_waits_27 rfl rfl ?_
        exact qR_of (by rw [o_waits, show refF P r (nI g) l = -2 from by rw [refF, if_pos hok, hgc, if_neg c_22], if_neg (by decide)]) rfl hX frM_rfl
    · refine x_iconst (v := (-1)) dX7_waits_15 (by decide) ?_
      refine x_ireturn dX7_waits_16 rfl rfl ?_
      first
      | exact qR_of (by rw [o_waits, show refF P r x l = -1 from by rw [refF, if_neg (by rw [Bool.and_eq_true]; exact fun z => c_5 z.1)], if_neg (by decide)]) rfl hX frM_rfl
      | exact qR_of (by rw [o_waits, show refF P r (nI g) l = -1 from by rw [refF, if_neg (by rw [Bool.and_eq_true]; exact fun z => c_12 (wn_iff.mp z.2))], if_neg (by decide)]) rfl hX frM_rfl

def finU (P : aP) : Nat → Nat → aR → aR
  | 0, _, q => q
  | k + 1, i, q => finU P k (i + 1) (tilU P 40 i q)
def bitU (P : aP) (r z : aR) : Nat → Nat → Int32 → Int32
  | 0, _, a => a
  | k + 1, i, a => bitU P r z k (i + 1) (if (r (3 + i) == 1 && rgt P z i i) = true then a ||| bt i else a)
theorem til_off {P : aP} {q : aR} {g : Nat} (hP : iP P) (h : iR P q) (hg : g < P.1) : ∀ k : Nat, (q (3 + g) = 1 → P.2.1.toInt - (q (21 + g)).toInt ≤ k) → tilU P k g q (3 + g) ≠ 1 := by
  intro k
  induction k generalizing q with
  | zero =>
    intro hk hw
    have h1 := hk hw
    have h2 := h.2.2.1 g hg hw
    omega
  | succ k ih =>
    intro hk
    rw [tilU]
    by_cases hw : q (3 + g) = 1
    · rw [if_pos hw]; exact ih (iR_mom hP h) (mom_near hP h hg hw (by have := hk hw; omega))
    · rw [if_neg hw]; exact hw
theorem mom_keep {P : aP} {q : aR} {g : Nat} (hP : iP P) (hg : g < P.1) (hw : q (3 + g) ≠ 1) : momF P q (3 + g) = q (3 + g) ∧ momF P q (30 + g) = q (30 + g) := by
  rw [momF_3 hP.2.1 hg, momF_30 hP.2.1 hg, if_neg hw, if_neg hw]; exact ⟨rfl, rfl⟩
theorem til_keep {P : aP} {g h : Nat} (hP : iP P) (hg : g < P.1) : ∀ (k : Nat) (q : aR), q (3 + g) ≠ 1 → tilU P k h q (3 + g) = q (3 + g) ∧ tilU P k h q (30 + g) = q (30 + g) := by
  intro k; induction k with
  | zero => intro q _; exact ⟨rfl, rfl⟩
  | succ k ih =>
    intro q hw
    rw [tilU]
    split
    · have h1 := mom_keep hP hg hw
      have h2 := ih (momF P q) (by rw [h1.1]; exact hw)
      exact ⟨h2.1.trans h1.1, h2.2.trans h1.2⟩
    · exact ⟨rfl, rfl⟩
theorem fin_keep {P : aP} {g : Nat} (hP : iP P) (hg : g < P.1) : ∀ (k i : Nat) (q : aR), q (3 + g) ≠ 1 → finU P k i q (30 + g) = q (30 + g) := by
  intro k; induction k with
  | zero => intro i q _; rfl
  | succ k ih => intro i q hw; rw [finU]; have h1 := til_keep (h := i) hP hg 40 q hw; rw [ih (i + 1) _ (by rw [h1.1]; exact hw), h1.2]
theorem har_bit {P : aP} {r z : aR} (hP : iP P) : ∀ (k i : Nat) (q : aR) (a : Int32), i + k = P.1 → iR P q → z = finU P k i q → harU P r k i q a = bitU P r z k i a := by
  intro k; induction k with
  | zero => intro i q a _ _ _; rfl
  | succ k ih =>
    intro i q a hi hq hz
    rw [harU, bitU]
    have hoff := til_off hP hq (show i < P.1 by omega) 40 (fun hw => by have := hq.2.2.1 i (by omega) hw; have := hP.2.2.1; omega)
    have hk : z (30 + i) = tilU P 40 i q (30 + i) := by rw [hz, finU]; exact fin_keep hP (by omega) k (i + 1) _ hoff
    have hr : rgt P z i i = rgt P (tilU P 40 i q) i i := by unfold rgt; rw [hk]
    rw [hr]
    exact ih (i + 1) _ _ (by omega) (iR_til hP 40 q hq) (by rw [hz, finU])

set_option maxHeartbeats 1000000 in
set_option maxRecDepth 20000 in
theorem lm_rightBy2 {B : sB} {S : sSt} {T : Nat × (Nat → Nat)} {P : aP} {r : aR} {acts kept : List aR} {f : aF} (hm : shM B) (hX : RM S (T, P, r, acts, kept, f)) (hI : iA (T, P, r, acts, kept, f)) {x : Int32} {z : aR} (hz : ag (S 114) z) :
    ∀ (k i : Nat) (c : Int32), i + k = P.1 → WS B (fun _ => True) yX7_rightBy cX7_rightBy 4 (some .int) 4 38 [(3, .int (nI i)), (2, .int c), (0, .ref (s_ad B 102)), (1, .int x)] [] S (fun v S1 => v = some (.int (bitU P r z k i c)) ∧ RM S1 (T, P, r, acts, kept, f) ∧ frM S S1) := by
  obtain ⟨hm0, h103, h104, h105, h106, h107, h108, h109, h110, h111, h112, h113, h114, h115, h116, h117, h118, h119, h120, h121, h122⟩ := id hm
  obtain ⟨xT, xP, xB, xA, xE, xF⟩ := id hX
  have xT : tM S T.2 T.1 := xT
  have xP : pM S P := xP
  have xB : ag (S 113) r := xB
  have xA : aM S acts := xA
  have xE : eM S kept := xE
  have xF : fM S f := xF
  have hn9 : P.1 ≤ 9 := xP.1
  have haN : isA B 113 := ⟨Or.inl rfl, h113⟩
  have haT : isA B 114 := ⟨Or.inr rfl, h114⟩
  obtain ⟨jP, jR, jA, jE, jF⟩ := id hI
  have jP : iP P := jP
  have jR : iR P r := jR
  have jF : iF f := jF
  have hn1 : 1 ≤ P.1 := jP.1
  have hn := xP.2.1
  intro k
  induction k with
  | zero =>
    intro i c hi
    refine x_iload_n dX7_rightBy_38 rfl rfl ?_
    refine x_aload_n dX7_rightBy_39 rfl rfl ?_
    refine gX7_13 dX7_rightBy_40 rfl (by assumption) rfl ?_
    refine x_iconst (v := 0) dX7_rightBy_43 (by decide) ?_
    refine x_ialdN (j := 0) (by assumption) dX7_rightBy_44 (by decide) (by decide) ?_
    refine x_icmp_ge (tgt := 89) dX7_rightBy_45 (by decide) (fun c_45 => ?_) (fun c_45 => ?_)
    · refine x_iload_n dX7_rightBy_89 rfl rfl ?_
      refine x_ireturn dX7_rightBy_90 rfl rfl ?_
      exact ⟨rfl, hX, frM_rfl⟩
    · exact absurd (by rw [hn, ← hi]; exact nI_le (by omega) (by omega)) c_45
  | succ k ih =>
    intro i c hi
    have hr3 := xB (3 + i) (by omega)
    refine x_iload_n dX7_rightBy_38 rfl rfl ?_
    refine x_aload_n dX7_rightBy_39 rfl rfl ?_
    refine gX7_13 dX7_rightBy_40 rfl (by assumption) rfl ?_
    refine x_iconst (v := 0) dX7_rightBy_43 (by decide) ?_
    refine x_ialdN (j := 0) (by assumption) dX7_rightBy_44 (by decide) (by decide) ?_
    refine x_icmp_ge (tgt := 89) dX7_rightBy_45 (by decide) (fun c_45 => ?_) (fun c_45 => ?_)
    · exact absurd c_45 (by rw [hn]; exact nI_ge (by omega) (by omega))
    · refine x_iload_n dX7_rightBy_48 rfl rfl ?_
      refine x_aload_n dX7_rightBy_49 rfl rfl ?_
      refine gX7_41 dX7_rightBy_50 rfl (by assumption) rfl ?_
      refine x_iconst (v := 3) dX7_rightBy_53 (by decide) ?_
      refine x_iload_n dX7_rightBy_54 rfl rfl ?_
      refine x_iadd dX7_rightBy_55 ?_
      first | refine x_re (nI_add 3 _) ?_ | skip
      first | refine x_ialdN (by assumption) dX7_rightBy_56 (by omega) (by decide) ?_ | refine x_iald (by assumption) dX7_rightBy_56 (by assumption) ?_
      refine x_iconst (v := 1) dX7_rightBy_57 (by decide) ?_
      refine x_icmp_ne (tgt := 80) dX7_rightBy_58 (by decide) (fun c_58 => ?_) (fun c_58 => ?_)
      · refine x_iconst (v := 0) dX7_rightBy_80 (by decide) ?_
        refine x_ior dX7_rightBy_81 ?_
        first | refine x_re (b := c) (Int32.or_zero) ?_ | skip
        refine x_istore_n (lv' := [(2, _), (3, _), (0, _), (1, _)]) dX7_rightBy_82 rfl (by decide) rfl ?_
        first | refine x_inc1N (lv' := [(3, _), (2, _), (0, _), (1, _)]) dX7_rightBy_83 rfl (by decide) rfl ?_ | refine x_iinc (v := _ + 1) (lv' := [(3, _), (2, _), (0, _), (1, _)]) dX7_rightBy_83 rfl rfl (by decide) rfl ?_
        refine x_goto (tgt := 38) dX7_rightBy_86 (by decide) ?_
        refine x_wk [0, 1, 2, 3] rfl ?_
        rw [bitU]
        first
        | (rw [if_neg (by rw [Bool.and_eq_true, beq_iff_eq, ← hr3]; exact fun z => c_58 z.1)]; exact ih (i + 1) c (by omega))
        | (rw [if_neg (by rw [Bool.and_eq_true, beq_iff_eq, ← hr3]; exact fun z => c_71 z.2)]; exact ih (i + 1) c (by omega))
        | (rw [if_pos (by rw [Bool.and_eq_true, beq_iff_eq, ← hr3]; exact ⟨c_58, c_71⟩)]; exact ih (i + 1) _ (by omega))
      · refine x_aload_n dX7_rightBy_61 rfl rfl ?_
        refine x_aload_n dX7_rightBy_62 rfl rfl ?_
        refine gX7_44 dX7_rightBy_63 rfl (by assumption) rfl ?_
        refine x_iload_n dX7_rightBy_66 rfl rfl ?_
        refine x_iload_n dX7_rightBy_67 rfl rfl ?_
        refine kX7_136 dX7_rightBy_68 rfl (by assumption) (c_isRightFor hm haT xP hz (by omega) (by omega)) (by decide) (Nat.le_of_ble_eq_true rfl) ?_
        refine x_ifeq_b (tgt := 80) dX7_rightBy_71 (by decide) (fun c_71 => ?_) (fun c_71 => ?_)
        · refine x_iconst (v := 0) dX7_rightBy_80 (by decide) ?_
          refine x_ior dX7_rightBy_81 ?_
          first | refine x_re (b := c) (Int32.or_zero) ?_ | skip
          refine x_istore_n (lv' := [(2, _), (3, _), (0, _), (1, _)]) dX7_rightBy_82 rfl (by decide) rfl ?_
          first | refine x_inc1N (lv' := [(3, _), (2, _), (0, _), (1, _)]) dX7_rightBy_83 rfl (by decide) rfl ?_ | refine x_iinc (v := _ + 1) (lv' := [(3, _), (2, _), (0, _), (1, _)]) dX7_rightBy_83 rfl rfl (by decide) rfl ?_
          refine x_goto (tgt := 38) dX7_rightBy_86 (by decide) ?_
          refine x_wk [0, 1, 2, 3] rfl ?_
          rw [bitU]
          first
          | (rw [if_neg (by rw [Bool.and_eq_true, beq_iff_eq, ← hr3]; exact fun z => c_58 z.1)]; exact ih (i + 1) c (by omega))
          | (rw [if_neg (by rw [Bool.and_eq_true, beq_iff_eq, ← hr3]; exact fun z => c_71 z.2)]; exact ih (i + 1) c (by omega))
          | (rw [if_pos (by rw [Bool.and_eq_true, beq_iff_eq, ← hr3]; exact ⟨c_58, c_71⟩)]; exact ih (i + 1) _ (by omega))
        · refine x_iconst (v := 1) dX7_rightBy_74 (by decide) ?_
          refine x_iload_n dX7_rightBy_75 rfl rfl ?_
          refine x_ishl dX7_rightBy_76 ?_
          refine x_re (b := bt i) rfl ?_
          refine x_goto (tgt := 81) dX7_rightBy_77 (by decide) ?_
          refine x_ior dX7_rightBy_81 ?_
          first | refine x_re (b := c) (Int32.or_zero) ?_ | skip
          refine x_istore_n (lv' := [(2, _), (3, _), (0, _), (1, _)]) dX7_rightBy_82 rfl (by decide) rfl ?_
          first | refine x_inc1N (lv' := [(3, _), (2, _), (0, _), (1, _)]) dX7_rightBy_83 rfl (by decide) rfl ?_ | refine x_iinc (v := _ + 1) (lv' := [(3, _), (2, _), (0, _), (1, _)]) dX7_rightBy_83 rfl rfl (by decide) rfl ?_
          refine x_goto (tgt := 38) dX7_rightBy_86 (by decide) ?_
          refine x_wk [0, 1, 2, 3] rfl ?_
          rw [bitU]
          first
          | (rw [if_neg (by rw [Bool.and_eq_true, beq_iff_eq, ← hr3]; exact fun z => c_58 z.1)]; exact ih (i + 1) c (by omega))
          | (rw [if_neg (by rw [Bool.and_eq_true, beq_iff_eq, ← hr3]; exact fun z => c_71 z.2)]; exact ih (i + 1) c (by omega))
          | (rw [if_pos (by rw [Bool.and_eq_true, beq_iff_eq, ← hr3]; exact ⟨c_58, c_71⟩)]; exact ih (i + 1) _ (by omega))

set_option maxHeartbeats 1000000 in
set_option maxRecDepth 20000 in
theorem lm_rightBy1 {B : sB} {S : sSt} {T : Nat × (Nat → Nat)} {P : aP} {r : aR} {acts kept : List aR} {f : aF} (hm : shM B) (hX : RM S (T, P, r, acts, kept, f)) (hI : iA (T, P, r, acts, kept, f)) {x c : Int32} {Q : Option Value → sSt → Prop} (hex : ∀ S1 q, RM S1 (T, P, r, acts, kept, f) → ag (S1 114) q → frM S S1 → q = finU P P.1 0 (upd r 0 x) → WS B (fun _ => True) yX7_rightBy cX7_rightBy 4 (some .int) 4 36 [(3, .int (nI P.1)), (2, .int c), (0, .ref (s_ad B 102)), (1, .int x)] [] S1 Q) :
    ∀ (k i : Nat) (S0 : sSt) (q : aR), i + k = P.1 → RM S0 (T, P, r, acts, kept, f) → ag (S0 114) q → iR P q → finU P k i q = finU P P.1 0 (upd r 0 x) → frM S S0 → WS B (fun _ => True) yX7_rightBy cX7_rightBy 4 (some .int) 4 15 [(3, .int (nI i)), (2, .int c), (0, .ref (s_ad B 102)), (1, .int x)] [] S0 Q := by
  obtain ⟨hm0, h103, h104, h105, h106, h107, h108, h109, h110, h111, h112, h113, h114, h115, h116, h117, h118, h119, h120, h121, h122⟩ := id hm
  have haN : isA B 113 := ⟨Or.inl rfl, h113⟩
  have haT : isA B 114 := ⟨Or.inr rfl, h114⟩
  obtain ⟨jP, jR, jA, jE, jF⟩ := id hI
  have jP : iP P := jP
  have jR : iR P r := jR
  have jF : iF f := jF
  have hn1 : 1 ≤ P.1 := jP.1
  have hn9 : P.1 ≤ 9 := jP.2.1
  intro k
  induction k with
  | zero =>
    intro i S0 q hi hX0 hq0 jq hfin hf0
    refine x_iload_n dX7_rightBy_15 rfl rfl ?_
    refine x_aload_n dX7_rightBy_16 rfl rfl ?_
    refine gX7_13 dX7_rightBy_17 rfl (by assumption) rfl ?_
    refine x_iconst (v := 0) dX7_rightBy_20 (by decide) ?_
    refine x_ialdN (j := 0) (by assumption) dX7_rightBy_21 (by decide) (by decide) ?_
    refine x_icmp_ge (tgt := 36) dX7_rightBy_22 (by decide) (fun c_22 => ?_) (fun c_22 => ?_)
    · rw [show i = P.1 by omega]
      exact hex S0 q hX0 hq0 hf0 hfin
    · exact absurd (by rw [show S0 104 0 = nI P.1 from hX0.2.1.2.1]; exact nI_le (by omega) (by omega)) c_22
  | succ k ih =>
    intro i S0 q hi hX0 hq0 jq hfin hf0
    refine x_iload_n dX7_rightBy_15 rfl rfl ?_
    refine x_aload_n dX7_rightBy_16 rfl rfl ?_
    refine gX7_13 dX7_rightBy_17 rfl (by assumption) rfl ?_
    refine x_iconst (v := 0) dX7_rightBy_20 (by decide) ?_
    refine x_ialdN (j := 0) (by assumption) dX7_rightBy_21 (by decide) (by decide) ?_
    refine x_icmp_ge (tgt := 36) dX7_rightBy_22 (by decide) (fun c_22 => ?_) (fun c_22 => ?_)
    · exact absurd c_22 (by rw [show S0 104 0 = nI P.1 from hX0.2.1.2.1]; exact nI_ge (by omega) (by omega))
    · refine x_aload_n dX7_rightBy_25 rfl rfl ?_
      refine x_iload_n dX7_rightBy_26 rfl rfl ?_
      refine kX7_169r dX7_rightBy_27 rfl (by assumption) (cm_goOn hm jP hX0.2.1 hq0 jq (by omega)) (by decide) (Nat.le_of_ble_eq_true rfl) (fun S2 hq => ?_)
      obtain ⟨-, h2⟩ := hq
      obtain ⟨hX2, hf2⟩ := RM_try hX0 h2
      first | refine x_inc1N (lv' := [(3, _), (2, _), (0, _), (1, _)]) dX7_rightBy_30 rfl (by decide) rfl ?_ | refine x_iinc (v := _ + 1) (lv' := [(3, _), (2, _), (0, _), (1, _)]) dX7_rightBy_30 rfl rfl (by decide) rfl ?_
      refine x_goto (tgt := 15) dX7_rightBy_33 (by decide) ?_
      exact ih (i + 1) S2 _ (by omega) hX2 h2.1 (iR_til jP 40 _ jq) hfin (frM_trans hf0 hf2)

set_option maxHeartbeats 1000000 in
set_option maxRecDepth 20000 in
theorem c_rightBy {B : sB} {S : sSt} {T : Nat × (Nat → Nat)} {P : aP} {r : aR} {acts kept : List aR} {f : aF} (hm : shM B) (hX : RM S (T, P, r, acts, kept, f)) (hI : iA (T, P, r, acts, kept, f)) {x : Int32} (hx1 : 1 ≤ x.toInt ∧ x.toInt ≤ 9) : CS B yX7_rightBy cX7_rightBy 4 (some .int) 4 [.ref (s_ad B 102), .int x] S (fun v S1 => v = some (.int (harF P r x)) ∧ RM S1 (T, P, r, acts, kept, f) ∧ frM S S1) := by
  refine cs_intro (lv := [(0, .ref (s_ad B 102)), (1, .int x)]) rfl ?_
  obtain ⟨hm0, h103, h104, h105, h106, h107, h108, h109, h110, h111, h112, h113, h114, h115, h116, h117, h118, h119, h120, h121, h122⟩ := id hm
  obtain ⟨xT, xP, xB, xA, xE, xF⟩ := id hX
  have xT : tM S T.2 T.1 := xT
  have xP : pM S P := xP
  have xB : ag (S 113) r := xB
  have xA : aM S acts := xA
  have xE : eM S kept := xE
  have xF : fM S f := xF
  have hn9 : P.1 ≤ 9 := xP.1
  have haN : isA B 113 := ⟨Or.inl rfl, h113⟩
  have haT : isA B 114 := ⟨Or.inr rfl, h114⟩
  obtain ⟨jP, jR, jA, jE, jF⟩ := id hI
  have jP : iP P := jP
  have jR : iR P r := jR
  have jF : iF f := jF
  have hn1 : 1 ≤ P.1 := jP.1
  refine x_iconst (v := 0) dX7_rightBy_0 (by decide) ?_
  refine x_istore_n (lv' := [(2, _), (0, _), (1, _)]) dX7_rightBy_1 rfl (by decide) rfl ?_
  refine x_aload_n dX7_rightBy_2 rfl rfl ?_
  refine kX7_166r dX7_rightBy_3 rfl (by assumption) (c_takeNow hm xB) (by decide) (Nat.le_of_ble_eq_true rfl) (fun S1 hq => ?_)
  obtain ⟨-, h1⟩ := hq
  obtain ⟨hX1, hf1⟩ := RM_try hX h1
  have xP1 : pM S1 P := hX1.2.1
  refine x_aload_n dX7_rightBy_6 rfl rfl ?_
  refine gX7_44 dX7_rightBy_7 rfl (by assumption) rfl ?_
  refine x_iconst (v := 0) dX7_rightBy_10 (by decide) ?_
  refine x_iload_n dX7_rightBy_11 rfl rfl ?_
  refine x_iastN (j := 0) (by assumption) dX7_rightBy_12 (by decide) (by decide) ?_
  refine x_gen (Pz := fun S' => chM S S' 114 _) (chM_put h1) (fun S2 h2 => ?_)
  obtain ⟨hX2, hf2⟩ := RM_try hX h2
  refine x_iconst (v := 0) dX7_rightBy_13 (by decide) ?_
  refine x_istore_n (lv' := [(3, _), (2, _), (0, _), (1, _)]) dX7_rightBy_14 rfl (by decide) rfl ?_
  refine lm_rightBy1 hm hX2 hI (fun S3 q hX3 hq3 hf3 hfin => ?_) P.1 0 S2 _ (by omega) hX2 h2.1 (iR_knob hx1 jR) rfl frM_rfl
  refine x_iconst (v := 0) dX7_rightBy_36 (by decide) ?_
  refine x_istore_n (lv' := [(3, _), (2, _), (0, _), (1, _)]) dX7_rightBy_37 rfl (by decide) rfl ?_
  refine x_post (fun v S4 hq => ?_) (lm_rightBy2 hm hX3 hI hq3 P.1 0 0 (by omega))
  obtain ⟨q1, q2, q3⟩ := hq
  refine ⟨?_, q2, frM_trans hf2 (frM_trans hf3 q3)⟩
  rw [q1, harF, har_bit jP P.1 0 (upd r 0 x) 0 (by omega) (iR_knob hx1 jR) hfin]

set_option maxHeartbeats 1000000 in
set_option maxRecDepth 20000 in
theorem cM_harm {B : sB} {S : sSt} {T : Nat × (Nat → Nat)} {P : aP} {r : aR} {acts kept : List aR} {f : aF} (hm : shM B) (hX : RM S (T, P, r, acts, kept, f)) (hI : iA (T, P, r, acts, kept, f)) {x : Int32} : CS B yX7_harm cX7_harm 2 (some .int) 5 [.ref (s_ad B 102), .int x] S (qR S (o_harm (T, P, r, acts, kept, f) x)) := by
  refine cs_intro (lv := [(0, .ref (s_ad B 102)), (1, .int x)]) rfl ?_
  obtain ⟨hm0, h103, h104, h105, h106, h107, h108, h109, h110, h111, h112, h113, h114, h115, h116, h117, h118, h119, h120, h121, h122⟩ := id hm
  obtain ⟨xT, xP, xB, xA, xE, xF⟩ := id hX
  have xT : tM S T.2 T.1 := xT
  have xP : pM S P := xP
  have xB : ag (S 113) r := xB
  have xA : aM S acts := xA
  have xE : eM S kept := xE
  have xF : fM S f := xF
  have hn9 : P.1 ≤ 9 := xP.1
  have haN : isA B 113 := ⟨Or.inl rfl, h113⟩
  have haT : isA B 114 := ⟨Or.inr rfl, h114⟩
  obtain ⟨jP, jR, jA, jE, jF⟩ := id hI
  have jP : iP P := jP
  have jR : iR P r := jR
  have jF : iF f := jF
  have hn1 : 1 ≤ P.1 := jP.1
  refine x_iload_n dX7_harm_0 rfl rfl ?_
  refine x_iconst (v := 1) dX7_harm_1 (by decide) ?_
  refine x_bipush (v := 9) dX7_harm_2 (by decide) ?_
  refine kX7_78 dX7_harm_4 rfl (c_in) (by decide) (Nat.le_of_ble_eq_true rfl) ?_
  refine x_ifeq_b (tgt := 31) dX7_harm_7 (by decide) (fun c_7 => ?_) (fun c_7 => ?_)
  · refine x_iconst (v := (-1)) dX7_harm_31 (by decide) ?_
    refine x_ireturn dX7_harm_32 rfl rfl ?_
    first
    | exact qR_of (by rw [o_harm, if_neg (fun h => c_7 (wn_iff.mp h))]) rfl hX frM_rfl
    | exact qR_of (by rw [o_harm, if_pos (wn_iff.mpr c_7)]) rfl hX2 (frM_trans hf1 hf2)
  · have hx1 : 1 ≤ x.toInt ∧ x.toInt ≤ 9 := by
      obtain ⟨z1, z2⟩ := c_7
      rw [Int32.le_iff_toInt_le] at z1 z2
      exact ⟨z1, z2⟩
    refine x_aload_n dX7_harm_10 rfl rfl ?_
    refine x_aload_n dX7_harm_11 rfl rfl ?_
    refine gX7_41 dX7_harm_12 rfl (by assumption) rfl ?_
    refine x_iconst (v := 0) dX7_harm_15 (by decide) ?_
    refine x_ialdN (j := 0) (by assumption) dX7_harm_16 (by decide) (by decide) ?_
    rw [xB 0 (by omega)]
    refine kX7_179r dX7_harm_17 rfl (by assumption) (c_rightBy hm hX hI jR.1) (by decide) (Nat.le_of_ble_eq_true rfl) (fun z S1 hq => ?_)
    obtain ⟨q1, hX1, hf1⟩ := hq
    cases q1
    refine x_aload_n dX7_harm_20 rfl rfl ?_
    refine x_iload_n dX7_harm_21 rfl rfl ?_
    refine kX7_179r dX7_harm_22 rfl (by assumption) (c_rightBy hm hX1 hI hx1) (by decide) (Nat.le_of_ble_eq_true rfl) (fun z S2 hq => ?_)
    obtain ⟨q1, hX2, hf2⟩ := hq
    cases q1
    refine x_iconst (v := (-1)) dX7_harm_25 (by decide) ?_
    refine x_ixor dX7_harm_26 ?_
    refine x_iand dX7_harm_27 ?_
    refine x_goto (tgt := 32) dX7_harm_28 (by decide) ?_
    refine x_ireturn dX7_harm_32 rfl rfl ?_
    first
    | exact qR_of (by rw [o_harm, if_neg (fun h => c_7 (wn_iff.mp h))]) rfl hX frM_rfl
    | exact qR_of (by rw [o_harm, if_pos (wn_iff.mpr c_7)]) rfl hX2 (frM_trans hf1 hf2)
