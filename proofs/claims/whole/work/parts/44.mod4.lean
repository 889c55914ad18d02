set_option maxHeartbeats 1000000 in
set_option maxRecDepth 20000 in
theorem cm_isGuest {B : sB} {S : sSt} {T : Nat × (Nat → Nat)} {P : aP} {r : aR} {acts kept : List aR} {f : aF} (hm : shM B) (hX : RM S (T, P, r, acts, kept, f)) (hn1 : 1 ≤ P.1) {x : Int32} : CS B yX7_isGuest cX7_isGuest 2 (some .boolean) 2 [.ref (s_ad B 102), .int x] S (qI (bI (gok P x = true)) S) := by
  refine cs_intro (lv := [(0, .ref (s_ad B 102)), (1, .int x)]) rfl ?_
  obtain ⟨hm0, h103, h104, h105, h106, h107, h108, h109, h110, h111, h112, h113, h114, h115, h116, h117, h118, h119, h120, h121, h122⟩ := id hm
  obtain ⟨xT, xP, xB, xA, xE, xF⟩ := id hX
  have xT : tM S T.2 T.1 := xT
  have xP : pM S P := xP
  have xB : ag (S 113) r := xB
  have xA : aM S acts := xA
  have xE : eM S kept := xE
  have xF : fM S f := xF
  have hn9 : P.1 ≤ 9 := xP.1
  have haN : isA B 113 := ⟨Or.inl rfl, h113⟩
  have haT : isA B 114 := ⟨Or.inr rfl, h114⟩
  refine x_iload_n dX7_isGuest_0 rfl rfl ?_
  refine x_iconst (v := 0) dX7_isGuest_1 (by decide) ?_
  refine x_aload_n dX7_isGuest_2 rfl rfl ?_
  refine gX7_13 dX7_isGuest_3 rfl (by assumption) rfl ?_
  refine x_iconst (v := 0) dX7_isGuest_6 (by decide) ?_
  refine x_ialdN (j := 0) (by assumption) dX7_isGuest_7 (by decide) (by decide) ?_
  refine x_iconst (v := 1) dX7_isGuest_8 (by decide) ?_
  refine x_isub dX7_isGuest_9 ?_
  refine x_re (b := nI (P.1 - 1)) (by rw [show S 104 0 = nI (P.1 - 1 + 1) from by rw [show P.1 - 1 + 1 = P.1 by omega]; exact xP.2.1]; exact nI_pred _) ?_
  refine kX7_78 dX7_isGuest_10 rfl (c_in) (by decide) (Nat.le_of_ble_eq_true rfl) ?_
  refine x_ireturn dX7_isGuest_13 rfl (by first | rfl | exact bI_nar _) ?_
  refine qI_of (bI_congr ?_) rfl
  have e0 : (0 : Int32).toInt = 0 := by decide
  rw [gok, Bool.and_eq_true, decide_eq_true_eq, decide_eq_true_eq, Int32.le_iff_toInt_le, Int32.le_iff_toInt_le, nI_toInt (by omega), e0]
  omega

set_option maxHeartbeats 1000000 in
set_option maxRecDepth 20000 in
theorem c_isLoose {B : sB} {S : sSt} {r : aR} {g : Nat} (hm : shM B) (xB : ag (S 113) r) (hg : g < 9) : CS B yX7_isLoose cX7_isLoose 2 (some .boolean) 1 [.ref (s_ad B 102), .int (nI g)] S (qI (bI (loose r g = true)) S) := by
  refine cs_intro (lv := [(0, .ref (s_ad B 102)), (1, .int (nI g))]) rfl ?_
  obtain ⟨hm0, h103, h104, h105, h106, h107, h108, h109, h110, h111, h112, h113, h114, h115, h116, h117, h118, h119, h120, h121, h122⟩ := id hm
  have hr := xB (3 + g) (by omega)
  refine x_aload_n dX7_isLoose_0 rfl rfl ?_
  refine gX7_41 dX7_isLoose_1 rfl (by assumption) rfl ?_
  refine x_iconst (v := 3) dX7_isLoose_4 (by decide) ?_
  refine x_iload_n dX7_isLoose_5 rfl rfl ?_
  refine x_iadd dX7_isLoose_6 ?_
  first | refine x_re (nI_add 3 _) ?_ | skip
  first | refine x_ialdN (by assumption) dX7_isLoose_7 (by omega) (by decide) ?_ | refine x_iald (by assumption) dX7_isLoose_7 (by assumption) ?_
  refine x_if_eq (tgt := 23) dX7_isLoose_8 (by decide) (fun c_8 => ?_) (fun c_8 => ?_)
  · refine x_iconst (v := 1) dX7_isLoose_23 (by decide) ?_
    refine x_goto (tgt := 28) dX7_isLoose_24 (by decide) ?_
    refine x_ireturn dX7_isLoose_28 rfl (by first | rfl | exact bI_nar _) ?_
    first
    | exact qI_of (bI_t (by rw [loose, Bool.or_eq_true, beq_iff_eq, beq_iff_eq, ← hr]; exact Or.inl c_8)) rfl
    | exact qI_of (bI_t (by rw [loose, Bool.or_eq_true, beq_iff_eq, beq_iff_eq, ← hr]; exact Or.inr c_20)) rfl
    | exact qI_of (bI_f (by rw [loose, Bool.or_eq_true, beq_iff_eq, beq_iff_eq, ← hr]; exact fun z => z.elim c_8 c_20)) rfl
  · refine x_aload_n dX7_isLoose_11 rfl rfl ?_
    refine gX7_41 dX7_isLoose_12 rfl (by assumption) rfl ?_
    refine x_iconst (v := 3) dX7_isLoose_15 (by decide) ?_
    refine x_iload_n dX7_isLoose_16 rfl rfl ?_
    refine x_iadd dX7_isLoose_17 ?_
    first | refine x_re (nI_add 3 _) ?_ | skip
    first | refine x_ialdN (by assumption) dX7_isLoose_18 (by omega) (by decide) ?_ | refine x_iald (by assumption) dX7_isLoose_18 (by assumption) ?_
    refine x_iconst (v := 2) dX7_isLoose_19 (by decide) ?_
    refine x_icmp_ne (tgt := 27) dX7_isLoose_20 (by decide) (fun c_20 => ?_) (fun c_20 => ?_)
    · refine x_iconst (v := 0) dX7_isLoose_27 (by decide) ?_
      refine x_ireturn dX7_isLoose_28 rfl (by first | rfl | exact bI_nar _) ?_
      first
      | exact qI_of (bI_t (by rw [loose, Bool.or_eq_true, beq_iff_eq, beq_iff_eq, ← hr]; exact Or.inl c_8)) rfl
      | exact qI_of (bI_t (by rw [loose, Bool.or_eq_true, beq_iff_eq, beq_iff_eq, ← hr]; exact Or.inr c_20)) rfl
      | exact qI_of (bI_f (by rw [loose, Bool.or_eq_true, beq_iff_eq, beq_iff_eq, ← hr]; exact fun z => z.elim c_8 c_20)) rfl
    · refine x_iconst (v := 1) dX7_isLoose_23 (by decide) ?_
      refine x_goto (tgt := 28) dX7_isLoose_24 (by decide) ?_
      refine x_ireturn dX7_isLoose_28 rfl (by first | rfl | exact bI_nar _) ?_
      first
      | exact qI_of (bI_t (by rw [loose, Bool.or_eq_true, beq_iff_eq, beq_iff_eq, ← hr]; exact Or.inl c_8)) rfl
      | exact qI_of (bI_t (by rw [loose, Bool.or_eq_true, beq_iff_eq, beq_iff_eq, ← hr]; exact Or.inr c_20)) rfl
      | exact qI_of (bI_f (by rw [loose, Bool.or_eq_true, beq_iff_eq, beq_iff_eq, ← hr]; exact fun z => z.elim c_8 c_20)) rfl

theorem i2b_of {x : Int32} (h : wn x 32 126 = true) : x.toNatClampNeg ≤ 126 ∧ vp_nar .byte x.toInt8.toInt32 = nI x.toNatClampNeg := by
  rw [wn_iff] at h
  obtain ⟨h1, h2⟩ := h
  rw [Int32.le_iff_toInt_le] at h1 h2
  have e1 : (32 : Int32).toInt = 32 := by decide
  have e2 : (126 : Int32).toInt = 126 := by decide
  obtain ⟨j, hj, rfl⟩ := nI_of3 (x := x) (n := 126) (by omega) (by omega) (by decide)
  rw [nI_clamp (by omega), pk_vb]
  have key : ∀ j : Nat, j ≤ 126 → (nI j).toInt8.toInt32 = nI j := by decide
  exact ⟨hj, key j hj⟩

set_option maxHeartbeats 1000000 in
set_option maxRecDepth 20000 in
theorem cM_write {B : sB} {S : sSt} {L : Nat} {t : Nat → Nat} {P : aP} {r : aR} {acts kept : List aR} {f : aF} (hm : shM B) (hX : RM S ((L, t), P, r, acts, kept, f)) {x : Int32} : CS B yX7_write cX7_write 2 (some .int) 2 [.ref (s_ad B 102), .int x] S (qR S (o_write ((L, t), P, r, acts, kept, f) x)) := by
  refine cs_intro (lv := [(0, .ref (s_ad B 102)), (1, .int x)]) rfl ?_
  obtain ⟨hm0, h103, h104, h105, h106, h107, h108, h109, h110, h111, h112, h113, h114, h115, h116, h117, h118, h119, h120, h121, h122⟩ := id hm
  obtain ⟨xT, xP, xB, xA, xE, xF⟩ := id hX
  have xT : tM S t L := xT
  have xP : pM S P := xP
  have xB : ag (S 113) r := xB
  have xA : aM S acts := xA
  have xE : eM S kept := xE
  have xF : fM S f := xF
  have hn9 : P.1 ≤ 9 := xP.1
  have haN : isA B 113 := ⟨Or.inl rfl, h113⟩
  have haT : isA B 114 := ⟨Or.inr rfl, h114⟩
  refine x_iload_n dX7_write_0 rfl rfl ?_
  refine x_bipush (v := 32) dX7_write_1 (by decide) ?_
  refine x_bipush (v := 126) dX7_write_3 (by decide) ?_
  refine kX7_78 dX7_write_5 rfl (c_in) (by decide) (Nat.le_of_ble_eq_true rfl) ?_
  refine x_ifne_b (tgt := 13) dX7_write_8 (by decide) (fun c_8 => ?_) (fun c_8 => ?_)
  · have hw : wn x 32 126 = true := wn_iff.mpr c_8
    obtain ⟨hc1, hc2⟩ := i2b_of hw
    refine x_aload_n dX7_write_13 rfl rfl ?_
    refine gX7_82 dX7_write_14 rfl (by assumption) rfl ?_
    rw [xT.2.1]
    refine x_sipush (v := 200) dX7_write_17 (by decide) ?_
    refine x_icmp_ne (tgt := 26) dX7_write_20 (by decide) (fun c_20 => ?_) (fun c_20 => ?_)
    · have hL : L < 200 := by
        rcases Nat.lt_or_ge L 200 with h | h
        · exact h
        · exact absurd (show nI L = 200 by rw [show L = 200 by have := xT.1; omega]; rfl) c_20
      refine x_aload_n dX7_write_26 rfl rfl ?_
      refine gX7_7 dX7_write_27 rfl (by assumption) rfl ?_
      refine x_aload_n dX7_write_30 rfl rfl ?_
      refine gX7_82 dX7_write_31 rfl (by assumption) rfl ?_
      rw [xT.2.1]
      refine x_iload_n dX7_write_34 rfl rfl ?_
      refine x_i2b dX7_write_35 ?_
      refine x_bastN (by assumption) dX7_write_36 hL (by decide) ?_
      rw [hc2]
      refine x_gen (Pz := fun S' => S' 103 L = nI x.toNatClampNeg ∧ (∀ j, j ≠ L → S' 103 j = S 103 j) ∧ ∀ b, b ≠ 103 → S' b = S b) ⟨by rw [s_put_eq, if_pos rfl], fun j hj => by rw [s_put_eq, if_neg hj], fun b hb => s_put_ne hb⟩ (fun S1 H1 => ?_)
      obtain ⟨u1, u2, u3⟩ := H1
      have u4 : S1 102 1 = nI L := by rw [u3 102 (by omega)]; exact xT.2.1
      refine x_aload_n dX7_write_37 rfl rfl ?_
      refine x_dup dX7_write_38 rfl ?_
      refine gX7_82 dX7_write_39 rfl (by assumption) rfl ?_
      rw [u4]
      refine x_iconst (v := 1) dX7_write_42 (by decide) ?_
      refine x_iadd dX7_write_43 ?_
      first | refine x_re (nI_add _ _) ?_ | skip
      refine pX7_82 dX7_write_44 rfl (by assumption) rfl ?_
      refine x_aload_n dX7_write_47 rfl rfl ?_
      refine gX7_82 dX7_write_48 rfl (by assumption) rfl ?_
      refine x_ireturn dX7_write_51 rfl rfl ?_
      have q3 : ∀ b, b ≠ 102 → b ≠ 103 → s_put S1 102 1 (nI (L + 1)) b = S b := fun b h1 h2 => by rw [s_put_ne h1, u3 b h2]
      have q4 : ∀ j, j ≠ 1 → s_put S1 102 1 (nI (L + 1)) 102 j = S 102 j := fun j hj => by rw [s_put_eq, if_neg hj, u3 102 (by omega)]
      refine qR_of (A' := ((L + 1, updN t L x.toNatClampNeg), P, r, acts, kept, f)) (by rw [o_write, if_pos hw, if_pos hL]) (by rw [s_put_eq, if_pos rfl]) ⟨⟨hL, by rw [s_put_eq, if_pos rfl], fun i hi => ?_⟩, pM_ag (fun b h1 h2 => q3 b (by omega) (by omega)) xP, by show ag (s_put S1 102 1 (nI (L + 1)) 113) r; rw [q3 113 (by omega) (by omega)]; exact xB, aM_ag (q4 16 (by decide)) (q3 115 (by omega) (by omega)) xA, eM_ag (q4 18 (by decide)) (q3 116 (by omega) (by omega)) xE, fM_ag (q4 25 (by decide)) (fun a h1 h2 => q3 a (by omega) (by omega)) xF⟩ (fun a ha => q3 a (by omega) (by omega))
      have hi : i < L + 1 := hi
      rw [s_put_ne (by omega)]
      show S1 103 i = nI (updN t L x.toNatClampNeg i) ∧ updN t L x.toNatClampNeg i ≤ 126
      unfold updN
      by_cases hiL : i = L
      · rw [if_pos hiL, hiL]; exact ⟨u1, hc1⟩
      · rw [if_neg hiL, u2 i hiL]; exact xT.2.2 i (by omega)
    · have hL : ¬ L < 200 := by
        have := (nI_eq (b := 200) (by have := xT.1; omega) (by decide)).mp c_20
        omega
      refine x_bipush (v := (-3)) dX7_write_23 (by decide) ?_
      refine x_ireturn dX7_write_25 rfl rfl ?_
      exact qR_of (by rw [o_write, if_pos hw, if_neg hL]) rfl hX frM_rfl
  · have hw : ¬ wn x 32 126 = true := fun h => c_8 (wn_iff.mp h)
    refine x_iconst (v := (-1)) dX7_write_11 (by decide) ?_
    refine x_ireturn dX7_write_12 rfl rfl ?_
    exact qR_of (by rw [o_write, if_neg hw]) rfl hX frM_rfl

theorem RM_obj {S : sSt} {j : Nat} {v : Int32} (k : Nat) (h : k ≠ j) : s_put S 102 j v 102 k = S 102 k := by rw [s_put_eq, if_neg h]

set_option maxHeartbeats 1000000 in
set_option maxRecDepth 20000 in
theorem cM_wipe {B : sB} {S : sSt} {L : Nat} {t : Nat → Nat} {P : aP} {r : aR} {acts kept : List aR} {f : aF} (hm : shM B) (hX : RM S ((L, t), P, r, acts, kept, f)) : CS B yX7_wipe cX7_wipe 2 (some .int) 1 [.ref (s_ad B 102)] S (qR S (o_wipe ((L, t), P, r, acts, kept, f))) := by
  refine cs_intro (lv := [(0, .ref (s_ad B 102))]) rfl ?_
  obtain ⟨hm0, h103, h104, h105, h106, h107, h108, h109, h110, h111, h112, h113, h114, h115, h116, h117, h118, h119, h120, h121, h122⟩ := id hm
  obtain ⟨xT, xP, xB, xA, xE, xF⟩ := id hX
  have xT : tM S t L := xT
  have xP : pM S P := xP
  have xB : ag (S 113) r := xB
  have xA : aM S acts := xA
  have xE : eM S kept := xE
  have xF : fM S f := xF
  have hn9 : P.1 ≤ 9 := xP.1
  have haN : isA B 113 := ⟨Or.inl rfl, h113⟩
  have haT : isA B 114 := ⟨Or.inr rfl, h114⟩
  refine x_aload_n dX7_wipe_0 rfl rfl ?_
  refine gX7_82 dX7_wipe_1 rfl (by assumption) rfl ?_
  refine x_istore_n (lv' := [(1, _), (0, _)]) dX7_wipe_4 rfl (by decide) rfl ?_
  refine x_aload_n dX7_wipe_5 rfl rfl ?_
  refine x_iconst (v := 0) dX7_wipe_6 (by decide) ?_
  refine pX7_82 dX7_wipe_7 rfl (by assumption) rfl ?_
  refine x_iload_n dX7_wipe_10 rfl rfl ?_
  refine x_ireturn dX7_wipe_11 rfl rfl ?_
  exact qR_of (o := o_wipe ((L, t), P, r, acts, kept, f)) (A' := ((0, t), P, r, acts, kept, f)) rfl xT.2.1 ⟨⟨Nat.zero_le _, by rw [s_put_eq, if_pos rfl]; rfl, fun i hi => absurd hi (Nat.not_lt_zero i)⟩, pM_ag (fun b h1 h2 => s_put_ne (by omega)) xP, by show ag (s_put S 102 1 0 113) r; rw [s_put_ne (by omega)]; exact xB, aM_ag (RM_obj 16 (by decide)) (s_put_ne (by omega)) xA, eM_ag (RM_obj 18 (by decide)) (s_put_ne (by omega)) xE, fM_ag (RM_obj 25 (by decide)) (fun a h1 h2 => s_put_ne (by omega)) xF⟩ (fun a ha => s_put_ne (by omega))

set_option maxHeartbeats 1000000 in
set_option maxRecDepth 20000 in
theorem lm_guest {B : sB} {S : sSt} {T : Nat × (Nat → Nat)} {P : aP} {r : aR} {acts kept : List aR} {f : aF} (hm : shM B) (hX : RM S (T, P, r, acts, kept, f)) (hI : iA (T, P, r, acts, kept, f)) {g : Nat} {w : Int32} (hg : g < P.1) {Q : Option Value → sSt → Prop} (hex : WS B (fun _ => True) yX7_guest cX7_guest 5 (some .int) 3 63 [(4, .int (nI P.1)), (3, .int (oI (fndU (fun s => r (39 + s) == nI g) P.1 0))), (0, .ref (s_ad B 102)), (1, .int (nI g)), (2, .int w)] [] S Q) :
    ∀ (k i : Nat), i + k = P.1 → WS B (fun _ => True) yX7_guest cX7_guest 5 (some .int) 3 25 [(4, .int (nI i)), (3, .int (oI (fndU (fun s => r (39 + s) == nI g) i 0))), (0, .ref (s_ad B 102)), (1, .int (nI g)), (2, .int w)] [] S Q := by
  obtain ⟨hm0, h103, h104, h105, h106, h107, h108, h109, h110, h111, h112, h113, h114, h115, h116, h117, h118, h119, h120, h121, h122⟩ := id hm
  obtain ⟨xT, xP, xB, xA, xE, xF⟩ := id hX
  have xT : tM S T.2 T.1 := xT
  have xP : pM S P := xP
  have xB : ag (S 113) r := xB
  have xA : aM S acts := xA
  have xE : eM S kept := xE
  have xF : fM S f := xF
  have hn9 : P.1 ≤ 9 := xP.1
  have haN : isA B 113 := ⟨Or.inl rfl, h113⟩
  have haT : isA B 114 := ⟨Or.inr rfl, h114⟩
  obtain ⟨jP, jR, jA, jE, jF⟩ := id hI
  have jP : iP P := jP
  have jR : iR P r := jR
  have jF : iF f := jF
  have hn1 : 1 ≤ P.1 := jP.1
  have hn := xP.2.1
  intro k
  induction k with
  | zero =>
    intro i hi
    refine x_iload dX7_guest_25 rfl ?_
    refine x_aload_n dX7_guest_27 rfl rfl ?_
    refine gX7_13 dX7_guest_28 rfl (by assumption) rfl ?_
    refine x_iconst (v := 0) dX7_guest_31 (by decide) ?_
    refine x_ialdN (j := 0) (by assumption) dX7_guest_32 (by decide) (by decide) ?_
    refine x_icmp_ge (tgt := 63) dX7_guest_33 (by decide) (fun c_33 => ?_) (fun c_33 => ?_)
    · rw [show i = P.1 by omega]
      exact hex
    · exact absurd (by rw [hn, ← hi]; exact nI_le (by omega) (by omega)) c_33
  | succ k ih =>
    intro i hi
    have hr39 := xB (39 + i) (by omega)
    refine x_iload dX7_guest_25 rfl ?_
    refine x_aload_n dX7_guest_27 rfl rfl ?_
    refine gX7_13 dX7_guest_28 rfl (by assumption) rfl ?_
    refine x_iconst (v := 0) dX7_guest_31 (by decide) ?_
    refine x_ialdN (j := 0) (by assumption) dX7_guest_32 (by decide) (by decide) ?_
    refine x_icmp_ge (tgt := 63) dX7_guest_33 (by decide) (fun c_33 => ?_) (fun c_33 => ?_)
    · exact absurd c_33 (by rw [hn]; exact nI_ge (by omega) (by omega))
    · refine x_aload_n dX7_guest_36 rfl rfl ?_
      refine gX7_41 dX7_guest_37 rfl (by assumption) rfl ?_
      refine x_bipush (v := 39) dX7_guest_40 (by decide) ?_
      refine x_iload dX7_guest_42 rfl ?_
      refine x_iadd dX7_guest_44 ?_
      first | refine x_re (nI_add 39 _) ?_ | skip
      first | refine x_ialdN (by assumption) dX7_guest_45 (by omega) (by decide) ?_ | refine x_iald (by assumption) dX7_guest_45 (by assumption) ?_
      refine x_iload_n dX7_guest_46 rfl rfl ?_
      refine x_icmp_ne (tgt := 55) dX7_guest_47 (by decide) (fun c_47 => ?_) (fun c_47 => ?_)
      · refine x_iload_n dX7_guest_55 rfl rfl ?_
        refine x_istore_n (lv' := [(3, _), (4, _), (0, _), (1, _), (2, _)]) dX7_guest_56 rfl (by decide) rfl ?_
        first | refine x_inc1N (lv' := [(4, _), (3, _), (0, _), (1, _), (2, _)]) dX7_guest_57 rfl (by decide) rfl ?_ | refine x_iinc (v := _ + 1) (lv' := [(4, _), (3, _), (0, _), (1, _), (2, _)]) dX7_guest_57 rfl rfl (by decide) rfl ?_
        refine x_goto (tgt := 25) dX7_guest_60 (by decide) ?_
        refine x_wk [0, 1, 2, 3, 4] rfl ?_
        first
        | (have hno : fndU (fun s => r (39 + s) == nI g) i 0 = none := by
             cases hf : fndU (fun s => r (39 + s) == nI g) i 0 with
             | none => rfl
             | some j =>
               obtain ⟨z1, z2, z3⟩ := fndU_lt hf
               rw [beq_iff_eq] at z3
               have := jR.2.2.2.2 j i (by omega) (by omega) (by rw [z3, ← hr39, c_47]) (by rw [z3]; exact nI_ne4 (by omega))
               omega
           have h1 := ih (i + 1) (by omega)
           rw [fndU_snoc, hno] at h1
           simp only [Nat.zero_add] at h1
           rw [if_pos (by rw [beq_iff_eq, ← hr39]; exact c_47)] at h1
           exact h1)
        | (have h1 := ih (i + 1) (by omega)
           rw [fndU_snoc] at h1
           simp only [Nat.zero_add] at h1
           rw [if_neg (by rw [beq_iff_eq, ← hr39]; exact c_47)] at h1
           cases hf : fndU (fun s => r (39 + s) == nI g) i 0 with
           | none => rw [hf] at h1; exact h1
           | some j => rw [hf] at h1; exact h1)
      · refine x_iload dX7_guest_50 rfl ?_
        refine x_goto (tgt := 56) dX7_guest_52 (by decide) ?_
        refine x_istore_n (lv' := [(3, _), (4, _), (0, _), (1, _), (2, _)]) dX7_guest_56 rfl (by decide) rfl ?_
        first | refine x_inc1N (lv' := [(4, _), (3, _), (0, _), (1, _), (2, _)]) dX7_guest_57 rfl (by decide) rfl ?_ | refine x_iinc (v := _ + 1) (lv' := [(4, _), (3, _), (0, _), (1, _), (2, _)]) dX7_guest_57 rfl rfl (by decide) rfl ?_
        refine x_goto (tgt := 25) dX7_guest_60 (by decide) ?_
        refine x_wk [0, 1, 2, 3, 4] rfl ?_
        first
        | (have hno : fndU (fun s => r (39 + s) == nI g) i 0 = none := by
             cases hf : fndU (fun s => r (39 + s) == nI g) i 0 with
             | none => rfl
             | some j =>
               obtain ⟨z1, z2, z3⟩ := fndU_lt hf
               rw [beq_iff_eq] at z3
               have := jR.2.2.2.2 j i (by omega) (by omega) (by rw [z3, ← hr39, c_47]) (by rw [z3]; exact nI_ne4 (by omega))
               omega
           have h1 := ih (i + 1) (by omega)
           rw [fndU_snoc, hno] at h1
           simp only [Nat.zero_add] at h1
           rw [if_pos (by rw [beq_iff_eq, ← hr39]; exact c_47)] at h1
           exact h1)
        | (have h1 := ih (i + 1) (by omega)
           rw [fndU_snoc] at h1
           simp only [Nat.zero_add] at h1
           rw [if_neg (by rw [beq_iff_eq, ← hr39]; exact c_47)] at h1
           cases hf : fndU (fun s => r (39 + s) == nI g) i 0 with
           | none => rw [hf] at h1; exact h1
           | some j => rw [hf] at h1; exact h1)

set_option maxHeartbeats 1000000 in
set_option maxRecDepth 20000 in
theorem cM_guest {B : sB} {S : sSt} {T : Nat × (Nat → Nat)} {P : aP} {r : aR} {acts kept : List aR} {f : aF} (hm : shM B) (hX : RM S (T, P, r, acts, kept, f)) (hI : iA (T, P, r, acts, kept, f)) {x w : Int32} : CS B yX7_guest cX7_guest 5 (some .int) 3 [.ref (s_ad B 102), .int x, .int w] S (qR S (o_guest (T, P, r, acts, kept, f) x w)) := by
  refine cs_intro (lv := [(0, .ref (s_ad B 102)), (1, .int x), (2, .int w)]) rfl ?_
  obtain ⟨hm0, h103, h104, h105, h106, h107, h108, h109, h110, h111, h112, h113, h114, h115, h116, h117, h118, h119, h120, h121, h122⟩ := id hm
  obtain ⟨xT, xP, xB, xA, xE, xF⟩ := id hX
  have xT : tM S T.2 T.1 := xT
  have xP : pM S P := xP
  have xB : ag (S 113) r := xB
  have xA : aM S acts := xA
  have xE : eM S kept := xE
  have xF : fM S f := xF
  have hn9 : P.1 ≤ 9 := xP.1
  have haN : isA B 113 := ⟨Or.inl rfl, h113⟩
  have haT : isA B 114 := ⟨Or.inr rfl, h114⟩
  obtain ⟨jP, jR, jA, jE, jF⟩ := id hI
  have jP : iP P := jP
  have jR : iR P r := jR
  have jF : iF f := jF
  have hn1 : 1 ≤ P.1 := jP.1
  refine x_aload_n dX7_guest_0 rfl rfl ?_
  refine x_iload_n dX7_guest_1 rfl rfl ?_
  refine kX7_132 dX7_guest_2 rfl (by assumption) (cm_isGuest hm hX hn1) (by decide) (Nat.le_of_ble_eq_true rfl) ?_
  refine x_ifeq_b (tgt := 17) dX7_guest_5 (by decide) (fun c_5 => ?_) (fun c_5 => ?_)
  · refine x_iconst (v := (-1)) dX7_guest_17 (by decide) ?_
    refine x_ireturn dX7_guest_18 rfl rfl ?_
    first
    | exact qR_of (by rw [o_guest, if_neg c_5]) rfl hX frM_rfl
    | exact qR_of (by
        rw [o_guest, if_pos hgk, if_neg, if_neg, if_neg, if_neg]
        all_goals (intro h; rw [h] at c_14; exact c_14 (by decide))) rfl hX frM_rfl
  · have hgk := c_5
    obtain ⟨g, hg, rfl⟩ : ∃ g, g < P.1 ∧ x = nI g := ⟨_, gok_nI c_5⟩
    have hgc : (nI g).toNatClampNeg = g := nI_clamp (by omega)
    have hpi := xP.2.2.2.2 g hg
    refine x_iload_n dX7_guest_8 rfl rfl ?_
    refine x_iconst (v := 0) dX7_guest_9 (by decide) ?_
    refine x_iconst (v := 3) dX7_guest_10 (by decide) ?_
    refine kX7_78 dX7_guest_11 rfl (c_in) (by decide) (Nat.le_of_ble_eq_true rfl) ?_
    refine x_ifne_b (tgt := 19) dX7_guest_14 (by decide) (fun c_14 => ?_) (fun c_14 => ?_)
    · refine x_bipush (v := (-4)) dX7_guest_19 (by decide) ?_
      refine x_istore_n (lv' := [(3, _), (0, _), (1, _), (2, _)]) dX7_guest_21 rfl (by decide) rfl ?_
      refine x_iconst (v := 0) dX7_guest_22 (by decide) ?_
      refine x_istore (lv' := [(4, _), (3, _), (0, _), (1, _), (2, _)]) dX7_guest_23 (by decide) rfl ?_
      refine lm_guest hm hX hI hg ?_ P.1 0 (by omega)
      refine x_iload_n dX7_guest_63 rfl rfl ?_
      refine x_if_ne (tgt := 76) dX7_guest_64 (by decide) (fun c_64 => ?_) (fun c_64 => ?_)
      · refine x_iload_n dX7_guest_76 rfl rfl ?_
        refine x_iconst (v := 1) dX7_guest_77 (by decide) ?_
        refine x_icmp_ne (tgt := 90) dX7_guest_78 (by decide) (fun c_78 => ?_) (fun c_78 => ?_)
        · refine x_iload_n dX7_guest_90 rfl rfl ?_
          refine x_iconst (v := 2) dX7_guest_91 (by decide) ?_
          refine x_icmp_ne (tgt := 104) dX7_guest_92 (by decide) (fun c_92 => ?_) (fun c_92 => ?_)
          · refine x_iload_n dX7_guest_104 rfl rfl ?_
            refine x_ireturn dX7_guest_105 rfl rfl ?_
            first
            | exact qR_of (by rw [o_guest, if_pos hgk, if_pos c_64, hgc]) hpi.1 hX frM_rfl
            | exact qR_of (by rw [o_guest, if_pos hgk, if_neg c_64, if_pos c_78, hgc]) hpi.2.1 hX frM_rfl
            | exact qR_of (by rw [o_guest, if_pos hgk, if_neg c_64, if_neg c_78, if_pos c_92, hgc]) hpi.2.2 hX frM_rfl
            | exact qR_of (by
                rw [o_guest, if_pos hgk, if_neg c_64, if_neg c_78, if_neg c_92, if_pos, hgc]
                · rfl
                · obtain ⟨z1, z2⟩ := c_14
                  rw [Int32.le_iff_toInt_le] at z1 z2
                  have e0 : (0 : Int32).toInt = 0 := by decide
                  have e3 : (3 : Int32).toInt = 3 := by decide
                  have y0 := sw_ne (n := 0) (by decide) c_64
                  have y1 := sw_ne (n := 1) (by decide) c_78
                  have y2 := sw_ne (n := 2) (by decide) c_92
                  exact Int32.toInt_inj.mp (by rw [e3]; omega)) rfl hX frM_rfl
          · refine x_aload_n dX7_guest_95 rfl rfl ?_
            refine gX7_35 dX7_guest_96 rfl (by assumption) rfl ?_
            refine x_iload_n dX7_guest_99 rfl rfl ?_
            first | refine x_ialdN (by assumption) dX7_guest_100 (by omega) (by decide) ?_ | refine x_iald (by assumption) dX7_guest_100 (by assumption) ?_
            refine x_goto (tgt := 105) dX7_guest_101 (by decide) ?_
            refine x_ireturn dX7_guest_105 rfl rfl ?_
            first
            | exact qR_of (by rw [o_guest, if_pos hgk, if_pos c_64, hgc]) hpi.1 hX frM_rfl
            | exact qR_of (by rw [o_guest, if_pos hgk, if_neg c_64, if_pos c_78, hgc]) hpi.2.1 hX frM_rfl
            | exact qR_of (by rw [o_guest, if_pos hgk, if_neg c_64, if_neg c_78, if_pos c_92, hgc]) hpi.2.2 hX frM_rfl
            | exact qR_of (by
                rw [o_guest, if_pos hgk, if_neg c_64, if_neg c_78, if_neg c_92, if_pos, hgc]
                · rfl
                · obtain ⟨z1, z2⟩ := c_14
                  rw [Int32.le_iff_toInt_le] at z1 z2
                  have e0 : (0 : Int32).toInt = 0 := by decide
                  have e3 : (3 : Int32).toInt = 3 := by decide
                  have y0 := sw_ne (n := 0) (by decide) c_64
                  have y1 := sw_ne (n := 1) (by decide) c_78
                  have y2 := sw_ne (n := 2) (by decide) c_92
                  exact Int32.toInt_inj.mp (by rw [e3]; omega)) rfl hX frM_rfl
        · refine x_aload_n dX7_guest_81 rfl rfl ?_
          refine gX7_32 dX7_guest_82 rfl (by assumption) rfl ?_
          refine x_iload_n dX7_guest_85 rfl rfl ?_
          first | refine x_ialdN (by assumption) dX7_guest_86 (by omega) (by decide) ?_ | refine x_iald (by assumption) dX7_guest_86 (by assumption) ?_
          refine x_goto (tgt := 105) dX7_guest_87 (by decide) ?_
          refine x_ireturn dX7_guest_105 rfl rfl ?_
          first
          | exact qR_of (by rw [o_guest, if_pos hgk, if_pos c_64, hgc]) hpi.1 hX frM_rfl
          | exact qR_of (by rw [o_guest, if_pos hgk, if_neg c_64, if_pos c_78, hgc]) hpi.2.1 hX frM_rfl
          | exact qR_of (by rw [o_guest, if_pos hgk, if_neg c_64, if_neg c_78, if_pos c_92, hgc]) hpi.2.2 hX frM_rfl
          | exact qR_of (by
              rw [o_guest, if_pos hgk, if_neg c_64, if_neg c_78, if_neg c_92, if_pos, hgc]
              · rfl
              · obtain ⟨z1, z2⟩ := c_14
                rw [Int32.le_iff_toInt_le] at z1 z2
                have e0 : (0 : Int32).toInt = 0 := by decide
                have e3 : (3 : Int32).toInt = 3 := by decide
                have y0 := sw_ne (n := 0) (by decide) c_64
                have y1 := sw_ne (n := 1) (by decide) c_78
                have y2 := sw_ne (n := 2) (by decide) c_92
                exact Int32.toInt_inj.mp (by rw [e3]; omega)) rfl hX frM_rfl
      · refine x_aload_n dX7_guest_67 rfl rfl ?_
        refine gX7_29 dX7_guest_68 rfl (by assumption) rfl ?_
        refine x_iload_n dX7_guest_71 rfl rfl ?_
        first | refine x_ialdN (by assumption) dX7_guest_72 (by omega) (by decide) ?_ | refine x_iald (by assumption) dX7_guest_72 (by assumption) ?_
        refine x_goto (tgt := 105) dX7_guest_73 (by decide) ?_
        refine x_ireturn dX7_guest_105 rfl rfl ?_
        first
        | exact qR_of (by rw [o_guest, if_pos hgk, if_pos c_64, hgc]) hpi.1 hX frM_rfl
        | exact qR_of (by rw [o_guest, if_pos hgk, if_neg c_64, if_pos c_78, hgc]) hpi.2.1 hX frM_rfl
        | exact qR_of (by rw [o_guest, if_pos hgk, if_neg c_64, if_neg c_78, if_pos c_92, hgc]) hpi.2.2 hX frM_rfl
        | exact qR_of (by
            rw [o_guest, if_pos hgk, if_neg c_64, if_neg c_78, if_neg c_92, if_pos, hgc]
            · rfl
            · obtain ⟨z1, z2⟩ := c_14
              rw [Int32.le_iff_toInt_le] at z1 z2
              have e0 : (0 : Int32).toInt = 0 := by decide
              have e3 : (3 : Int32).toInt = 3 := by decide
              have y0 := sw_ne (n := 0) (by decide) c_64
              have y1 := sw_ne (n := 1) (by decide) c_78
              have y2 := sw_ne (n := 2) (by decide) c_92
              exact Int32.toInt_inj.mp (by rw [e3]; omega)) rfl hX frM_rfl
    · refine x_iconst (v := (-1)) dX7_guest_17 (by decide) ?_
      refine x_ireturn dX7_guest_18 rfl rfl ?_
      first
      | exact qR_of (by rw [o_guest, if_neg c_5]) rfl hX frM_rfl
      | exact qR_of (by
          rw [o_guest, if_pos hgk, if_neg, if_neg, if_neg, if_neg]
          all_goals (intro h; rw [h] at c_14; exact c_14 (by decide))) rfl hX frM_rfl

set_option maxHeartbeats 1000000 in
set_option maxRecDepth 20000 in
theorem cM_slice {B : sB} {S : sSt} {T : Nat × (Nat → Nat)} {P : aP} {r : aR} {acts kept : List aR} {f : aF} (hm : shM B) (hX : RM S (T, P, r, acts, kept, f)) (hI : iA (T, P, r, acts, kept, f)) {x w : Int32} : CS B yX7_slice cX7_slice 4 (some .int) 3 [.ref (s_ad B 102), .int x, .int w] S (qR S (o_slice (T, P, r, acts, kept, f) x w)) := by
  refine cs_intro (lv := [(0, .ref (s_ad B 102)), (1, .int x), (2, .int w)]) rfl ?_
  obtain ⟨hm0, h103, h104, h105, h106, h107, h108, h109, h110, h111, h112, h113, h114, h115, h116, h117, h118, h119, h120, h121, h122⟩ := id hm
  obtain ⟨xT, xP, xB, xA, xE, xF⟩ := id hX
  have xT : tM S T.2 T.1 := xT
  have xP : pM S P := xP
  have xB : ag (S 113) r := xB
  have xA : aM S acts := xA
  have xE : eM S kept := xE
  have xF : fM S f := xF
  have hn9 : P.1 ≤ 9 := xP.1
  have haN : isA B 113 := ⟨Or.inl rfl, h113⟩
  have haT : isA B 114 := ⟨Or.inr rfl, h114⟩
  obtain ⟨jP, jR, jA, jE, jF⟩ := id hI
  have jP : iP P := jP
  have jR : iR P r := jR
  have jF : iF f := jF
  have hn1 : 1 ≤ P.1 := jP.1
  refine x_aload_n dX7_slice_0 rfl rfl ?_
  refine x_iload_n dX7_slice_1 rfl rfl ?_
  refine kX7_132 dX7_slice_2 rfl (by assumption) (cm_isGuest hm hX hn1) (by decide) (Nat.le_of_ble_eq_true rfl) ?_
  refine x_ifne_b (tgt := 10) dX7_slice_5 (by decide) (fun c_5 => ?_) (fun c_5 => ?_)
  · have hgk := c_5
    obtain ⟨g, hg, rfl⟩ : ∃ g, g < P.1 ∧ x = nI g := ⟨_, gok_nI c_5⟩
    have hgc : (nI g).toNatClampNeg = g := nI_clamp (by omega)
    have b1 := xB (3 + g) (by omega)
    have b2 := xB (12 + g) (by omega)
    have b3 := xB (21 + g) (by omega)
    have b4 := xB (30 + g) (by omega)
    have b5 := xB (39 + g) (by omega)
    refine x_aload_n dX7_slice_10 rfl rfl ?_
    refine gX7_41 dX7_slice_11 rfl (by assumption) rfl ?_
    refine x_iconst (v := 3) dX7_slice_14 (by decide) ?_
    refine x_iload_n dX7_slice_15 rfl rfl ?_
    refine x_iadd dX7_slice_16 ?_
    first | refine x_re (nI_add 3 _) ?_ | skip
    first | refine x_ialdN (by assumption) dX7_slice_17 (by omega) (by decide) ?_ | refine x_iald (by assumption) dX7_slice_17 (by assumption) ?_
    refine x_iconst (v := 1) dX7_slice_18 (by decide) ?_
    rw [b1]
    refine x_icmp_ne (tgt := 26) dX7_slice_19 (by decide) (fun c_19 => ?_) (fun c_19 => ?_)
    · refine x_iconst (v := 0) dX7_slice_26 (by decide) ?_
      refine x_istore_n (lv' := [(3, _), (0, _), (1, _), (2, _)]) dX7_slice_27 rfl (by decide) rfl ?_
      refine x_iload_n dX7_slice_28 rfl rfl ?_
      by_cases w_0 : w = 0
      · refine x_tableIn (tgt := 68) dX7_slice_29 (by rw [w_0]; decide) (by rw [w_0]; decide) (by rw [w_0]; rfl) (by decide) ?_
        refine x_aload_n dX7_slice_68 rfl rfl ?_
        refine gX7_41 dX7_slice_69 rfl (by assumption) rfl ?_
        refine x_iconst (v := 3) dX7_slice_72 (by decide) ?_
        refine x_iload_n dX7_slice_73 rfl rfl ?_
        refine x_iadd dX7_slice_74 ?_
        first | refine x_re (nI_add 3 _) ?_ | skip
        first | refine x_ialdN (by assumption) dX7_slice_75 (by omega) (by decide) ?_ | refine x_iald (by assumption) dX7_slice_75 (by assumption) ?_
        refine x_ireturn dX7_slice_76 rfl rfl ?_
        exact qR_of (by rw [o_slice, if_pos hgk, if_pos w_0, hgc]) b1 hX frM_rfl
      by_cases w_1 : w = 1
      · refine x_tableIn (tgt := 77) dX7_slice_29 (by rw [w_1]; decide) (by rw [w_1]; decide) (by rw [w_1]; rfl) (by decide) ?_
        refine x_iload_n dX7_slice_77 rfl rfl ?_
        refine x_if_eq (tgt := 93) dX7_slice_78 (by decide) (fun c_78 => ?_) (fun c_78 => ?_)
        · refine x_bipush (v := (-4)) dX7_slice_93 (by decide) ?_
          refine x_ireturn dX7_slice_95 rfl rfl ?_
          first
          | exact absurd c_78 (by decide)
          | exact absurd rfl c_78
          | exact qR_of (by rw [o_slice, if_pos hgk, if_neg w_0, if_pos w_1, hgc, if_neg c_19]) rfl hX frM_rfl
          | exact qR_of (by rw [o_slice, if_pos hgk, if_neg w_0, if_pos w_1, hgc, if_pos c_19]) b2 hX frM_rfl
        · refine x_aload_n dX7_slice_81 rfl rfl ?_
          refine gX7_41 dX7_slice_82 rfl (by assumption) rfl ?_
          refine x_bipush (v := 12) dX7_slice_85 (by decide) ?_
          refine x_iload_n dX7_slice_87 rfl rfl ?_
          refine x_iadd dX7_slice_88 ?_
          first | refine x_re (nI_add 12 _) ?_ | skip
          first | refine x_ialdN (by assumption) dX7_slice_89 (by omega) (by decide) ?_ | refine x_iald (by assumption) dX7_slice_89 (by assumption) ?_
          refine x_goto (tgt := 95) dX7_slice_90 (by decide) ?_
          refine x_ireturn dX7_slice_95 rfl rfl ?_
          first
          | exact absurd c_78 (by decide)
          | exact absurd rfl c_78
          | exact qR_of (by rw [o_slice, if_pos hgk, if_neg w_0, if_pos w_1, hgc, if_neg c_19]) rfl hX frM_rfl
          | exact qR_of (by rw [o_slice, if_pos hgk, if_neg w_0, if_pos w_1, hgc, if_pos c_19]) b2 hX frM_rfl
      by_cases w_2 : w = 2
      · refine x_tableIn (tgt := 96) dX7_slice_29 (by rw [w_2]; decide) (by rw [w_2]; decide) (by rw [w_2]; rfl) (by decide) ?_
        refine x_iload_n dX7_slice_96 rfl rfl ?_
        refine x_if_eq (tgt := 112) dX7_slice_97 (by decide) (fun c_97 => ?_) (fun c_97 => ?_)
        · refine x_bipush (v := (-4)) dX7_slice_112 (by decide) ?_
          refine x_ireturn dX7_slice_114 rfl rfl ?_
          first
          | exact absurd c_97 (by decide)
          | exact absurd rfl c_97
          | exact qR_of (by rw [o_slice, if_pos hgk, if_neg w_0, if_neg w_1, if_pos w_2, hgc, if_neg c_19]) rfl hX frM_rfl
          | exact qR_of (by rw [o_slice, if_pos hgk, if_neg w_0, if_neg w_1, if_pos w_2, hgc, if_pos c_19]) b3 hX frM_rfl
        · refine x_aload_n dX7_slice_100 rfl rfl ?_
          refine gX7_41 dX7_slice_101 rfl (by assumption) rfl ?_
          refine x_bipush (v := 21) dX7_slice_104 (by decide) ?_
          refine x_iload_n dX7_slice_106 rfl rfl ?_
          refine x_iadd dX7_slice_107 ?_
          first | refine x_re (nI_add 21 _) ?_ | skip
          first | refine x_ialdN (by assumption) dX7_slice_108 (by omega) (by decide) ?_ | refine x_iald (by assumption) dX7_slice_108 (by assumption) ?_
          refine x_goto (tgt := 114) dX7_slice_109 (by decide) ?_
          refine x_ireturn dX7_slice_114 rfl rfl ?_
          first
          | exact absurd c_97 (by decide)
          | exact absurd rfl c_97
          | exact qR_of (by rw [o_slice, if_pos hgk, if_neg w_0, if_neg w_1, if_pos w_2, hgc, if_neg c_19]) rfl hX frM_rfl
          | exact qR_of (by rw [o_slice, if_pos hgk, if_neg w_0, if_neg w_1, if_pos w_2, hgc, if_pos c_19]) b3 hX frM_rfl
      by_cases w_3 : w = 3
      · refine x_tableIn (tgt := 115) dX7_slice_29 (by rw [w_3]; decide) (by rw [w_3]; decide) (by rw [w_3]; rfl) (by decide) ?_
        refine x_aload_n dX7_slice_115 rfl rfl ?_
        refine gX7_41 dX7_slice_116 rfl (by assumption) rfl ?_
        refine x_bipush (v := 30) dX7_slice_119 (by decide) ?_
        refine x_iload_n dX7_slice_121 rfl rfl ?_
        refine x_iadd dX7_slice_122 ?_
        first | refine x_re (nI_add 30 _) ?_ | skip
        first | refine x_ialdN (by assumption) dX7_slice_123 (by omega) (by decide) ?_ | refine x_iald (by assumption) dX7_slice_123 (by assumption) ?_
        refine x_ireturn dX7_slice_124 rfl rfl ?_
        exact qR_of (by rw [o_slice, if_pos hgk, if_neg w_0, if_neg w_1, if_neg w_2, if_pos w_3, hgc]) b4 hX frM_rfl
      by_cases w_4 : w = 4
      · refine x_tableIn (tgt := 125) dX7_slice_29 (by rw [w_4]; decide) (by rw [w_4]; decide) (by rw [w_4]; rfl) (by decide) ?_
        refine x_aload_n dX7_slice_125 rfl rfl ?_
        refine gX7_41 dX7_slice_126 rfl (by assumption) rfl ?_
        refine x_bipush (v := 39) dX7_slice_129 (by decide) ?_
        refine x_iload_n dX7_slice_131 rfl rfl ?_
        refine x_iadd dX7_slice_132 ?_
        first | refine x_re (nI_add 39 _) ?_ | skip
        first | refine x_ialdN (by assumption) dX7_slice_133 (by omega) (by decide) ?_ | refine x_iald (by assumption) dX7_slice_133 (by assumption) ?_
        refine x_ireturn dX7_slice_134 rfl rfl ?_
        exact qR_of (by rw [o_slice, if_pos hgk, if_neg w_0, if_neg w_1, if_neg w_2, if_neg w_3, if_pos w_4, hgc]) b5 hX frM_rfl
      by_cases w_5 : w = 5
      · refine x_tableIn (tgt := 135) dX7_slice_29 (by rw [w_5]; decide) (by rw [w_5]; decide) (by rw [w_5]; rfl) (by decide) ?_
        refine x_aload_n dX7_slice_135 rfl rfl ?_
        refine x_aload_n dX7_slice_136 rfl rfl ?_
        refine gX7_41 dX7_slice_137 rfl (by assumption) rfl ?_
        refine x_iload_n dX7_slice_140 rfl rfl ?_
        refine x_iload_n dX7_slice_141 rfl rfl ?_
        refine kX7_136 dX7_slice_142 rfl (by assumption) (c_isRightFor hm haN xP xB hg hg) (by decide) (Nat.le_of_ble_eq_true rfl) ?_
        refine x_ifeq_b (tgt := 152) dX7_slice_145 (by decide) (fun c_145 => ?_) (fun c_145 => ?_)
        · refine x_iconst (v := 0) dX7_slice_152 (by decide) ?_
          refine x_ireturn dX7_slice_153 rfl rfl ?_
          first
          | exact qR_of (by rw [o_slice, if_pos hgk, if_neg w_0, if_neg w_1, if_neg w_2, if_neg w_3, if_neg w_4, if_pos w_5, hgc]) (bI_f c_145) hX frM_rfl
          | exact qR_of (by rw [o_slice, if_pos hgk, if_neg w_0, if_neg w_1, if_neg w_2, if_neg w_3, if_neg w_4, if_pos w_5, hgc]) (bI_t c_145) hX frM_rfl
        · refine x_iconst (v := 1) dX7_slice_148 (by decide) ?_
          refine x_goto (tgt := 153) dX7_slice_149 (by decide) ?_
          refine x_ireturn dX7_slice_153 rfl rfl ?_
          first
          | exact qR_of (by rw [o_slice, if_pos hgk, if_neg w_0, if_neg w_1, if_neg w_2, if_neg w_3, if_neg w_4, if_pos w_5, hgc]) (bI_f c_145) hX frM_rfl
          | exact qR_of (by rw [o_slice, if_pos hgk, if_neg w_0, if_neg w_1, if_neg w_2, if_neg w_3, if_neg w_4, if_pos w_5, hgc]) (bI_t c_145) hX frM_rfl
      refine x_tableOut (tgt := 154) dX7_slice_29 (by have z0 := sw_ne (n := 0) (by decide) w_0; have z1 := sw_ne (n := 1) (by decide) w_1; have z2 := sw_ne (n := 2) (by decide) w_2; have z3 := sw_ne (n := 3) (by decide) w_3; have z4 := sw_ne (n := 4) (by decide) w_4; have z5 := sw_ne (n := 5) (by decide) w_5; omega) (by decide) ?_
      refine x_iconst (v := (-1)) dX7_slice_154 (by decide) ?_
      refine x_ireturn dX7_slice_155 rfl rfl ?_
      exact qR_of (by rw [o_slice, if_pos hgk, if_neg w_0, if_neg w_1, if_neg w_2, if_neg w_3, if_neg w_4, if_neg w_5]) rfl hX frM_rfl
    · refine x_iconst (v := 1) dX7_slice_22 (by decide) ?_
      refine x_goto (tgt := 27) dX7_slice_23 (by decide) ?_
      refine x_istore_n (lv' := [(3, _), (0, _), (1, _), (2, _)]) dX7_slice_27 rfl (by decide) rfl ?_
      refine x_iload_n dX7_slice_28 rfl rfl ?_
      by_cases w_0 : w = 0
      · refine x_tableIn (tgt := 68) dX7_slice_29 (by rw [w_0]; decide) (by rw [w_0]; decide) (by rw [w_0]; rfl) (by decide) ?_
        refine x_aload_n dX7_slice_68 rfl rfl ?_
        refine gX7_41 dX7_slice_69 rfl (by assumption) rfl ?_
        refine x_iconst (v := 3) dX7_slice_72 (by decide) ?_
        refine x_iload_n dX7_slice_73 rfl rfl ?_
        refine x_iadd dX7_slice_74 ?_
        first | refine x_re (nI_add 3 _) ?_ | skip
        first | refine x_ialdN (by assumption) dX7_slice_75 (by omega) (by decide) ?_ | refine x_iald (by assumption) dX7_slice_75 (by assumption) ?_
        refine x_ireturn dX7_slice_76 rfl rfl ?_
        exact qR_of (by rw [o_slice, if_pos hgk, if_pos w_0, hgc]) b1 hX frM_rfl
      by_cases w_1 : w = 1
      · refine x_tableIn (tgt := 77) dX7_slice_29 (by rw [w_1]; decide) (by rw [w_1]; decide) (by rw [w_1]; rfl) (by decide) ?_
        refine x_iload_n dX7_slice_77 rfl rfl ?_
        refine x_if_eq (tgt := 93) dX7_slice_78 (by decide) (fun c_78 => ?_) (fun c_78 => ?_)
        · refine x_bipush (v := (-4)) dX7_slice_93 (by decide) ?_
          refine x_ireturn dX7_slice_95 rfl rfl ?_
          first
          | exact absurd c_78 (by decide)
          | exact absurd rfl c_78
          | exact qR_of (by rw [o_slice, if_pos hgk, if_neg w_0, if_pos w_1, hgc, if_neg c_19]) rfl hX frM_rfl
          | exact qR_of (by rw [o_slice, if_pos hgk, if_neg w_0, if_pos w_1, hgc, if_pos c_19]) b2 hX frM_rfl
        · refine x_aload_n dX7_slice_81 rfl rfl ?_
          refine gX7_41 dX7_slice_82 rfl (by assumption) rfl ?_
          refine x_bipush (v := 12) dX7_slice_85 (by decide) ?_
          refine x_iload_n dX7_slice_87 rfl rfl ?_
          refine x_iadd dX7_slice_88 ?_
          first | refine x_re (nI_add 12 _) ?_ | skip
          first | refine x_ialdN (by assumption) dX7_slice_89 (by omega) (by decide) ?_ | refine x_iald (by assumption) dX7_slice_89 (by assumption) ?_
          refine x_goto (tgt := 95) dX7_slice_90 (by decide) ?_
          refine x_ireturn dX7_slice_95 rfl rfl ?_
          first
          | exact absurd c_78 (by decide)
          | exact absurd rfl c_78
          | exact qR_of (by rw [o_slice, if_pos hgk, if_neg w_0, if_pos w_1, hgc, if_neg c_19]) rfl hX frM_rfl
          | exact qR_of (by rw [o_slice, if_pos hgk, if_neg w_0, if_pos w_1, hgc, if_pos c_19]) b2 hX frM_rfl
      by_cases w_2 : w = 2
      · refine x_tableIn (tgt := 96) dX7_slice_29 (by rw [w_2]; decide) (by rw [w_2]; decide) (by rw [w_2]; rfl) (by decide) ?_
        refine x_iload_n dX7_slice_96 rfl rfl ?_
        refine x_if_eq (tgt := 112) dX7_slice_97 (by decide) (fun c_97 => ?_) (fun c_97 => ?_)
        · refine x_bipush (v := (-4)) dX7_slice_112 (by decide) ?_
          refine x_ireturn dX7_slice_114 rfl rfl ?_
          first
          | exact absurd c_97 (by decide)
          | exact absurd rfl c_97
          | exact qR_of (by rw [o_slice, if_pos hgk, if_neg w_0, if_neg w_1, if_pos w_2, hgc, if_neg c_19]) rfl hX frM_rfl
          | exact qR_of (by rw [o_slice, if_pos hgk, if_neg w_0, if_neg w_1, if_pos w_2, hgc, if_pos c_19]) b3 hX frM_rfl
        · refine x_aload_n dX7_slice_100 rfl rfl ?_
          refine gX7_41 dX7_slice_101 rfl (by assumption) rfl ?_
          refine x_bipush (v := 21) dX7_slice_104 (by decide) ?_
          refine x_iload_n dX7_slice_106 rfl rfl ?_
          refine x_iadd dX7_slice_107 ?_
          first | refine x_re (nI_add 21 _) ?_ | skip
          first | refine x_ialdN (by assumption) dX7_slice_108 (by omega) (by decide) ?_ | refine x_iald (by assumption) dX7_slice_108 (by assumption) ?_
          refine x_goto (tgt := 114) dX7_slice_109 (by decide) ?_
          refine x_ireturn dX7_slice_114 rfl rfl ?_
          first
          | exact absurd c_97 (by decide)
          | exact absurd rfl c_97
          | exact qR_of (by rw [o_slice, if_pos hgk, if_neg w_0, if_neg w_1, if_pos w_2, hgc, if_neg c_19]) rfl hX frM_rfl
          | exact qR_of (by rw [o_slice, if_pos hgk, if_neg w_0, if_neg w_1, if_pos w_2, hgc, if_pos c_19]) b3 hX frM_rfl
      by_cases w_3 : w = 3
      · refine x_tableIn (tgt := 115) dX7_slice_29 (by rw [w_3]; decide) (by rw [w_3]; decide) (by rw [w_3]; rfl) (by decide) ?_
        refine x_aload_n dX7_slice_115 rfl rfl ?_
        refine gX7_41 dX7_slice_116 rfl (by assumption) rfl ?_
        refine x_bipush (v := 30) dX7_slice_119 (by decide) ?_
        refine x_iload_n dX7_slice_121 rfl rfl ?_
        refine x_iadd dX7_slice_122 ?_
        first | refine x_re (nI_add 30 _) ?_ | skip
        first | refine x_ialdN (by assumption) dX7_slice_123 (by omega) (by decide) ?_ | refine x_iald (by assumption) dX7_slice_123 (by assumption) ?_
        refine x_ireturn dX7_slice_124 rfl rfl ?_
        exact qR_of (by rw [o_slice, if_pos hgk, if_neg w_0, if_neg w_1, if_neg w_2, if_pos w_3, hgc]) b4 hX frM_rfl
      by_cases w_4 : w = 4
      · refine x_tableIn (tgt := 125) dX7_slice_29 (by rw [w_4]; decide) (by rw [w_4]; decide) (by rw [w_4]; rfl) (by decide) ?_
        refine x_aload_n dX7_slice_125 rfl rfl ?_
        refine gX7_41 dX7_slice_126 rfl (by assumption) rfl ?_
        refine x_bipush (v := 39) dX7_slice_129 (by decide) ?_
        refine x_iload_n dX7_slice_131 rfl rfl ?_
        refine x_iadd dX7_slice_132 ?_
        first | refine x_re (nI_add 39 _) ?_ | skip
        first | refine x_ialdN (by assumption) dX7_slice_133 (by omega) (by decide) ?_ | refine x_iald (by assumption) dX7_slice_133 (by assumption) ?_
        refine x_ireturn dX7_slice_134 rfl rfl ?_
        exact qR_of (by rw [o_slice, if_pos hgk, if_neg w_0, if_neg w_1, if_neg w_2, if_neg w_3, if_pos w_4, hgc]) b5 hX frM_rfl
      by_cases w_5 : w = 5
      · refine x_tableIn (tgt := 135) dX7_slice_29 (by rw [w_5]; decide) (by rw [w_5]; decide) (by rw [w_5]; rfl) (by decide) ?_
        refine x_aload_n dX7_slice_135 rfl rfl ?_
        refine x_aload_n dX7_slice_136 rfl rfl ?_
        refine gX7_41 dX7_slice_137 rfl (by assumption) rfl ?_
        refine x_iload_n dX7_slice_140 rfl rfl ?_
        refine x_iload_n dX7_slice_141 rfl rfl ?_
        refine kX7_136 dX7_slice_142 rfl (by assumption) (c_isRightFor hm haN xP xB hg hg) (by decide) (Nat.le_of_ble_eq_true rfl) ?_
        refine x_ifeq_b (tgt := 152) dX7_slice_145 (by decide) (fun c_145 => ?_) (fun c_145 => ?_)
        · refine x_iconst (v := 0) dX7_slice_152 (by decide) ?_
          refine x_ireturn dX7_slice_153 rfl rfl ?_
          first
          | exact qR_of (by rw [o_slice, if_pos hgk, if_neg w_0, if_neg w_1, if_neg w_2, if_neg w_3, if_neg w_4, if_pos w_5, hgc]) (bI_f c_145) hX frM_rfl
          | exact qR_of (by rw [o_slice, if_pos hgk, if_neg w_0, if_neg w_1, if_neg w_2, if_neg w_3, if_neg w_4, if_pos w_5, hgc]) (bI_t c_145) hX frM_rfl
        · refine x_iconst (v := 1) dX7_slice_148 (by decide) ?_
          refine x_goto (tgt := 153) dX7_slice_149 (by decide) ?_
          refine x_ireturn dX7_slice_153 rfl rfl ?_
          first
          | exact qR_of (by rw [o_slice, if_pos hgk, if_neg w_0, if_neg w_1, if_neg w_2, if_neg w_3, if_neg w_4, if_pos w_5, hgc]) (bI_f c_145) hX frM_rfl
          | exact qR_of (by rw [o_slice, if_pos hgk, if_neg w_0, if_neg w_1, if_neg w_2, if_neg w_3, if_neg w_4, if_pos w_5, hgc]) (bI_t c_145) hX frM_rfl
      refine x_tableOut (tgt := 154) dX7_slice_29 (by have z0 := sw_ne (n := 0) (by decide) w_0; have z1 := sw_ne (n := 1) (by decide) w_1; have z2 := sw_ne (n := 2) (by decide) w_2; have z3 := sw_ne (n := 3) (by decide) w_3; have z4 := sw_ne (n := 4) (by decide) w_4; have z5 := sw_ne (n := 5) (by decide) w_5; omega) (by decide) ?_
      refine x_iconst (v := (-1)) dX7_slice_154 (by decide) ?_
      refine x_ireturn dX7_slice_155 rfl rfl ?_
      exact qR_of (by rw [o_slice, if_pos hgk, if_neg w_0, if_neg w_1, if_neg w_2, if_neg w_3, if_neg w_4, if_neg w_5]) rfl hX frM_rfl
  · refine x_iconst (v := (-1)) dX7_slice_8 (by decide) ?_
    refine x_ireturn dX7_slice_9 rfl rfl ?_
    exact qR_of (by rw [o_slice, if_neg c_5]) rfl hX frM_rfl

set_option maxHeartbeats 1000000 in
set_option maxRecDepth 20000 in
theorem cM_count {B : sB} {S : sSt} {L : Nat} {t : Nat → Nat} {P : aP} {r : aR} {acts kept : List aR} {f : aF} (hm : shM B) (hX : RM S ((L, t), P, r, acts, kept, f)) {w : Int32} : CS B yX7_count cX7_count 2 (some .int) 2 [.ref (s_ad B 102), .int w] S (qR S (o_count ((L, t), P, r, acts, kept, f) w)) := by
  refine cs_intro (lv := [(0, .ref (s_ad B 102)), (1, .int w)]) rfl ?_
  obtain ⟨hm0, h103, h104, h105, h106, h107, h108, h109, h110, h111, h112, h113, h114, h115, h116, h117, h118, h119, h120, h121, h122⟩ := id hm
  obtain ⟨xT, xP, xB, xA, xE, xF⟩ := id hX
  have xT : tM S t L := xT
  have xP : pM S P := xP
  have xB : ag (S 113) r := xB
  have xA : aM S acts := xA
  have xE : eM S kept := xE
  have xF : fM S f := xF
  have hn9 : P.1 ≤ 9 := xP.1
  have haN : isA B 113 := ⟨Or.inl rfl, h113⟩
  have haT : isA B 114 := ⟨Or.inr rfl, h114⟩
  refine x_iload_n dX7_count_0 rfl rfl ?_
  by_cases w_0 : w = 0
  · refine x_tableIn (tgt := 64) dX7_count_1 (by rw [w_0]; decide) (by rw [w_0]; decide) (by rw [w_0]; rfl) (by decide) ?_
    refine x_aload_n dX7_count_64 rfl rfl ?_
    refine gX7_13 dX7_count_65 rfl (by assumption) rfl ?_
    refine x_iconst (v := 0) dX7_count_68 (by decide) ?_
    refine x_ialdN (j := 0) (by assumption) dX7_count_69 (by decide) (by decide) ?_
    refine x_ireturn dX7_count_70 rfl rfl ?_
    exact qR_of (by rw [o_count, if_pos w_0]) (xP.2.1) hX frM_rfl
  by_cases w_1 : w = 1
  · refine x_tableIn (tgt := 71) dX7_count_1 (by rw [w_1]; decide) (by rw [w_1]; decide) (by rw [w_1]; rfl) (by decide) ?_
    refine x_aload_n dX7_count_71 rfl rfl ?_
    refine gX7_17 dX7_count_72 rfl (by assumption) rfl ?_
    refine x_iconst (v := 0) dX7_count_75 (by decide) ?_
    refine x_ialdN (j := 0) (by assumption) dX7_count_76 (by decide) (by decide) ?_
    refine x_ireturn dX7_count_77 rfl rfl ?_
    exact qR_of (by rw [o_count, if_neg w_0, if_pos w_1]) (xP.2.2.1) hX frM_rfl
  by_cases w_2 : w = 2
  · refine x_tableIn (tgt := 78) dX7_count_1 (by rw [w_2]; decide) (by rw [w_2]; decide) (by rw [w_2]; rfl) (by decide) ?_
    refine x_aload_n dX7_count_78 rfl rfl ?_
    refine gX7_41 dX7_count_79 rfl (by assumption) rfl ?_
    refine x_iconst (v := 0) dX7_count_82 (by decide) ?_
    refine x_ialdN (j := 0) (by assumption) dX7_count_83 (by decide) (by decide) ?_
    refine x_ireturn dX7_count_84 rfl rfl ?_
    exact qR_of (by rw [o_count, if_neg w_0, if_neg w_1, if_pos w_2]) (xB 0 (by omega)) hX frM_rfl
  by_cases w_3 : w = 3
  · refine x_tableIn (tgt := 85) dX7_count_1 (by rw [w_3]; decide) (by rw [w_3]; decide) (by rw [w_3]; rfl) (by decide) ?_
    refine x_aload_n dX7_count_85 rfl rfl ?_
    refine gX7_41 dX7_count_86 rfl (by assumption) rfl ?_
    refine x_iconst (v := 1) dX7_count_89 (by decide) ?_
    refine x_ialdN (j := 1) (by assumption) dX7_count_90 (by decide) (by decide) ?_
    refine x_ireturn dX7_count_91 rfl rfl ?_
    exact qR_of (by rw [o_count, if_neg w_0, if_neg w_1, if_neg w_2, if_pos w_3]) (xB 1 (by omega)) hX frM_rfl
  by_cases w_4 : w = 4
  · refine x_tableIn (tgt := 92) dX7_count_1 (by rw [w_4]; decide) (by rw [w_4]; decide) (by rw [w_4]; rfl) (by decide) ?_
    refine x_aload_n dX7_count_92 rfl rfl ?_
    refine gX7_41 dX7_count_93 rfl (by assumption) rfl ?_
    refine x_iconst (v := 2) dX7_count_96 (by decide) ?_
    refine x_ialdN (j := 2) (by assumption) dX7_count_97 (by decide) (by decide) ?_
    refine x_ireturn dX7_count_98 rfl rfl ?_
    exact qR_of (by rw [o_count, if_neg w_0, if_neg w_1, if_neg w_2, if_neg w_3, if_pos w_4]) (xB 2 (by omega)) hX frM_rfl
  by_cases w_5 : w = 5
  · refine x_tableIn (tgt := 99) dX7_count_1 (by rw [w_5]; decide) (by rw [w_5]; decide) (by rw [w_5]; rfl) (by decide) ?_
    refine x_aload_n dX7_count_99 rfl rfl ?_
    refine x_aload_n dX7_count_100 rfl rfl ?_
    refine gX7_41 dX7_count_101 rfl (by assumption) rfl ?_
    refine x_iload_n dX7_count_104 rfl rfl ?_
    refine x_iconst (v := 4) dX7_count_105 (by decide) ?_
    refine x_isub dX7_count_106 ?_
    refine kX7_120 dX7_count_107 rfl (by assumption) (c_manyIn hm haN xP xB) (by decide) (Nat.le_of_ble_eq_true rfl) ?_
    refine x_ireturn dX7_count_110 rfl rfl ?_
    first
    | exact qR_of (by rw [o_count, if_neg w_0, if_neg w_1, if_neg w_2, if_neg w_3, if_neg w_4, if_pos w_5, w_5]; rfl) rfl hX frM_rfl
    | exact qR_of (by rw [o_count, if_neg w_0, if_neg w_1, if_neg w_2, if_neg w_3, if_neg w_4, if_neg w_5, if_pos w_6, w_6]; rfl) rfl hX frM_rfl
    | exact qR_of (by rw [o_count, if_neg w_0, if_neg w_1, if_neg w_2, if_neg w_3, if_neg w_4, if_neg w_5, if_neg w_6, if_pos w_7, w_7]; rfl) rfl hX frM_rfl
  by_cases w_6 : w = 6
  · refine x_tableIn (tgt := 99) dX7_count_1 (by rw [w_6]; decide) (by rw [w_6]; decide) (by rw [w_6]; rfl) (by decide) ?_
    refine x_aload_n dX7_count_99 rfl rfl ?_
    refine x_aload_n dX7_count_100 rfl rfl ?_
    refine gX7_41 dX7_count_101 rfl (by assumption) rfl ?_
    refine x_iload_n dX7_count_104 rfl rfl ?_
    refine x_iconst (v := 4) dX7_count_105 (by decide) ?_
    refine x_isub dX7_count_106 ?_
    refine kX7_120 dX7_count_107 rfl (by assumption) (c_manyIn hm haN xP xB) (by decide) (Nat.le_of_ble_eq_true rfl) ?_
    refine x_ireturn dX7_count_110 rfl rfl ?_
    first
    | exact qR_of (by rw [o_count, if_neg w_0, if_neg w_1, if_neg w_2, if_neg w_3, if_neg w_4, if_pos w_5, w_5]; rfl) rfl hX frM_rfl
    | exact qR_of (by rw [o_count, if_neg w_0, if_neg w_1, if_neg w_2, if_neg w_3, if_neg w_4, if_neg w_5, if_pos w_6, w_6]; rfl) rfl hX frM_rfl
    | exact qR_of (by rw [o_count, if_neg w_0, if_neg w_1, if_neg w_2, if_neg w_3, if_neg w_4, if_neg w_5, if_neg w_6, if_pos w_7, w_7]; rfl) rfl hX frM_rfl
  by_cases w_7 : w = 7
  · refine x_tableIn (tgt := 99) dX7_count_1 (by rw [w_7]; decide) (by rw [w_7]; decide) (by rw [w_7]; rfl) (by decide) ?_
    refine x_aload_n dX7_count_99 rfl rfl ?_
    refine x_aload_n dX7_count_100 rfl rfl ?_
    refine gX7_41 dX7_count_101 rfl (by assumption) rfl ?_
    refine x_iload_n dX7_count_104 rfl rfl ?_
    refine x_iconst (v := 4) dX7_count_105 (by decide) ?_
    refine x_isub dX7_count_106 ?_
    refine kX7_120 dX7_count_107 rfl (by assumption) (c_manyIn hm haN xP xB) (by decide) (Nat.le_of_ble_eq_true rfl) ?_
    refine x_ireturn dX7_count_110 rfl rfl ?_
    first
    | exact qR_of (by rw [o_count, if_neg w_0, if_neg w_1, if_neg w_2, if_neg w_3, if_neg w_4, if_pos w_5, w_5]; rfl) rfl hX frM_rfl
    | exact qR_of (by rw [o_count, if_neg w_0, if_neg w_1, if_neg w_2, if_neg w_3, if_neg w_4, if_neg w_5, if_pos w_6, w_6]; rfl) rfl hX frM_rfl
    | exact qR_of (by rw [o_count, if_neg w_0, if_neg w_1, if_neg w_2, if_neg w_3, if_neg w_4, if_neg w_5, if_neg w_6, if_pos w_7, w_7]; rfl) rfl hX frM_rfl
  by_cases w_8 : w = 8
  · refine x_tableIn (tgt := 111) dX7_count_1 (by rw [w_8]; decide) (by rw [w_8]; decide) (by rw [w_8]; rfl) (by decide) ?_
    refine x_aload_n dX7_count_111 rfl rfl ?_
    refine gX7_111 dX7_count_112 rfl (by assumption) rfl ?_
    refine x_ireturn dX7_count_115 rfl rfl ?_
    exact qR_of (by rw [o_count, if_neg w_0, if_neg w_1, if_neg w_2, if_neg w_3, if_neg w_4, if_neg w_5, if_neg w_6, if_neg w_7, if_pos w_8]) (xF.2.1) hX frM_rfl
  by_cases w_9 : w = 9
  · refine x_tableIn (tgt := 116) dX7_count_1 (by rw [w_9]; decide) (by rw [w_9]; decide) (by rw [w_9]; rfl) (by decide) ?_
    refine x_aload_n dX7_count_116 rfl rfl ?_
    refine gX7_108 dX7_count_117 rfl (by assumption) rfl ?_
    refine x_ireturn dX7_count_120 rfl rfl ?_
    exact qR_of (by rw [o_count, if_neg w_0, if_neg w_1, if_neg w_2, if_neg w_3, if_neg w_4, if_neg w_5, if_neg w_6, if_neg w_7, if_neg w_8, if_pos w_9]) (xA.2.1) hX frM_rfl
  by_cases w_10 : w = 10
  · refine x_tableIn (tgt := 121) dX7_count_1 (by rw [w_10]; decide) (by rw [w_10]; decide) (by rw [w_10]; rfl) (by decide) ?_
    refine x_aload_n dX7_count_121 rfl rfl ?_
    refine gX7_114 dX7_count_122 rfl (by assumption) rfl ?_
    refine x_ireturn dX7_count_125 rfl rfl ?_
    exact qR_of (by rw [o_count, if_neg w_0, if_neg w_1, if_neg w_2, if_neg w_3, if_neg w_4, if_neg w_5, if_neg w_6, if_neg w_7, if_neg w_8, if_neg w_9, if_pos w_10]) (xE.2.1) hX frM_rfl
  by_cases w_11 : w = 11
  · refine x_tableIn (tgt := 126) dX7_count_1 (by rw [w_11]; decide) (by rw [w_11]; decide) (by rw [w_11]; rfl) (by decide) ?_
    refine x_aload_n dX7_count_126 rfl rfl ?_
    refine gX7_82 dX7_count_127 rfl (by assumption) rfl ?_
    refine x_ireturn dX7_count_130 rfl rfl ?_
    exact qR_of (by rw [o_count, if_neg w_0, if_neg w_1, if_neg w_2, if_neg w_3, if_neg w_4, if_neg w_5, if_neg w_6, if_neg w_7, if_neg w_8, if_neg w_9, if_neg w_10, if_pos w_11]) (xT.2.1) hX frM_rfl
  refine x_tableOut (tgt := 131) dX7_count_1 (by have z0 := sw_ne (n := 0) (by decide) w_0; have z1 := sw_ne (n := 1) (by decide) w_1; have z2 := sw_ne (n := 2) (by decide) w_2; have z3 := sw_ne (n := 3) (by decide) w_3; have z4 := sw_ne (n := 4) (by decide) w_4; have z5 := sw_ne (n := 5) (by decide) w_5; have z6 := sw_ne (n := 6) (by decide) w_6; have z7 := sw_ne (n := 7) (by decide) w_7; have z8 := sw_ne (n := 8) (by decide) w_8; have z9 := sw_ne (n := 9) (by decide) w_9; have z10 := sw_ne (n := 10) (by decide) w_10; have z11 := sw_ne (n := 11) (by decide) w_11; omega) (by decide) ?_
  refine x_iconst (v := (-1)) dX7_count_131 (by decide) ?_
  refine x_ireturn dX7_count_132 rfl rfl ?_
  exact qR_of (by rw [o_count, if_neg w_0, if_neg w_1, if_neg w_2, if_neg w_3, if_neg w_4, if_neg w_5, if_neg w_6, if_neg w_7, if_neg w_8, if_neg w_9, if_neg w_10, if_neg w_11]) rfl hX frM_rfl
