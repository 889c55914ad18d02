set_option maxHeartbeats 1000000 in
set_option maxRecDepth 20000 in
theorem lm_fault {B : sB} {S : sSt} {L : Nat} {t : Nat → Nat} (hm : shM B) (hT : tM S t L) :
    ∀ (k p : Nat) (d : aD) (S0 : sSt), L ≤ p + k → p ≤ L → frI S S0 → S0 102 10 = nI p → dM S0 d → WS B (fun _ => True) yX7_fault cX7_fault 2 (some .int) 5 43 [(0, .ref (s_ad B 102))] [] S0 (fun v S1 => v = some (.int (oI (fltU t L k p d).1)) ∧ frI S S1 ∧ ((fltU t L k p d).1 = none → dM S1 (fltU t L k p d).2)) := by
  obtain ⟨hm0, h103, h104, h105, h106, h107, h108, h109, h110, h111, h112, h113, h114, h115, h116, h117, h118, h119, h120, h121, h122⟩ := id hm
  intro k
  induction k with
  | zero =>
    intro p d S0 hk hpL hf hat hd
    have hT0 := tM_I hf hT
    have hL2 := hT.1
    refine x_aload_n dX7_fault_43 rfl rfl ?_
    refine gX7_86 dX7_fault_44 rfl (by assumption) rfl ?_
    refine x_aload_n dX7_fault_47 rfl rfl ?_
    refine gX7_82 dX7_fault_48 rfl (by assumption) rfl ?_
    rw [hat, hT0.2.1]
    refine x_icmp_ge (tgt := 80) dX7_fault_51 (by decide) (fun c_51 => ?_) (fun c_51 => ?_)
    · refine x_bipush (v := (-4)) dX7_fault_80 (by decide) ?_
      refine x_ireturn dX7_fault_82 rfl rfl ?_
      exact ⟨rfl, hf, fun _ => hd⟩
    · exact absurd (nI_le (by omega) (by omega)) c_51
  | succ k ih =>
    intro p d S0 hk hpL hf hat hd
    have hT0 := tM_I hf hT
    have hL2 := hT.1
    refine x_aload_n dX7_fault_43 rfl rfl ?_
    refine gX7_86 dX7_fault_44 rfl (by assumption) rfl ?_
    refine x_aload_n dX7_fault_47 rfl rfl ?_
    refine gX7_82 dX7_fault_48 rfl (by assumption) rfl ?_
    rw [hat, hT0.2.1]
    refine x_icmp_ge (tgt := 80) dX7_fault_51 (by decide) (fun c_51 => ?_) (fun c_51 => ?_)
    · have hlt : ¬ p < L := fun h => absurd c_51 (nI_ge h (by omega))
      refine x_bipush (v := (-4)) dX7_fault_80 (by decide) ?_
      refine x_ireturn dX7_fault_82 rfl rfl ?_
      rw [fltU, if_neg hlt]
      exact ⟨rfl, hf, fun _ => hd⟩
    · have hlt : p < L := by
        rcases Nat.lt_or_ge p L with h | h
        · exact h
        · exact absurd (nI_le h (by omega)) c_51
      refine x_aload_n dX7_fault_54 rfl rfl ?_
      refine gX7_86 dX7_fault_55 rfl (by assumption) rfl ?_
      rw [hat]
      refine x_istore_n (lv' := [(1, _), (0, _)]) dX7_fault_58 rfl (by decide) rfl ?_
      refine x_aload_n dX7_fault_59 rfl rfl ?_
      refine x_iconst (v := 1) dX7_fault_60 (by decide) ?_
      refine pX7_93 dX7_fault_61 rfl (by assumption) rfl rfl rfl ?_
      refine x_gen (Pz := fun S' => S' 102 11 = 1 ∧ S' 102 10 = nI p ∧ frJ S0 S') ⟨by rw [s_put_eq, if_pos rfl], by rw [s_put_eq, if_neg (by decide)]; exact hat, ⟨fun b x y => s_put_ne x, fun j x y => by rw [s_put_eq, if_neg y]⟩⟩ (fun S1 H1 => ?_)
      obtain ⟨g1, g2, g3⟩ := H1
      refine x_aload_n dX7_fault_64 rfl rfl ?_
      refine kX7_105r dX7_fault_65 rfl (by assumption) (cm_readItem hm (tM_J g3 hT0) g2 hlt g1 (dM_J g3 hd)) (by decide) (Nat.le_of_ble_eq_true rfl) (fun S2 hq => ?_)
      obtain ⟨-, q2, q3⟩ := hq
      refine x_aload_n dX7_fault_68 rfl rfl ?_
      refine gX7_93 dX7_fault_69 rfl (by assumption) rfl ?_
      refine x_if_ne (tgt := 77) dX7_fault_72 (by decide) (fun c_72 => ?_) (fun c_72 => ?_)
      · refine x_goto (tgt := 43) dX7_fault_77 (by decide) ?_
        refine x_wk [1] rfl ?_
        obtain ⟨x, hx⟩ : ∃ x, itmF t L p d = some x := by
          cases hx : itmF t L p d with
          | none => rw [hx] at q3; exact absurd q3 c_72
          | some x => exact ⟨x, rfl⟩
        obtain ⟨q, d1⟩ := x
        rw [hx] at q3
        have hq9 := itmF_le hx hlt
        rw [fltU, if_pos hlt, hx]
        exact ih q d1 S2 (by omega) hq9.2 (frI_trans hf (frI_trans (frI_J g3) q2)) q3.2.1 q3.2.2
      · refine x_iload_n dX7_fault_75 rfl rfl ?_
        refine x_ireturn dX7_fault_76 rfl rfl ?_
        have hn : itmF t L p d = none := by
          cases hx : itmF t L p d with
          | none => rfl
          | some x => rw [hx] at q3; exact absurd (c_72.symm.trans q3.1) (by decide)
        rw [fltU, if_pos hlt, hn]
        exact ⟨rfl, frI_trans hf (frI_trans (frI_J g3) q2), fun h => by cases h⟩

set_option maxHeartbeats 1000000 in
set_option maxRecDepth 20000 in
theorem c_fault {B : sB} {S : sSt} {L : Nat} {t : Nat → Nat} (hm : shM B) (hT : tM S t L) : CS B yX7_fault cX7_fault 2 (some .int) 5 [.ref (s_ad B 102)] S (fun v S1 => v = some (.int (oI (fltF t L).1)) ∧ frI S S1 ∧ ((fltF t L).1 = none → dM S1 (fltF t L).2)) := by
  refine cs_intro (lv := [(0, .ref (s_ad B 102))]) rfl ?_
  obtain ⟨hm0, h103, h104, h105, h106, h107, h108, h109, h110, h111, h112, h113, h114, h115, h116, h117, h118, h119, h120, h121, h122⟩ := id hm
  refine x_aload_n dX7_fault_0 rfl rfl ?_
  refine gX7_13 dX7_fault_1 rfl (by assumption) rfl ?_
  refine x_iconst (v := 1) dX7_fault_4 (by decide) ?_
  refine x_iconst (v := 0) dX7_fault_5 (by decide) ?_
  refine x_iastN (j := 1) (by assumption) dX7_fault_6 (by decide) (by decide) ?_
  refine x_aload_n dX7_fault_7 rfl rfl ?_
  refine gX7_17 dX7_fault_8 rfl (by assumption) rfl ?_
  refine x_iconst (v := 1) dX7_fault_11 (by decide) ?_
  refine x_bipush (v := 18) dX7_fault_12 (by decide) ?_
  refine x_iastN (j := 1) (by assumption) dX7_fault_14 (by decide) (by decide) ?_
  refine x_aload_n dX7_fault_15 rfl rfl ?_
  refine gX7_20 dX7_fault_16 rfl (by assumption) rfl ?_
  refine x_iconst (v := 1) dX7_fault_19 (by decide) ?_
  refine x_iconst (v := 3) dX7_fault_20 (by decide) ?_
  refine x_iastN (j := 1) (by assumption) dX7_fault_21 (by decide) (by decide) ?_
  refine x_aload_n dX7_fault_22 rfl rfl ?_
  refine gX7_23 dX7_fault_23 rfl (by assumption) rfl ?_
  refine x_iconst (v := 1) dX7_fault_26 (by decide) ?_
  refine x_bipush (v := 8) dX7_fault_27 (by decide) ?_
  refine x_iastN (j := 1) (by assumption) dX7_fault_29 (by decide) (by decide) ?_
  refine x_aload_n dX7_fault_30 rfl rfl ?_
  refine gX7_26 dX7_fault_31 rfl (by assumption) rfl ?_
  refine x_iconst (v := 1) dX7_fault_34 (by decide) ?_
  refine x_bipush (v := 12) dX7_fault_35 (by decide) ?_
  refine x_iastN (j := 1) (by assumption) dX7_fault_37 (by decide) (by decide) ?_
  refine x_aload_n dX7_fault_38 rfl rfl ?_
  refine x_iconst (v := 0) dX7_fault_39 (by decide) ?_
  refine pX7_86 dX7_fault_40 rfl (by assumption) rfl ?_
  refine lm_fault hm hT 200 0 d0 _ (by have := hT.1; omega) (Nat.zero_le _) ?_ (by rw [s_put_eq, if_pos rfl]; rfl) ?_
  · refine ⟨fun b x y => by rw [s_put_ne (by omega), s_put_ne (by omega), s_put_ne (by omega), s_put_ne (by omega), s_put_ne (by omega), s_put_ne (by omega)], fun j x y => by rw [s_put_eq, if_neg x, s_put_ne (by omega), s_put_ne (by omega), s_put_ne (by omega), s_put_ne (by omega), s_put_ne (by omega)], ?_, ?_, ?_, fun i hi => ?_⟩
    all_goals simp [s_put]
  · refine ⟨Nat.zero_le _, ?_, ?_, ?_, ?_, ?_, fun i hi => absurd hi (Nat.not_lt_zero i)⟩
    all_goals simp [s_put, d0]
    all_goals rfl

set_option maxHeartbeats 1000000 in
set_option maxRecDepth 20000 in
theorem cM_fault {B : sB} {S : sSt} {L : Nat} {t : Nat → Nat} {P : aP} {r : aR} {acts kept : List aR} {f : aF} (hm : shM B) (hX : RM S ((L, t), P, r, acts, kept, f)) : CS B yX7_fault cX7_fault 2 (some .int) 5 [.ref (s_ad B 102)] S (qR S (o_fault ((L, t), P, r, acts, kept, f))) := by
  obtain ⟨hm0, h103, h104, h105, h106, h107, h108, h109, h110, h111, h112, h113, h114, h115, h116, h117, h118, h119, h120, h121, h122⟩ := id hm
  obtain ⟨xT, xP, xB, xA, xE, xF⟩ := id hX
  have xT : tM S t L := xT
  have xP : pM S P := xP
  have xB : ag (S 113) r := xB
  have xA : aM S acts := xA
  have xE : eM S kept := xE
  have xF : fM S f := xF
  have hn9 : P.1 ≤ 9 := xP.1
  have haN : isA B 113 := ⟨Or.inl rfl, h113⟩
  have haT : isA B 114 := ⟨Or.inr rfl, h114⟩
  refine cs_post (fun v S1 hq => ?_) (c_fault hm xT)
  obtain ⟨q1, q2, q3⟩ := hq
  subst q1
  obtain ⟨hX1, hf1⟩ := RM_frI hX q2
  exact qR_of (o := o_fault ((L, t), P, r, acts, kept, f)) rfl rfl hX1 hf1

set_option maxHeartbeats 1000000 in
set_option maxRecDepth 20000 in
theorem lm_td1 {B : sB} {S : sSt} {Q : Option Value → sSt → Prop} (hm : shM B) (hex : ∀ S1, (∀ j, j < 9 → S1 109 j = S 109 (9 + j) ∧ S1 110 j = S 110 (9 + j) ∧ S1 111 j = S 111 (9 + j)) → (∀ b, b < 109 ∨ 112 ≤ b → S1 b = S b) → WS B (fun _ => True) yX7_takeDraft cX7_takeDraft 2 none 1 95 [(1, .int (nI 9)), (0, .ref (s_ad B 102))] [] S1 Q) :
    ∀ (k i : Nat) (S0 : sSt), i + k = 9 → (∀ j, j < i → S0 109 j = S 109 (9 + j) ∧ S0 110 j = S 110 (9 + j) ∧ S0 111 j = S 111 (9 + j)) → (∀ j, 9 ≤ j → S0 109 j = S 109 j ∧ S0 110 j = S 110 j ∧ S0 111 j = S 111 j) → (∀ b, b < 109 ∨ 112 ≤ b → S0 b = S b) → WS B (fun _ => True) yX7_takeDraft cX7_takeDraft 2 none 1 38 [(1, .int (nI i)), (0, .ref (s_ad B 102))] [] S0 Q := by
  obtain ⟨hm0, h103, h104, h105, h106, h107, h108, h109, h110, h111, h112, h113, h114, h115, h116, h117, h118, h119, h120, h121, h122⟩ := id hm
  intro k
  induction k with
  | zero =>
    intro i S0 hi h1 h2 h3
    refine x_iload_n dX7_takeDraft_38 rfl rfl ?_
    refine x_bipush (v := 9) dX7_takeDraft_39 (by decide) ?_
    refine x_icmp_ge (tgt := 95) dX7_takeDraft_41 (by decide) (fun c_41 => ?_) (fun c_41 => ?_)
    · rw [show i = 9 by omega] at h1 ⊢
      exact hex S0 h1 h3
    · exact absurd (by rw [show i = 9 by omega]; decide) c_41
  | succ k ih =>
    intro i S0 hi h1 h2 h3
    refine x_iload_n dX7_takeDraft_38 rfl rfl ?_
    refine x_bipush (v := 9) dX7_takeDraft_39 (by decide) ?_
    refine x_icmp_ge (tgt := 95) dX7_takeDraft_41 (by decide) (fun c_41 => ?_) (fun c_41 => ?_)
    · exact absurd c_41 (by exact nI_ge (b := 9) (by omega) (by decide))
    · refine x_aload_n dX7_takeDraft_44 rfl rfl ?_
      refine gX7_29 dX7_takeDraft_45 rfl (by assumption) rfl ?_
      refine x_iload_n dX7_takeDraft_48 rfl rfl ?_
      refine x_aload_n dX7_takeDraft_49 rfl rfl ?_
      refine gX7_29 dX7_takeDraft_50 rfl (by assumption) rfl ?_
      refine x_bipush (v := 9) dX7_takeDraft_53 (by decide) ?_
      refine x_iload_n dX7_takeDraft_55 rfl rfl ?_
      refine x_iadd dX7_takeDraft_56 ?_
      first | refine x_re (nI_add 9 _) ?_ | skip
      first | refine x_ialdN (by assumption) dX7_takeDraft_57 (by omega) (by decide) ?_ | refine x_iald (by assumption) dX7_takeDraft_57 (by assumption) ?_
      first | refine x_iastN (by assumption) dX7_takeDraft_58 (by omega) (by decide) ?_ | refine x_iast (by assumption) dX7_takeDraft_58 (by assumption) ?_
      refine x_aload_n dX7_takeDraft_59 rfl rfl ?_
      refine gX7_32 dX7_takeDraft_60 rfl (by assumption) rfl ?_
      refine x_iload_n dX7_takeDraft_63 rfl rfl ?_
      refine x_aload_n dX7_takeDraft_64 rfl rfl ?_
      refine gX7_32 dX7_takeDraft_65 rfl (by assumption) rfl ?_
      refine x_bipush (v := 9) dX7_takeDraft_68 (by decide) ?_
      refine x_iload_n dX7_takeDraft_70 rfl rfl ?_
      refine x_iadd dX7_takeDraft_71 ?_
      first | refine x_re (nI_add 9 _) ?_ | skip
      first | refine x_ialdN (by assumption) dX7_takeDraft_72 (by omega) (by decide) ?_ | refine x_iald (by assumption) dX7_takeDraft_72 (by assumption) ?_
      first | refine x_iastN (by assumption) dX7_takeDraft_73 (by omega) (by decide) ?_ | refine x_iast (by assumption) dX7_takeDraft_73 (by assumption) ?_
      refine x_aload_n dX7_takeDraft_74 rfl rfl ?_
      refine gX7_35 dX7_takeDraft_75 rfl (by assumption) rfl ?_
      refine x_iload_n dX7_takeDraft_78 rfl rfl ?_
      refine x_aload_n dX7_takeDraft_79 rfl rfl ?_
      refine gX7_35 dX7_takeDraft_80 rfl (by assumption) rfl ?_
      refine x_bipush (v := 9) dX7_takeDraft_83 (by decide) ?_
      refine x_iload_n dX7_takeDraft_85 rfl rfl ?_
      refine x_iadd dX7_takeDraft_86 ?_
      first | refine x_re (nI_add 9 _) ?_ | skip
      first | refine x_ialdN (by assumption) dX7_takeDraft_87 (by omega) (by decide) ?_ | refine x_iald (by assumption) dX7_takeDraft_87 (by assumption) ?_
      first | refine x_iastN (by assumption) dX7_takeDraft_88 (by omega) (by decide) ?_ | refine x_iast (by assumption) dX7_takeDraft_88 (by assumption) ?_
      first | refine x_inc1N (lv' := [(1, _), (0, _)]) dX7_takeDraft_89 rfl (by decide) rfl ?_ | refine x_iinc (v := _ + 1) (lv' := [(1, _), (0, _)]) dX7_takeDraft_89 rfl rfl (by decide) rfl ?_
      refine x_goto (tgt := 38) dX7_takeDraft_92 (by decide) ?_
      refine ih (i + 1) _ (by omega) (fun j hj => ?_) (fun j hj => ?_) (fun b hb => by rw [s_put_ne (by omega), s_put_ne (by omega), s_put_ne (by omega)]; exact h3 b hb)
      · by_cases hji : j = i
        · subst hji
          have h4 := h2 (9 + j) (by omega)
          simp [s_put, h4]
        · have h4 := h1 j (by omega)
          simp [s_put, hji, h4]
      · have h4 := h2 j hj
        have hne : ¬ j = i := by omega
        simp [s_put, hne, h4]

set_option maxHeartbeats 1000000 in
set_option maxRecDepth 20000 in
theorem lm_td2 {B : sB} {S : sSt} {Q : Option Value → sSt → Prop} (hm : shM B) (hex : ∀ S1, (∀ j, j < 48 → S1 113 j = 0) → (∀ b, b ≠ 113 → S1 b = S b) → WS B (fun _ => True) yX7_takeDraft cX7_takeDraft 2 none 1 116 [(1, .int (nI 48)), (0, .ref (s_ad B 102))] [] S1 Q) :
    ∀ (k i : Nat) (S0 : sSt), i + k = 48 → (∀ j, j < i → S0 113 j = 0) → (∀ b, b ≠ 113 → S0 b = S b) → WS B (fun _ => True) yX7_takeDraft cX7_takeDraft 2 none 1 97 [(1, .int (nI i)), (0, .ref (s_ad B 102))] [] S0 Q := by
  obtain ⟨hm0, h103, h104, h105, h106, h107, h108, h109, h110, h111, h112, h113, h114, h115, h116, h117, h118, h119, h120, h121, h122⟩ := id hm
  intro k
  induction k with
  | zero =>
    intro i S0 hi h1 h3
    refine x_iload_n dX7_takeDraft_97 rfl rfl ?_
    refine x_bipush (v := 48) dX7_takeDraft_98 (by decide) ?_
    refine x_icmp_ge (tgt := 116) dX7_takeDraft_100 (by decide) (fun c_100 => ?_) (fun c_100 => ?_)
    · rw [show i = 48 by omega] at h1 ⊢
      exact hex S0 h1 h3
    · exact absurd (by rw [show i = 48 by omega]; decide) c_100
  | succ k ih =>
    intro i S0 hi h1 h3
    refine x_iload_n dX7_takeDraft_97 rfl rfl ?_
    refine x_bipush (v := 48) dX7_takeDraft_98 (by decide) ?_
    refine x_icmp_ge (tgt := 116) dX7_takeDraft_100 (by decide) (fun c_100 => ?_) (fun c_100 => ?_)
    · exact absurd c_100 (by exact nI_ge (b := 48) (by omega) (by decide))
    · refine x_aload_n dX7_takeDraft_103 rfl rfl ?_
      refine gX7_41 dX7_takeDraft_104 rfl (by assumption) rfl ?_
      refine x_iload_n dX7_takeDraft_107 rfl rfl ?_
      refine x_iconst (v := 0) dX7_takeDraft_108 (by decide) ?_
      first | refine x_iastN (by assumption) dX7_takeDraft_109 (by omega) (by decide) ?_ | refine x_iast (by assumption) dX7_takeDraft_109 (by assumption) ?_
      first | refine x_inc1N (lv' := [(1, _), (0, _)]) dX7_takeDraft_110 rfl (by decide) rfl ?_ | refine x_iinc (v := _ + 1) (lv' := [(1, _), (0, _)]) dX7_takeDraft_110 rfl rfl (by decide) rfl ?_
      refine x_goto (tgt := 97) dX7_takeDraft_113 (by decide) ?_
      refine ih (i + 1) _ (by omega) (fun j hj => ?_) (fun b hb => by rw [s_put_ne hb]; exact h3 b hb)
      rw [s_put_eq]
      by_cases hji : j = i
      · rw [if_pos hji]
      · rw [if_neg hji]; exact h1 j (by omega)

set_option maxHeartbeats 1000000 in
set_option maxRecDepth 20000 in
theorem lm_td3 {B : sB} {S : sSt} {Q : Option Value → sSt → Prop} (hm : shM B) (hz : ∀ j, j < 48 → S 113 j = 0) (hex : ∀ S1, (∀ j, j < 39 → S1 113 j = 0) → (∀ j, j < 9 → S1 113 (39 + j) = -4) → (∀ b, b ≠ 113 → S1 b = S b) → WS B (fun _ => True) yX7_takeDraft cX7_takeDraft 2 none 1 141 [(1, .int (nI 9)), (0, .ref (s_ad B 102))] [] S1 Q) :
    ∀ (k i : Nat) (S0 : sSt), i + k = 9 → (∀ j, j < 39 → S0 113 j = 0) → (∀ j, j < i → S0 113 (39 + j) = -4) → (∀ b, b ≠ 113 → S0 b = S b) → WS B (fun _ => True) yX7_takeDraft cX7_takeDraft 2 none 1 118 [(1, .int (nI i)), (0, .ref (s_ad B 102))] [] S0 Q := by
  obtain ⟨hm0, h103, h104, h105, h106, h107, h108, h109, h110, h111, h112, h113, h114, h115, h116, h117, h118, h119, h120, h121, h122⟩ := id hm
  intro k
  induction k with
  | zero =>
    intro i S0 hi h1 h2 h3
    refine x_iload_n dX7_takeDraft_118 rfl rfl ?_
    refine x_bipush (v := 9) dX7_takeDraft_119 (by decide) ?_
    refine x_icmp_ge (tgt := 141) dX7_takeDraft_121 (by decide) (fun c_121 => ?_) (fun c_121 => ?_)
    · rw [show i = 9 by omega] at h2 ⊢
      exact hex S0 h1 h2 h3
    · exact absurd (by rw [show i = 9 by omega]; decide) c_121
  | succ k ih =>
    intro i S0 hi h1 h2 h3
    refine x_iload_n dX7_takeDraft_118 rfl rfl ?_
    refine x_bipush (v := 9) dX7_takeDraft_119 (by decide) ?_
    refine x_icmp_ge (tgt := 141) dX7_takeDraft_121 (by decide) (fun c_121 => ?_) (fun c_121 => ?_)
    · exact absurd c_121 (by exact nI_ge (b := 9) (by omega) (by decide))
    · refine x_aload_n dX7_takeDraft_124 rfl rfl ?_
      refine gX7_41 dX7_takeDraft_125 rfl (by assumption) rfl ?_
      refine x_bipush (v := 39) dX7_takeDraft_128 (by decide) ?_
      refine x_iload_n dX7_takeDraft_130 rfl rfl ?_
      refine x_iadd dX7_takeDraft_131 ?_
      first | refine x_re (nI_add 39 _) ?_ | skip
      refine x_bipush (v := (-4)) dX7_takeDraft_132 (by decide) ?_
      first | refine x_iastN (by assumption) dX7_takeDraft_134 (by omega) (by decide) ?_ | refine x_iast (by assumption) dX7_takeDraft_134 (by assumption) ?_
      first | refine x_inc1N (lv' := [(1, _), (0, _)]) dX7_takeDraft_135 rfl (by decide) rfl ?_ | refine x_iinc (v := _ + 1) (lv' := [(1, _), (0, _)]) dX7_takeDraft_135 rfl rfl (by decide) rfl ?_
      refine x_goto (tgt := 118) dX7_takeDraft_138 (by decide) ?_
      refine ih (i + 1) _ (by omega) (fun j hj => by rw [s_put_eq, if_neg (by omega)]; exact h1 j hj) (fun j hj => ?_) (fun b hb => by rw [s_put_ne hb]; exact h3 b hb)
      rw [s_put_eq]
      by_cases hji : j = i
      · rw [if_pos (by omega)]
      · rw [if_neg (by omega)]; exact h2 j (by omega)

set_option maxHeartbeats 1000000 in
set_option maxRecDepth 20000 in
theorem c_takeDraft {B : sB} {S : sSt} {L : Nat} {t : Nat → Nat} {d : aD} (hm : shM B) (hT : tM S t L) (hd : dM S d) : CS B yX7_takeDraft cX7_takeDraft 2 none 1 [.ref (s_ad B 102)] S (fun v S1 => v = none ∧ RM S1 ((L, t), planD d, bgnF d.2.2.1 d.2.2.2.1, [], [], f0) ∧ frM S S1) := by
  refine cs_intro (lv := [(0, .ref (s_ad B 102))]) rfl ?_
  obtain ⟨hm0, h103, h104, h105, h106, h107, h108, h109, h110, h111, h112, h113, h114, h115, h116, h117, h118, h119, h120, h121, h122⟩ := id hm
  obtain ⟨g1, g2, g3, g4, g5, g6, g7⟩ := id hd
  refine x_aload_n dX7_takeDraft_0 rfl rfl ?_
  refine gX7_13 dX7_takeDraft_1 rfl (by assumption) rfl ?_
  refine x_iconst (v := 0) dX7_takeDraft_4 (by decide) ?_
  refine x_aload_n dX7_takeDraft_5 rfl rfl ?_
  refine gX7_13 dX7_takeDraft_6 rfl (by assumption) rfl ?_
  refine x_iconst (v := 1) dX7_takeDraft_9 (by decide) ?_
  refine x_ialdN (j := 1) (by assumption) dX7_takeDraft_10 (by decide) (by decide) ?_
  refine x_iastN (j := 0) (by assumption) dX7_takeDraft_11 (by decide) (by decide) ?_
  refine x_aload_n dX7_takeDraft_12 rfl rfl ?_
  refine gX7_17 dX7_takeDraft_13 rfl (by assumption) rfl ?_
  refine x_iconst (v := 0) dX7_takeDraft_16 (by decide) ?_
  refine x_aload_n dX7_takeDraft_17 rfl rfl ?_
  refine gX7_17 dX7_takeDraft_18 rfl (by assumption) rfl ?_
  refine x_iconst (v := 1) dX7_takeDraft_21 (by decide) ?_
  refine x_ialdN (j := 1) (by assumption) dX7_takeDraft_22 (by decide) (by decide) ?_
  refine x_iastN (j := 0) (by assumption) dX7_takeDraft_23 (by decide) (by decide) ?_
  refine x_aload_n dX7_takeDraft_24 rfl rfl ?_
  refine gX7_26 dX7_takeDraft_25 rfl (by assumption) rfl ?_
  refine x_iconst (v := 0) dX7_takeDraft_28 (by decide) ?_
  refine x_aload_n dX7_takeDraft_29 rfl rfl ?_
  refine gX7_26 dX7_takeDraft_30 rfl (by assumption) rfl ?_
  refine x_iconst (v := 1) dX7_takeDraft_33 (by decide) ?_
  refine x_ialdN (j := 1) (by assumption) dX7_takeDraft_34 (by decide) (by decide) ?_
  refine x_iastN (j := 0) (by assumption) dX7_takeDraft_35 (by decide) (by decide) ?_
  refine x_iconst (v := 0) dX7_takeDraft_36 (by decide) ?_
  refine x_istore_n (lv' := [(1, _), (0, _)]) dX7_takeDraft_37 rfl (by decide) rfl ?_
  refine x_gen (Pz := fun S' => S' 104 0 = nI d.1 ∧ S' 105 0 = d.2.1 ∧ S' 108 0 = d.2.2.2.2.1 ∧ (∀ b, b ≠ 104 → b ≠ 105 → b ≠ 108 → S' b = S b)) ?_ (fun S1 H1 => ?_)
  · refine ⟨?_, ?_, ?_, fun b x y z => by rw [s_put_ne z, s_put_ne y, s_put_ne x]⟩
    · simp [s_put, g2]
    · simp [s_put, g3]
    · simp [s_put, g6]
  obtain ⟨e1, e2, e3, e4⟩ := H1
  refine lm_td1 (S := S1) hm (fun S2 k1 k2 => ?_) 9 0 S1 (by omega) (fun j h => absurd h (Nat.not_lt_zero j)) (fun _ _ => ⟨rfl, rfl, rfl⟩) (fun _ _ => rfl)
  refine x_iconst (v := 0) dX7_takeDraft_95 (by decide) ?_
  refine x_istore_n (lv' := [(1, _), (0, _)]) dX7_takeDraft_96 rfl (by decide) rfl ?_
  refine lm_td2 (S := S2) hm (fun S3 l1 l2 => ?_) 48 0 S2 (by omega) (fun j h => absurd h (Nat.not_lt_zero j)) (fun _ _ => rfl)
  refine x_iconst (v := 0) dX7_takeDraft_116 (by decide) ?_
  refine x_istore_n (lv' := [(1, _), (0, _)]) dX7_takeDraft_117 rfl (by decide) rfl ?_
  refine lm_td3 (S := S3) hm l1 (fun S4 m1 m2 m3 => ?_) 9 0 S3 (by omega) (fun j h => l1 j (by omega)) (fun j h => absurd h (Nat.not_lt_zero j)) (fun _ _ => rfl)
  have n4 : ∀ b, b ≠ 113 → (b < 109 ∨ 112 ≤ b) → S4 b = S1 b := fun b x y => by rw [m3 b x, l2 b x, k2 b y]
  refine x_aload_n dX7_takeDraft_141 rfl rfl ?_
  refine gX7_41 dX7_takeDraft_142 rfl (by assumption) rfl ?_
  refine x_iconst (v := 0) dX7_takeDraft_145 (by decide) ?_
  refine x_aload_n dX7_takeDraft_146 rfl rfl ?_
  refine gX7_20 dX7_takeDraft_147 rfl (by assumption) rfl ?_
  refine x_iconst (v := 1) dX7_takeDraft_150 (by decide) ?_
  refine x_ialdN (j := 1) (by assumption) dX7_takeDraft_151 (by decide) (by decide) ?_
  rw [show S4 106 1 = d.2.2.1 from by rw [n4 106 (by omega) (by omega), e4 106 (by omega) (by omega) (by omega)]; exact g4]
  refine x_iastN (j := 0) (by assumption) dX7_takeDraft_152 (by decide) (by decide) ?_
  refine x_aload_n dX7_takeDraft_153 rfl rfl ?_
  refine gX7_41 dX7_takeDraft_154 rfl (by assumption) rfl ?_
  refine x_iconst (v := 1) dX7_takeDraft_157 (by decide) ?_
  refine x_aload_n dX7_takeDraft_158 rfl rfl ?_
  refine gX7_23 dX7_takeDraft_159 rfl (by assumption) rfl ?_
  refine x_iconst (v := 1) dX7_takeDraft_162 (by decide) ?_
  refine x_ialdN (j := 1) (by assumption) dX7_takeDraft_163 (by decide) (by decide) ?_
  rw [show ∀ v, s_put S4 113 0 v 107 1 = d.2.2.2.1 from fun v => by rw [s_put_ne (by omega), n4 107 (by omega) (by omega), e4 107 (by omega) (by omega) (by omega)]; exact g5]
  refine x_iastN (j := 1) (by assumption) dX7_takeDraft_164 (by decide) (by decide) ?_
  refine x_aload_n dX7_takeDraft_165 rfl rfl ?_
  refine x_iconst (v := 0) dX7_takeDraft_166 (by decide) ?_
  refine pX7_108 dX7_takeDraft_167 rfl (by assumption) rfl ?_
  refine x_aload_n dX7_takeDraft_170 rfl rfl ?_
  refine x_iconst (v := 0) dX7_takeDraft_171 (by decide) ?_
  refine pX7_111 dX7_takeDraft_172 rfl (by assumption) rfl ?_
  refine x_aload_n dX7_takeDraft_175 rfl rfl ?_
  refine x_iconst (v := 0) dX7_takeDraft_176 (by decide) ?_
  refine pX7_114 dX7_takeDraft_177 rfl (by assumption) rfl ?_
  refine x_return dX7_takeDraft_180 rfl ?_
  generalize hS5 : s_put (s_put (s_put (s_put (s_put S4 113 0 d.2.2.1) 113 1 d.2.2.2.1) 102 16 0) 102 25 0) 102 18 0 = S5
  have a1 : ∀ b, b ≠ 113 → b ≠ 102 → S5 b = S4 b := fun b x y => by rw [← hS5, s_put_ne y, s_put_ne y, s_put_ne y, s_put_ne x, s_put_ne x]
  have a2 : ∀ j, j ≠ 16 → j ≠ 25 → j ≠ 18 → S5 102 j = S4 102 j := fun j x y z => by rw [← hS5, s_put_eq, if_neg z, s_put_eq, if_neg y, s_put_eq, if_neg x, s_put_ne (by omega), s_put_ne (by omega)]
  have a3 : ∀ b, b ≠ 113 → b ≠ 102 → (b < 109 ∨ 112 ≤ b) → S5 b = S1 b := fun b x y z => by rw [a1 b x y, n4 b x z]
  have a4 : S5 102 16 = 0 ∧ S5 102 25 = 0 ∧ S5 102 18 = 0 := by rw [← hS5]; simp [s_put]
  refine ⟨rfl, ⟨?_, ?_, ?_, ?_, ?_, ?_⟩, fun a ha => by rw [a3 a (by omega) (by omega) (by omega), e4 a (by omega) (by omega) (by omega)]⟩
  · exact tM_ag (by rw [a2 1 (by decide) (by decide) (by decide), n4 102 (by omega) (by omega), e4 102 (by omega) (by omega) (by omega)]) (by rw [a3 103 (by omega) (by omega) (by omega), e4 103 (by omega) (by omega) (by omega)]) hT
  · refine ⟨g1, by rw [a3 104 (by omega) (by omega) (by omega)]; exact e1, by rw [a3 105 (by omega) (by omega) (by omega)]; exact e2, by rw [a3 108 (by omega) (by omega) (by omega)]; exact e3, fun i hi => ?_⟩
    have hi : i < d.1 := hi
    obtain ⟨c1, c2, c3⟩ := k1 i (by omega)
    have h7 := g7 i hi
    have b9 : ∀ b, b ≠ 113 → b ≠ 102 → S5 b = S2 b := fun b x y => by rw [a1 b x y, m3 b x, l2 b x]
    rw [b9 109 (by omega) (by omega), b9 110 (by omega) (by omega), b9 111 (by omega) (by omega), c1, c2, c3, e4 109 (by omega) (by omega) (by omega), e4 110 (by omega) (by omega) (by omega), e4 111 (by omega) (by omega) (by omega)]
    exact h7
  · intro k hk
    show S5 113 k = bgnF d.2.2.1 d.2.2.2.1 k
    rw [← hS5, s_put_ne (by omega), s_put_ne (by omega), s_put_ne (by omega), s_put_eq, s_put_eq]
    unfold bgnF
    by_cases k0 : k = 0
    · rw [if_neg (by omega), if_pos k0, if_pos k0]
    · by_cases k1' : k = 1
      · rw [if_pos k1', if_neg k0, if_pos k1']
      · rw [if_neg k1', if_neg k0, if_neg k0, if_neg k1']
        by_cases k3 : k < 39
        · rw [if_pos k3]; exact m1 k k3
        · rw [if_neg k3]
          have := m2 (k - 39) (by omega)
          rw [show 39 + (k - 39) = k by omega] at this
          exact this
  · exact ⟨Nat.zero_le _, a4.1, fun i r h => by cases h⟩
  · exact ⟨Nat.zero_le _, a4.2.2, fun i r h => by cases h⟩
  · show fM S5 f0
    exact ⟨Nat.zero_le _, a4.2.1, fun i h => absurd h (Nat.not_lt_zero i)⟩

set_option maxHeartbeats 1000000 in
set_option maxRecDepth 20000 in
theorem cM_lay {B : sB} {S : sSt} {L : Nat} {t : Nat → Nat} {P : aP} {r : aR} {acts kept : List aR} {f : aF} (hm : shM B) (hX : RM S ((L, t), P, r, acts, kept, f)) : CS B yX7_lay cX7_lay 1 (some .int) 6 [.ref (s_ad B 102)] S (qR S (o_lay ((L, t), P, r, acts, kept, f))) := by
  refine cs_intro (lv := [(0, .ref (s_ad B 102))]) rfl ?_
  obtain ⟨hm0, h103, h104, h105, h106, h107, h108, h109, h110, h111, h112, h113, h114, h115, h116, h117, h118, h119, h120, h121, h122⟩ := id hm
  obtain ⟨xT, xP, xB, xA, xE, xF⟩ := id hX
  have xT : tM S t L := xT
  have xP : pM S P := xP
  have xB : ag (S 113) r := xB
  have xA : aM S acts := xA
  have xE : eM S kept := xE
  have xF : fM S f := xF
  have hn9 : P.1 ≤ 9 := xP.1
  have haN : isA B 113 := ⟨Or.inl rfl, h113⟩
  have haT : isA B 114 := ⟨Or.inr rfl, h114⟩
  refine x_aload_n dX7_lay_0 rfl rfl ?_
  refine kX7_117r dX7_lay_1 rfl (by assumption) (c_fault hm xT) (by decide) (Nat.le_of_ble_eq_true rfl) (fun z S1 hq => ?_)
  obtain ⟨q1, q2, q3⟩ := hq
  cases q1
  obtain ⟨hX1, hf1⟩ := RM_frI hX q2
  have hlt : ∀ j, (fltF t L).1 = some j → j < 201 := fun j h => by have := fltU_lt h; have := xT.1; omega
  refine x_bipush (v := (-4)) dX7_lay_4 (by decide) ?_
  refine x_icmp_ne (tgt := 18) dX7_lay_6 (by decide) (fun c_6 => ?_) (fun c_6 => ?_)
  · have hno : ¬ ((fltF t L).1 = none ∧ (fltF t L).2.1 ≠ 0) := fun h => c_6 (by rw [h.1]; rfl)
    refine x_bipush (v := (-2)) dX7_lay_18 (by decide) ?_
    refine x_ireturn dX7_lay_20 rfl rfl ?_
    exact qR_of (by rw [o_lay, if_neg hno]) rfl hX1 hf1
  · have hno1 : (fltF t L).1 = none := by
      cases h : (fltF t L).1 with
      | none => rfl
      | some j =>
        rw [h] at c_6
        have := hlt j h
        exact absurd c_6 (nI_ne4 (by omega))
    have hd1 := q3 hno1
    refine x_aload_n dX7_lay_9 rfl rfl ?_
    refine gX7_13 dX7_lay_10 rfl (by assumption) rfl ?_
    refine x_iconst (v := 1) dX7_lay_13 (by decide) ?_
    refine x_ialdN (j := 1) (by assumption) dX7_lay_14 (by decide) (by decide) ?_
    rw [hd1.2.1]
    refine x_if_ne (tgt := 21) dX7_lay_15 (by decide) (fun c_15 => ?_) (fun c_15 => ?_)
    · have hyes : (fltF t L).1 = none ∧ (fltF t L).2.1 ≠ 0 := ⟨hno1, fun h => c_15 (by rw [h]; rfl)⟩
      refine x_aload_n dX7_lay_21 rfl rfl ?_
      refine kX7_75r dX7_lay_22 rfl (by assumption) (c_takeDraft hm (tM_I q2 xT) hd1) (by decide) (Nat.le_of_ble_eq_true rfl) (fun S2 hq => ?_)
      obtain ⟨-, hX2, hf2⟩ := hq
      have eg : S2 104 0 = nI (fltF t L).2.1 := hX2.2.1.2.1
      refine x_aload_n dX7_lay_25 rfl rfl ?_
      refine gX7_13 dX7_lay_26 rfl (by assumption) rfl ?_
      refine x_iconst (v := 0) dX7_lay_29 (by decide) ?_
      refine x_ialdN (j := 0) (by assumption) dX7_lay_30 (by decide) (by decide) ?_
      refine x_ireturn dX7_lay_31 rfl rfl ?_
      exact qR_of (by rw [o_lay, if_pos hyes]) eg hX2 (frM_trans hf1 hf2)
    · have hno : ¬ ((fltF t L).1 = none ∧ (fltF t L).2.1 ≠ 0) := fun h => nI_ne0 (by omega) (by have := hd1.1; omega) c_15
      refine x_bipush (v := (-2)) dX7_lay_18 (by decide) ?_
      refine x_ireturn dX7_lay_20 rfl rfl ?_
      exact qR_of (by rw [o_lay, if_neg hno]) rfl hX1 hf1
