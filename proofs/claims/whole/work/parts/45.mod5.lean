set_option maxHeartbeats 1000000 in
set_option maxRecDepth 20000 in
theorem lm_know1 {B : sB} {S : sSt} {Q : Option Value → sSt → Prop} (hm : shM B) (hex : ∀ S1, (∀ j, j < 336 → S1 115 j = S 115 (48 + j)) → (∀ b, b ≠ 115 → S1 b = S b) → WS B (fun _ => True) yX7_know cX7_know 2 none 1 39 [(1, .int (nI 336)), (0, .ref (s_ad B 102))] [] S1 Q) :
    ∀ (k i : Nat) (S0 : sSt), i + k = 336 → (∀ j, j < i → S0 115 j = S 115 (48 + j)) → (∀ j, i ≤ j → S0 115 j = S 115 j) → (∀ b, b ≠ 115 → S0 b = S b) → WS B (fun _ => True) yX7_know cX7_know 2 none 1 11 [(1, .int (nI i)), (0, .ref (s_ad B 102))] [] S0 Q := by
  obtain ⟨hm0, h103, h104, h105, h106, h107, h108, h109, h110, h111, h112, h113, h114, h115, h116, h117, h118, h119, h120, h121, h122⟩ := id hm
  intro k
  induction k with
  | zero =>
    intro i S0 hi h1 h2 h3
    refine x_iload_n dX7_know_11 rfl rfl ?_
    refine x_sipush (v := 336) dX7_know_12 (by decide) ?_
    refine x_icmp_ge (tgt := 39) dX7_know_15 (by decide) (fun c_15 => ?_) (fun c_15 => ?_)
    · rw [show i = 336 by omega] at h1 ⊢
      exact hex S0 h1 h3
    · exact absurd (by rw [show i = 336 by omega]; decide) c_15
  | succ k ih =>
    intro i S0 hi h1 h2 h3
    refine x_iload_n dX7_know_11 rfl rfl ?_
    refine x_sipush (v := 336) dX7_know_12 (by decide) ?_
    refine x_icmp_ge (tgt := 39) dX7_know_15 (by decide) (fun c_15 => ?_) (fun c_15 => ?_)
    · exact absurd c_15 (by exact nI_ge (b := 336) (by omega) (by decide))
    · refine x_aload_n dX7_know_18 rfl rfl ?_
      refine gX7_47 dX7_know_19 rfl (by assumption) rfl ?_
      refine x_iload_n dX7_know_22 rfl rfl ?_
      refine x_aload_n dX7_know_23 rfl rfl ?_
      refine gX7_47 dX7_know_24 rfl (by assumption) rfl ?_
      refine x_bipush (v := 48) dX7_know_27 (by decide) ?_
      refine x_iload_n dX7_know_29 rfl rfl ?_
      refine x_iadd dX7_know_30 ?_
      first | refine x_re (nI_add 48 _) ?_ | skip
      first | refine x_ialdN (by assumption) dX7_know_31 (by omega) (by decide) ?_ | refine x_iald (by assumption) dX7_know_31 (by assumption) ?_
      first | refine x_iastN (by assumption) dX7_know_32 (by omega) (by decide) ?_ | refine x_iast (by assumption) dX7_know_32 (by assumption) ?_
      first | refine x_inc1N (lv' := [(1, _), (0, _)]) dX7_know_33 rfl (by decide) rfl ?_ | refine x_iinc (v := _ + 1) (lv' := [(1, _), (0, _)]) dX7_know_33 rfl rfl (by decide) rfl ?_
      refine x_goto (tgt := 11) dX7_know_36 (by decide) ?_
      refine ih (i + 1) _ (by omega) (fun j hj => ?_) (fun j hj => ?_) (fun b hb => by rw [s_put_ne hb]; exact h3 b hb)
      · rw [s_put_eq]
        by_cases hji : j = i
        · rw [if_pos hji, hji]; exact h2 (48 + i) (by omega)
        · rw [if_neg hji]; exact h1 j (by omega)
      · rw [s_put_eq, if_neg (by omega)]; exact h2 j (by omega)

set_option maxHeartbeats 1000000 in
set_option maxRecDepth 20000 in
theorem lm_know2 {B : sB} {S : sSt} {r : aR} {n : Nat} (hm : shM B) (xB : ag (S 113) r) (hn : n < 8) (hc : S 102 16 = nI n) :
    ∀ (k i : Nat) (S0 : sSt), i + k = 48 → (∀ j, j < i → S0 115 (48 * n + j) = r j) → (∀ j, j < 48 * n → S0 115 j = S 115 j) → (∀ b, b ≠ 115 → S0 b = S b) → WS B (fun _ => True) yX7_know cX7_know 2 none 1 51 [(1, .int (nI i)), (0, .ref (s_ad B 102))] [] S0 (fun v S2 => v = none ∧ S2 102 16 = nI (n + 1) ∧ (∀ j, j < 48 → S2 115 (48 * n + j) = r j) ∧ (∀ j, j < 48 * n → S2 115 j = S 115 j) ∧ (∀ b, b ≠ 115 → b ≠ 102 → S2 b = S b) ∧ ∀ j, j ≠ 16 → S2 102 j = S 102 j) := by
  obtain ⟨hm0, h103, h104, h105, h106, h107, h108, h109, h110, h111, h112, h113, h114, h115, h116, h117, h118, h119, h120, h121, h122⟩ := id hm
  intro k
  induction k with
  | zero =>
    intro i S0 hi h1 h2 h3
    refine x_iload_n dX7_know_51 rfl rfl ?_
    refine x_bipush (v := 48) dX7_know_52 (by decide) ?_
    refine x_icmp_ge (tgt := 83) dX7_know_54 (by decide) (fun c_54 => ?_) (fun c_54 => ?_)
    · refine x_aload_n dX7_know_83 rfl rfl ?_
      refine x_dup dX7_know_84 rfl ?_
      refine gX7_108 dX7_know_85 rfl (by assumption) rfl ?_
      rw [h3 102 (by omega), hc]
      refine x_iconst (v := 1) dX7_know_88 (by decide) ?_
      refine x_iadd dX7_know_89 ?_
      first | refine x_re (nI_add _ _) ?_ | skip
      refine pX7_108 dX7_know_90 rfl (by assumption) rfl ?_
      refine x_return dX7_know_93 rfl ?_
      refine ⟨rfl, by rw [s_put_eq, if_pos rfl], fun j hj => by rw [s_put_ne (by omega)]; exact h1 j (by omega), fun j hj => by rw [s_put_ne (by omega)]; exact h2 j hj, fun b x y => by rw [s_put_ne y]; exact h3 b x, fun j hj => by rw [s_put_eq, if_neg hj, h3 102 (by omega)]⟩
    · exact absurd (by rw [show i = 48 by omega]; decide) c_54
  | succ k ih =>
    intro i S0 hi h1 h2 h3
    refine x_iload_n dX7_know_51 rfl rfl ?_
    refine x_bipush (v := 48) dX7_know_52 (by decide) ?_
    refine x_icmp_ge (tgt := 83) dX7_know_54 (by decide) (fun c_54 => ?_) (fun c_54 => ?_)
    · exact absurd c_54 (by exact nI_ge (b := 48) (by omega) (by decide))
    · refine x_aload_n dX7_know_57 rfl rfl ?_
      refine gX7_47 dX7_know_58 rfl (by assumption) rfl ?_
      refine x_bipush (v := 48) dX7_know_61 (by decide) ?_
      refine x_aload_n dX7_know_63 rfl rfl ?_
      refine gX7_108 dX7_know_64 rfl (by assumption) rfl ?_
      rw [h3 102 (by omega), hc]
      refine x_imul dX7_know_67 ?_
      first | refine x_re (pk_mul 48 _) ?_ | skip
      refine x_iload_n dX7_know_68 rfl rfl ?_
      refine x_iadd dX7_know_69 ?_
      first | refine x_re (nI_add _ _) ?_ | skip
      refine x_aload_n dX7_know_70 rfl rfl ?_
      refine gX7_41 dX7_know_71 rfl (by assumption) rfl ?_
      refine x_iload_n dX7_know_74 rfl rfl ?_
      first | refine x_ialdN (by assumption) dX7_know_75 (by omega) (by decide) ?_ | refine x_iald (by assumption) dX7_know_75 (by assumption) ?_
      first | refine x_iastN (by assumption) dX7_know_76 (by omega) (by decide) ?_ | refine x_iast (by assumption) dX7_know_76 (by assumption) ?_
      first | refine x_inc1N (lv' := [(1, _), (0, _)]) dX7_know_77 rfl (by decide) rfl ?_ | refine x_iinc (v := _ + 1) (lv' := [(1, _), (0, _)]) dX7_know_77 rfl rfl (by decide) rfl ?_
      refine x_goto (tgt := 51) dX7_know_80 (by decide) ?_
      refine ih (i + 1) _ (by omega) (fun j hj => ?_) (fun j hj => ?_) (fun b hb => by rw [s_put_ne hb]; exact h3 b hb)
      · rw [s_put_eq]
        by_cases hji : j = i
        · rw [if_pos (by omega), hji, h3 113 (by omega)]; exact xB i (by omega)
        · rw [if_neg (by omega)]; exact h1 j (by omega)
      · rw [s_put_eq, if_neg (by omega)]; exact h2 j hj

set_option maxHeartbeats 1000000 in
set_option maxRecDepth 20000 in
theorem c_know {B : sB} {S : sSt} {r : aR} {acts : List aR} (hm : shM B) (xB : ag (S 113) r) (xA : aM S acts) : CS B yX7_know cX7_know 2 none 1 [.ref (s_ad B 102)] S (fun v S2 => v = none ∧ aM S2 (pst r acts) ∧ (∀ b, b ≠ 115 → b ≠ 102 → S2 b = S b) ∧ ∀ j, j ≠ 16 → S2 102 j = S 102 j) := by
  refine cs_intro (lv := [(0, .ref (s_ad B 102))]) rfl ?_
  obtain ⟨hm0, h103, h104, h105, h106, h107, h108, h109, h110, h111, h112, h113, h114, h115, h116, h117, h118, h119, h120, h121, h122⟩ := id hm
  refine x_aload_n dX7_know_0 rfl rfl ?_
  refine gX7_108 dX7_know_1 rfl (by assumption) rfl ?_
  rw [xA.2.1]
  refine x_bipush (v := 8) dX7_know_4 (by decide) ?_
  refine x_icmp_ne (tgt := 49) dX7_know_6 (by decide) (fun c_6 => ?_) (fun c_6 => ?_)
  · have h8 : acts.length < 8 := by
      rcases Nat.lt_or_ge acts.length 8 with h | h
      · exact h
      · exact absurd (show nI acts.length = 8 by rw [show acts.length = 8 by have := xA.1; omega]; rfl) c_6
    refine x_iconst (v := 0) dX7_know_49 (by decide) ?_
    refine x_istore_n (lv' := [(1, _), (0, _)]) dX7_know_50 rfl (by decide) rfl ?_
    refine x_post (fun v S3 hq => ?_) (lm_know2 (r := r) hm xB h8 xA.2.1 48 0 S (by omega) (fun j h => absurd h (Nat.not_lt_zero j)) (fun _ _ => rfl) (fun _ _ => rfl))
    obtain ⟨q1, q2, q3, q4, q5, q6⟩ := hq
    refine ⟨q1, ?_, q5, q6⟩
    have hl : pst r acts = r :: acts := by rw [pst, List.take_of_length_le (by rw [List.length_cons]; omega)]
    rw [hl]
    refine ⟨by rw [List.length_cons]; omega, by rw [List.length_cons]; exact q2, fun i r' hr' k hk => ?_⟩
    rw [List.length_cons]
    cases i with
    | zero =>
      cases hr'
      rw [show acts.length + 1 - 1 - 0 = acts.length by omega]
      exact q3 k hk
    | succ i =>
      rw [List.getElem?_cons_succ] at hr'
      have hi := (List.getElem?_eq_some_iff.mp hr').1
      have h := xA.2.2 i r' hr' k hk
      rw [show acts.length + 1 - 1 - (i + 1) = acts.length - 1 - i by omega, q4 _ (by omega)]
      exact h
  · have h8 : acts.length = 8 := (nI_eq (b := 8) (by have := xA.1; omega) (by decide)).mp c_6
    refine x_iconst (v := 0) dX7_know_9 (by decide) ?_
    refine x_istore_n (lv' := [(1, _), (0, _)]) dX7_know_10 rfl (by decide) rfl ?_
    refine lm_know1 hm (fun S1 e1 e2 => ?_) 336 0 S (by omega) (fun j h => absurd h (Nat.not_lt_zero j)) (fun _ _ => rfl) (fun _ _ => rfl)
    refine x_aload_n dX7_know_39 rfl rfl ?_
    refine x_dup dX7_know_40 rfl ?_
    refine gX7_108 dX7_know_41 rfl (by assumption) rfl ?_
    rw [show S1 102 16 = nI 8 from by rw [e2 102 (by omega), xA.2.1, h8]]
    refine x_iconst (v := 1) dX7_know_44 (by decide) ?_
    refine x_isub dX7_know_45 ?_
    refine x_re (b := nI 7) (nI_pred 7) ?_
    refine pX7_108 dX7_know_46 rfl (by assumption) rfl ?_
    refine x_gen (Pz := fun S' => S' 102 16 = nI 7 ∧ (∀ b, b ≠ 102 → S' b = S1 b) ∧ ∀ j, j ≠ 16 → S' 102 j = S1 102 j) ⟨by rw [s_put_eq, if_pos rfl], fun b hb => s_put_ne hb, fun j hj => by rw [s_put_eq, if_neg hj]⟩ (fun S2 H2 => ?_)
    obtain ⟨g1, g2, g3⟩ := H2
    refine x_iconst (v := 0) dX7_know_49 (by decide) ?_
    refine x_istore_n (lv' := [(1, _), (0, _)]) dX7_know_50 rfl (by decide) rfl ?_
    refine x_wk [0, 1] rfl ?_
    refine x_post (fun v S3 hq => ?_) (lm_know2 (r := r) hm (by rw [g2 113 (by omega), e2 113 (by omega)]; exact xB) (by decide) g1 48 0 S2 (by omega) (fun j h => absurd h (Nat.not_lt_zero j)) (fun _ _ => rfl) (fun _ _ => rfl))
    obtain ⟨q1, q2, q3, q4, q5, q6⟩ := hq
    refine ⟨q1, ?_, fun b x y => by rw [q5 b x y, g2 b y, e2 b x], fun j hj => by rw [q6 j hj, g3 j hj, e2 102 (by omega)]⟩
    have hl : (pst r acts).length = 8 := by rw [pst, List.length_take, List.length_cons, h8]; rfl
    refine ⟨by omega, by rw [hl]; exact q2, fun i r' hr' k hk => ?_⟩
    rw [hl]
    have hi : i < 8 := by have := (List.getElem?_eq_some_iff.mp hr').1; omega
    rw [pst, List.getElem?_take, if_pos hi] at hr'
    cases i with
    | zero => cases hr'; exact q3 k hk
    | succ i =>
      rw [List.getElem?_cons_succ] at hr'
      have h := xA.2.2 i r' hr' k hk
      rw [h8] at h
      rw [q4 _ (by omega), g2 115 (by omega), e1 _ (by omega), ← h]
      congr 1
      omega

theorem RM_know {S S1 S2 : sSt} {T : Nat × (Nat → Nat)} {P : aP} {r r' : aR} {acts acts' kept : List aR} {f : aF} (hX : RM S (T, P, r, acts, kept, f)) (hA : aM S1 acts') (h1 : ∀ b, b ≠ 115 → b ≠ 102 → S1 b = S b) (h2 : ∀ j, j ≠ 16 → S1 102 j = S 102 j) (h3 : chM S1 S2 113 r') : RM S2 (T, P, r', acts', kept, f) ∧ frM S S2 := by
  obtain ⟨a1, a2, a3, a4, a5, a6⟩ := hX
  have e : ∀ b, b ≠ 115 → b ≠ 102 → b ≠ 113 → S2 b = S b := fun b x y z => by rw [h3.2 b z, h1 b x y]
  have e2 : ∀ j, j ≠ 16 → S2 102 j = S 102 j := fun j hj => by rw [h3.2 102 (by omega), h2 j hj]
  exact ⟨⟨tM_ag (e2 1 (by decide)) (e 103 (by omega) (by omega) (by omega)) a1, pM_ag (fun b x y => e b (by omega) (by omega) (by omega)) a2, h3.1, aM_ag (by rw [h3.2 102 (by omega)]) (h3.2 115 (by omega)) hA, eM_ag (e2 18 (by decide)) (e 116 (by omega) (by omega) (by omega)) a5, fM_ag (e2 25 (by decide)) (fun a x y => e a (by omega) (by omega) (by omega)) a6⟩, fun a ha => e a (by omega) (by omega) (by omega)⟩

set_option maxHeartbeats 1000000 in
set_option maxRecDepth 20000 in
theorem cM_putIn {B : sB} {S : sSt} {T : Nat × (Nat → Nat)} {P : aP} {r : aR} {acts kept : List aR} {f : aF} (hm : shM B) (hX : RM S (T, P, r, acts, kept, f)) (hI : iA (T, P, r, acts, kept, f)) {x l : Int32} : CS B yX7_putIn cX7_putIn 3 (some .int) 3 [.ref (s_ad B 102), .int x, .int l] S (qR S (o_putIn (T, P, r, acts, kept, f) x l)) := by
  refine cs_intro (lv := [(0, .ref (s_ad B 102)), (1, .int x), (2, .int l)]) rfl ?_
  obtain ⟨hm0, h103, h104, h105, h106, h107, h108, h109, h110, h111, h112, h113, h114, h115, h116, h117, h118, h119, h120, h121, h122⟩ := id hm
  obtain ⟨xT, xP, xB, xA, xE, xF⟩ := id hX
  have xT : tM S T.2 T.1 := xT
  have xP : pM S P := xP
  have xB : ag (S 113) r := xB
  have xA : aM S acts := xA
  have xE : eM S kept := xE
  have xF : fM S f := xF
  have hn9 : P.1 ≤ 9 := xP.1
  have haN : isA B 113 := ⟨Or.inl rfl, h113⟩
  have haT : isA B 114 := ⟨Or.inr rfl, h114⟩
  obtain ⟨jP, jR, jA, jE, jF⟩ := id hI
  have jP : iP P := jP
  have jR : iR P r := jR
  have jF : iF f := jF
  have hn1 : 1 ≤ P.1 := jP.1
  refine x_aload_n dX7_putIn_0 rfl rfl ?_
  refine x_iload_n dX7_putIn_1 rfl rfl ?_
  refine kX7_132 dX7_putIn_2 rfl (by assumption) (cm_isGuest hm hX hn1) (by decide) (Nat.le_of_ble_eq_true rfl) ?_
  refine x_ifeq_b (tgt := 15) dX7_putIn_5 (by decide) (fun c_5 => ?_) (fun c_5 => ?_)
  · refine x_iconst (v := (-1)) dX7_putIn_15 (by decide) ?_
    refine x_ireturn dX7_putIn_16 rfl rfl ?_
    first
    | exact qR_of (by rw [o_putIn, if_neg (by rw [Bool.and_eq_true]; exact fun z => c_5 z.1)]) rfl hX frM_rfl
    | exact qR_of (by rw [o_putIn, if_neg (by rw [Bool.and_eq_true]; exact fun z => c_12 (wn_iff.mp z.2))]) rfl hX frM_rfl
  · have hgk := c_5
    obtain ⟨g, hg, rfl⟩ : ∃ g, g < P.1 ∧ x = nI g := ⟨_, gok_nI c_5⟩
    have hgc : (nI g).toNatClampNeg = g := nI_clamp (by omega)
    refine x_iload_n dX7_putIn_8 rfl rfl ?_
    refine kX7_140 dX7_putIn_9 rfl (cm_isLane) (by decide) (Nat.le_of_ble_eq_true rfl) ?_
    refine x_ifne_b (tgt := 17) dX7_putIn_12 (by decide) (fun c_12 => ?_) (fun c_12 => ?_)
    · have hok : (gok P (nI g) && wn l 0 1) = true := by rw [Bool.and_eq_true]; exact ⟨hgk, wn_iff.mpr c_12⟩
      refine x_aload_n dX7_putIn_17 rfl rfl ?_
      refine x_iload_n dX7_putIn_18 rfl rfl ?_
      refine kX7_143 dX7_putIn_19 rfl (by assumption) (c_isLoose hm xB (by omega)) (by decide) (Nat.le_of_ble_eq_true rfl) ?_
      refine x_ifeq_b (tgt := 37) dX7_putIn_22 (by decide) (fun c_22 => ?_) (fun c_22 => ?_)
      · refine x_bipush (v := (-2)) dX7_putIn_37 (by decide) ?_
        refine x_ireturn dX7_putIn_39 rfl rfl ?_
        first
        | exact qR_of (by rw [o_putIn, if_pos hok, if_neg (by rw [Bool.and_eq_true, hgc]; exact fun z => c_22 z.1)]) rfl hX frM_rfl
        | exact qR_of (by rw [o_putIn, if_pos hok, if_neg (by rw [Bool.and_eq_true, hgc]; exact fun z => c_34 z.2)]) rfl hX frM_rfl
      · refine x_aload_n dX7_putIn_25 rfl rfl ?_
        refine x_aload_n dX7_putIn_26 rfl rfl ?_
        refine gX7_41 dX7_putIn_27 rfl (by assumption) rfl ?_
        refine x_iload_n dX7_putIn_30 rfl rfl ?_
        refine kX7_146 dX7_putIn_31 rfl (by assumption) (c_isFree hm haN xP xB) (by decide) (Nat.le_of_ble_eq_true rfl) ?_
        refine x_ifne_b (tgt := 40) dX7_putIn_34 (by decide) (fun c_34 => ?_) (fun c_34 => ?_)
        · refine x_aload_n dX7_putIn_40 rfl rfl ?_
          refine kX7_149r dX7_putIn_41 rfl (by assumption) (c_know hm xB xA) (by decide) (Nat.le_of_ble_eq_true rfl) (fun S1 hq => ?_)
          obtain ⟨-, xA1, hk1, hk2⟩ := hq
          have xB1 : ag (S1 113) r := by rw [hk1 113 (by omega) (by omega)]; exact xB
          have xP1 : pM S1 P := pM_ag (fun b x y => hk1 b (by omega) (by omega)) xP
          refine x_aload_n dX7_putIn_44 rfl rfl ?_
          refine x_aload_n dX7_putIn_45 rfl rfl ?_
          refine gX7_41 dX7_putIn_46 rfl (by assumption) rfl ?_
          refine x_iload_n dX7_putIn_49 rfl rfl ?_
          refine x_iload_n dX7_putIn_50 rfl rfl ?_
          refine kX7_152r dX7_putIn_51 rfl (by assumption) (c_put haN xB1 (by omega)) (by decide) (Nat.le_of_ble_eq_true rfl) (fun S2 hq => ?_)
          obtain ⟨-, h2⟩ := hq
          obtain ⟨hX2, hf2⟩ := RM_know hX xA1 hk1 hk2 h2
          have xP2 := pM_ch h2 (by omega) xP1
          refine x_aload_n dX7_putIn_54 rfl rfl ?_
          refine x_aload_n dX7_putIn_55 rfl rfl ?_
          refine gX7_41 dX7_putIn_56 rfl (by assumption) rfl ?_
          refine x_iconst (v := 1) dX7_putIn_59 (by decide) ?_
          refine kX7_120 dX7_putIn_60 rfl (by assumption) (c_manyIn hm haN xP2 h2.1) (by decide) (Nat.le_of_ble_eq_true rfl) ?_
          refine x_ireturn dX7_putIn_63 rfl rfl ?_
          exact qR_of (by rw [o_putIn, if_pos hok, if_pos (by rw [Bool.and_eq_true, hgc]; exact ⟨c_22, c_34⟩), hgc]) rfl hX2 hf2
        · refine x_bipush (v := (-2)) dX7_putIn_37 (by decide) ?_
          refine x_ireturn dX7_putIn_39 rfl rfl ?_
          first
          | exact qR_of (by rw [o_putIn, if_pos hok, if_neg (by rw [Bool.and_eq_true, hgc]; exact fun z => c_22 z.1)]) rfl hX frM_rfl
          | exact qR_of (by rw [o_putIn, if_pos hok, if_neg (by rw [Bool.and_eq_true, hgc]; exact fun z => c_34 z.2)]) rfl hX frM_rfl
    · refine x_iconst (v := (-1)) dX7_putIn_15 (by decide) ?_
      refine x_ireturn dX7_putIn_16 rfl rfl ?_
      first
      | exact qR_of (by rw [o_putIn, if_neg (by rw [Bool.and_eq_true]; exact fun z => c_5 z.1)]) rfl hX frM_rfl
      | exact qR_of (by rw [o_putIn, if_neg (by rw [Bool.and_eq_true]; exact fun z => c_12 (wn_iff.mp z.2))]) rfl hX frM_rfl

set_option maxHeartbeats 1000000 in
set_option maxRecDepth 20000 in
theorem lm_pass {B : sB} {S1 : sSt} {P : aP} {n : Nat} (hm : shM B) (hn : n < 100) :
    ∀ (k i c : Nat) (S0 : sSt) (q : aR), i + k = n → pM S0 P → chM S1 S0 113 q → WS B (fun _ => True) yX7_pass cX7_pass 4 (some .int) 3 37 [(3, .int (nI i)), (2, .int (nI c)), (0, .ref (s_ad B 102)), (1, .int (nI n))] [] S0 (fun v S2 => v = some (.int (nI (c + falN P k q))) ∧ chM S1 S2 113 (momN P k q)) := by
  obtain ⟨hm0, h103, h104, h105, h106, h107, h108, h109, h110, h111, h112, h113, h114, h115, h116, h117, h118, h119, h120, h121, h122⟩ := id hm
  have haN : isA B 113 := ⟨Or.inl rfl, h113⟩
  intro k
  induction k with
  | zero =>
    intro i c S0 q hi hP0 H0
    refine x_iload_n dX7_pass_37 rfl rfl ?_
    refine x_iload_n dX7_pass_38 rfl rfl ?_
    refine x_icmp_ge (tgt := 59) dX7_pass_39 (by decide) (fun c_39 => ?_) (fun c_39 => ?_)
    · refine x_iload_n dX7_pass_59 rfl rfl ?_
      refine x_ireturn dX7_pass_60 rfl rfl ?_
      exact ⟨rfl, H0⟩
    · exact absurd (by exact nI_le (by omega) (by omega)) c_39
  | succ k ih =>
    intro i c S0 q hi hP0 H0
    refine x_iload_n dX7_pass_37 rfl rfl ?_
    refine x_iload_n dX7_pass_38 rfl rfl ?_
    refine x_icmp_ge (tgt := 59) dX7_pass_39 (by decide) (fun c_39 => ?_) (fun c_39 => ?_)
    · exact absurd c_39 (by exact nI_ge (by omega) (by omega))
    · refine x_iload_n dX7_pass_42 rfl rfl ?_
      refine x_aload_n dX7_pass_43 rfl rfl ?_
      refine x_aload_n dX7_pass_44 rfl rfl ?_
      refine gX7_41 dX7_pass_45 rfl (by assumption) rfl ?_
      refine kX7_156r dX7_pass_48 rfl (by assumption) (c_moment hm haN hP0 H0.1) (by decide) (Nat.le_of_ble_eq_true rfl) (fun z S2 hq => ?_)
      obtain ⟨q1, hq1⟩ := hq
      cases q1
      have H2 := chM_trans H0 hq1
      have hP2 := pM_ch hq1 (by omega) hP0
      refine x_iadd dX7_pass_51 ?_
      first | refine x_re (nI_add _ _) ?_ | skip
      refine x_istore_n (lv' := [(2, _), (3, _), (0, _), (1, _)]) dX7_pass_52 rfl (by decide) rfl ?_
      first | refine x_inc1N (lv' := [(3, _), (2, _), (0, _), (1, _)]) dX7_pass_53 rfl (by decide) rfl ?_ | refine x_iinc (v := _ + 1) (lv' := [(3, _), (2, _), (0, _), (1, _)]) dX7_pass_53 rfl rfl (by decide) rfl ?_
      refine x_goto (tgt := 37) dX7_pass_56 (by decide) ?_
      rw [momN, falN, show c + (falU P P.1 0 q + falN P k (momF P q)) = (c + falU P P.1 0 q) + falN P k (momF P q) by omega]
      exact ih (i + 1) _ S2 _ (by omega) hP2 H2

set_option maxHeartbeats 1000000 in
set_option maxRecDepth 20000 in
theorem cM_pass {B : sB} {S : sSt} {T : Nat × (Nat → Nat)} {P : aP} {r : aR} {acts kept : List aR} {f : aF} (hm : shM B) (hX : RM S (T, P, r, acts, kept, f)) (hI : iA (T, P, r, acts, kept, f)) {x : Int32} : CS B yX7_pass cX7_pass 4 (some .int) 3 [.ref (s_ad B 102), .int x] S (qR S (o_pass (T, P, r, acts, kept, f) x)) := by
  refine cs_intro (lv := [(0, .ref (s_ad B 102)), (1, .int x)]) rfl ?_
  obtain ⟨hm0, h103, h104, h105, h106, h107, h108, h109, h110, h111, h112, h113, h114, h115, h116, h117, h118, h119, h120, h121, h122⟩ := id hm
  obtain ⟨xT, xP, xB, xA, xE, xF⟩ := id hX
  have xT : tM S T.2 T.1 := xT
  have xP : pM S P := xP
  have xB : ag (S 113) r := xB
  have xA : aM S acts := xA
  have xE : eM S kept := xE
  have xF : fM S f := xF
  have hn9 : P.1 ≤ 9 := xP.1
  have haN : isA B 113 := ⟨Or.inl rfl, h113⟩
  have haT : isA B 114 := ⟨Or.inr rfl, h114⟩
  obtain ⟨jP, jR, jA, jE, jF⟩ := id hI
  have jP : iP P := jP
  have jR : iR P r := jR
  have jF : iF f := jF
  have hn1 : 1 ≤ P.1 := jP.1
  refine x_iload_n dX7_pass_0 rfl rfl ?_
  refine x_iconst (v := 1) dX7_pass_1 (by decide) ?_
  refine x_bipush (v := 60) dX7_pass_2 (by decide) ?_
  refine kX7_78 dX7_pass_4 rfl (c_in) (by decide) (Nat.le_of_ble_eq_true rfl) ?_
  refine x_ifne_b (tgt := 12) dX7_pass_7 (by decide) (fun c_7 => ?_) (fun c_7 => ?_)
  · have hw := wn_iff.mpr c_7
    obtain ⟨n, hn, rfl⟩ : ∃ n, n ≤ 60 ∧ x = nI n := by
      obtain ⟨z1, z2⟩ := c_7
      rw [Int32.le_iff_toInt_le] at z1 z2
      have e1 : (1 : Int32).toInt = 1 := by decide
      have e2 : (60 : Int32).toInt = 60 := by decide
      exact nI_of3 (by omega) (by omega) (by decide)
    have hnc : (nI n).toNatClampNeg = n := nI_clamp (by omega)
    refine x_aload_n dX7_pass_12 rfl rfl ?_
    refine gX7_41 dX7_pass_13 rfl (by assumption) rfl ?_
    refine x_iconst (v := 2) dX7_pass_16 (by decide) ?_
    refine x_ialdN (j := 2) (by assumption) dX7_pass_17 (by decide) (by decide) ?_
    refine x_iload_n dX7_pass_18 rfl rfl ?_
    refine x_iadd dX7_pass_19 ?_
    refine x_sipush (v := 999) dX7_pass_20 (by decide) ?_
    rw [xB 2 (by omega)]
    refine x_icmp_le (tgt := 29) dX7_pass_23 (by decide) (fun c_23 => ?_) (fun c_23 => ?_)
    · refine x_aload_n dX7_pass_29 rfl rfl ?_
      refine kX7_149r dX7_pass_30 rfl (by assumption) (c_know hm xB xA) (by decide) (Nat.le_of_ble_eq_true rfl) (fun S1 hq => ?_)
      obtain ⟨-, xA1, hk1, hk2⟩ := hq
      have xB1 : ag (S1 113) r := by rw [hk1 113 (by omega) (by omega)]; exact xB
      have xP1 : pM S1 P := pM_ag (fun b x y => hk1 b (by omega) (by omega)) xP
      refine x_iconst (v := 0) dX7_pass_33 (by decide) ?_
      refine x_istore_n (lv' := [(2, _), (0, _), (1, _)]) dX7_pass_34 rfl (by decide) rfl ?_
      refine x_iconst (v := 0) dX7_pass_35 (by decide) ?_
      refine x_istore_n (lv' := [(3, _), (2, _), (0, _), (1, _)]) dX7_pass_36 rfl (by decide) rfl ?_
      refine x_post (fun v S2 hq => ?_) (lm_pass hm (by omega) n 0 0 S1 r (by omega) xP1 (chM_rfl xB1))
      obtain ⟨q1, q2⟩ := hq
      obtain ⟨hX2, hf2⟩ := RM_know hX xA1 hk1 hk2 q2
      cases q1
      have hfo := falN_on hn9 n r
      refine qR_of (by rw [o_pass, if_pos hw, if_neg (by rw [Int32.not_lt]; exact c_23), hnc]) ?_ hX2 hf2
      rw [pk_sub (by omega), Nat.zero_add]
      congr 1
      omega
    · refine x_bipush (v := (-2)) dX7_pass_26 (by decide) ?_
      refine x_ireturn dX7_pass_28 rfl rfl ?_
      exact qR_of (by rw [o_pass, if_pos hw, if_pos (by rw [← Int32.not_le]; exact c_23)]) rfl hX frM_rfl
  · refine x_iconst (v := (-1)) dX7_pass_10 (by decide) ?_
    refine x_ireturn dX7_pass_11 rfl rfl ?_
    exact qR_of (by rw [o_pass, if_neg (fun h => c_7 (wn_iff.mp h))]) rfl hX frM_rfl

set_option maxHeartbeats 1000000 in
set_option maxRecDepth 20000 in
theorem cM_knob {B : sB} {S : sSt} {T : Nat × (Nat → Nat)} {P : aP} {r : aR} {acts kept : List aR} {f : aF} (hm : shM B) (hX : RM S (T, P, r, acts, kept, f)) {x : Int32} : CS B yX7_knob cX7_knob 3 (some .int) 2 [.ref (s_ad B 102), .int x] S (qR S (o_knob (T, P, r, acts, kept, f) x)) := by
  refine cs_intro (lv := [(0, .ref (s_ad B 102)), (1, .int x)]) rfl ?_
  obtain ⟨hm0, h103, h104, h105, h106, h107, h108, h109, h110, h111, h112, h113, h114, h115, h116, h117, h118, h119, h120, h121, h122⟩ := id hm
  obtain ⟨xT, xP, xB, xA, xE, xF⟩ := id hX
  have xT : tM S T.2 T.1 := xT
  have xP : pM S P := xP
  have xB : ag (S 113) r := xB
  have xA : aM S acts := xA
  have xE : eM S kept := xE
  have xF : fM S f := xF
  have hn9 : P.1 ≤ 9 := xP.1
  have haN : isA B 113 := ⟨Or.inl rfl, h113⟩
  have haT : isA B 114 := ⟨Or.inr rfl, h114⟩
  refine x_iload_n dX7_knob_0 rfl rfl ?_
  refine x_iconst (v := 1) dX7_knob_1 (by decide) ?_
  refine x_bipush (v := 9) dX7_knob_2 (by decide) ?_
  refine kX7_78 dX7_knob_4 rfl (c_in) (by decide) (Nat.le_of_ble_eq_true rfl) ?_
  refine x_ifne_b (tgt := 12) dX7_knob_7 (by decide) (fun c_7 => ?_) (fun c_7 => ?_)
  · refine x_aload_n dX7_knob_12 rfl rfl ?_
    refine kX7_149r dX7_knob_13 rfl (by assumption) (c_know hm xB xA) (by decide) (Nat.le_of_ble_eq_true rfl) (fun S1 hq => ?_)
    obtain ⟨-, xA1, hk1, hk2⟩ := hq
    have xB1 : ag (S1 113) r := by rw [hk1 113 (by omega) (by omega)]; exact xB
    have xP1 : pM S1 P := pM_ag (fun b x y => hk1 b (by omega) (by omega)) xP
    refine x_aload_n dX7_knob_16 rfl rfl ?_
    refine gX7_41 dX7_knob_17 rfl (by assumption) rfl ?_
    refine x_iconst (v := 0) dX7_knob_20 (by decide) ?_
    refine x_ialdN (j := 0) (by assumption) dX7_knob_21 (by decide) (by decide) ?_
    refine x_istore_n (lv' := [(2, _), (0, _), (1, _)]) dX7_knob_22 rfl (by decide) rfl ?_
    refine x_aload_n dX7_knob_23 rfl rfl ?_
    refine gX7_41 dX7_knob_24 rfl (by assumption) rfl ?_
    refine x_iconst (v := 0) dX7_knob_27 (by decide) ?_
    refine x_iload_n dX7_knob_28 rfl rfl ?_
    refine x_iastN (j := 0) (by assumption) dX7_knob_29 (by decide) (by decide) ?_
    refine x_iload_n dX7_knob_30 rfl rfl ?_
    refine x_ireturn dX7_knob_31 rfl rfl ?_
    obtain ⟨hX2, hf2⟩ := RM_know hX xA1 hk1 hk2 (chM_put (j := 0) (v := x) (chM_rfl xB1))
    exact qR_of (by rw [o_knob, if_pos (wn_iff.mpr c_7)]) (xB1 0 (by omega)) hX2 hf2
  · refine x_iconst (v := (-1)) dX7_knob_10 (by decide) ?_
    refine x_ireturn dX7_knob_11 rfl rfl ?_
    exact qR_of (by rw [o_knob, if_neg (fun h => c_7 (wn_iff.mp h))]) rfl hX frM_rfl

set_option maxHeartbeats 1000000 in
set_option maxRecDepth 20000 in
theorem cM_take {B : sB} {S : sSt} {T : Nat × (Nat → Nat)} {P : aP} {r : aR} {acts kept : List aR} {f : aF} (hm : shM B) (hX : RM S (T, P, r, acts, kept, f)) (hI : iA (T, P, r, acts, kept, f)) {x y : Int32} : CS B yX7_take cX7_take 3 (some .int) 3 [.ref (s_ad B 102), .int x, .int y] S (qR S (o_take (T, P, r, acts, kept, f) x y)) := by
  refine cs_intro (lv := [(0, .ref (s_ad B 102)), (1, .int x), (2, .int y)]) rfl ?_
  obtain ⟨hm0, h103, h104, h105, h106, h107, h108, h109, h110, h111, h112, h113, h114, h115, h116, h117, h118, h119, h120, h121, h122⟩ := id hm
  obtain ⟨xT, xP, xB, xA, xE, xF⟩ := id hX
  have xT : tM S T.2 T.1 := xT
  have xP : pM S P := xP
  have xB : ag (S 113) r := xB
  have xA : aM S acts := xA
  have xE : eM S kept := xE
  have xF : fM S f := xF
  have hn9 : P.1 ≤ 9 := xP.1
  have haN : isA B 113 := ⟨Or.inl rfl, h113⟩
  have haT : isA B 114 := ⟨Or.inr rfl, h114⟩
  obtain ⟨jP, jR, jA, jE, jF⟩ := id hI
  have jP : iP P := jP
  have jR : iR P r := jR
  have jF : iF f := jF
  have hn1 : 1 ≤ P.1 := jP.1
  refine x_aload_n dX7_take_0 rfl rfl ?_
  refine x_iload_n dX7_take_1 rfl rfl ?_
  refine kX7_132 dX7_take_2 rfl (by assumption) (cm_isGuest hm hX hn1) (by decide) (Nat.le_of_ble_eq_true rfl) ?_
  refine x_ifeq_b (tgt := 16) dX7_take_5 (by decide) (fun c_5 => ?_) (fun c_5 => ?_)
  · refine x_iconst (v := (-1)) dX7_take_16 (by decide) ?_
    refine x_ireturn dX7_take_17 rfl rfl ?_
    first
    | exact qR_of (by rw [o_take, if_neg (by rw [Bool.and_eq_true]; exact fun z => c_5 z.1)]) rfl hX frM_rfl
    | exact qR_of (by rw [o_take, if_neg (by rw [Bool.and_eq_true]; exact fun z => c_13 z.2)]) rfl hX frM_rfl
  · have hgk := c_5
    obtain ⟨g, hg, rfl⟩ : ∃ g, g < P.1 ∧ x = nI g := ⟨_, gok_nI c_5⟩
    have hgc : (nI g).toNatClampNeg = g := nI_clamp (by omega)
    refine x_aload_n dX7_take_8 rfl rfl ?_
    refine x_iload_n dX7_take_9 rfl rfl ?_
    refine kX7_132 dX7_take_10 rfl (by assumption) (cm_isGuest hm hX hn1) (by decide) (Nat.le_of_ble_eq_true rfl) ?_
    refine x_ifne_b (tgt := 18) dX7_take_13 (by decide) (fun c_13 => ?_) (fun c_13 => ?_)
    · have hgk2 := c_13
      have hok : (gok P (nI g) && gok P y) = true := by rw [Bool.and_eq_true]; exact ⟨hgk, hgk2⟩
      obtain ⟨s, hs, rfl⟩ : ∃ g, g < P.1 ∧ y = nI g := ⟨_, gok_nI c_13⟩
      have hsc : (nI s).toNatClampNeg = s := nI_clamp (by omega)
      refine x_aload_n dX7_take_18 rfl rfl ?_
      refine x_aload_n dX7_take_19 rfl rfl ?_
      refine gX7_41 dX7_take_20 rfl (by assumption) rfl ?_
      refine x_iload_n dX7_take_23 rfl rfl ?_
      refine x_iload_n dX7_take_24 rfl rfl ?_
      refine kX7_160 dX7_take_25 rfl (by assumption) (c_canTake hm haN xP xB hg hs) (by decide) (Nat.le_of_ble_eq_true rfl) ?_
      refine x_ifne_b (tgt := 34) dX7_take_28 (by decide) (fun c_28 => ?_) (fun c_28 => ?_)
      · refine x_aload_n dX7_take_34 rfl rfl ?_
        refine kX7_149r dX7_take_35 rfl (by assumption) (c_know hm xB xA) (by decide) (Nat.le_of_ble_eq_true rfl) (fun S1 hq => ?_)
        obtain ⟨-, xA1, hk1, hk2⟩ := hq
        have xB1 : ag (S1 113) r := by rw [hk1 113 (by omega) (by omega)]; exact xB
        have xP1 : pM S1 P := pM_ag (fun b x y => hk1 b (by omega) (by omega)) xP
        refine x_aload_n dX7_take_38 rfl rfl ?_
        refine x_aload_n dX7_take_39 rfl rfl ?_
        refine gX7_41 dX7_take_40 rfl (by assumption) rfl ?_
        refine x_iload_n dX7_take_43 rfl rfl ?_
        refine x_iload_n dX7_take_44 rfl rfl ?_
        refine kX7_163r dX7_take_45 rfl (by assumption) (cm_eat haN xB1 (by omega)) (by decide) (Nat.le_of_ble_eq_true rfl) (fun S2 hq => ?_)
        obtain ⟨-, h2⟩ := hq
        obtain ⟨hX2, hf2⟩ := RM_know hX xA1 hk1 hk2 h2
        have xP2 := pM_ch h2 (by omega) xP1
        refine x_aload_n dX7_take_48 rfl rfl ?_
        refine x_aload_n dX7_take_49 rfl rfl ?_
        refine gX7_41 dX7_take_50 rfl (by assumption) rfl ?_
        refine x_iload_n dX7_take_53 rfl rfl ?_
        refine x_iload_n dX7_take_54 rfl rfl ?_
        refine kX7_136 dX7_take_55 rfl (by assumption) (c_isRightFor hm haN xP2 h2.1 hg hs) (by decide) (Nat.le_of_ble_eq_true rfl) ?_
        refine x_ifeq_b (tgt := 65) dX7_take_58 (by decide) (fun c_58 => ?_) (fun c_58 => ?_)
        · refine x_iconst (v := 0) dX7_take_65 (by decide) ?_
          refine x_ireturn dX7_take_66 rfl rfl ?_
          first
          | exact qR_of (by rw [o_take, if_pos hok, if_pos (by rw [hgc, hsc]; exact c_28), hgc, hsc]) (bI_f c_58) hX2 hf2
          | exact qR_of (by rw [o_take, if_pos hok, if_pos (by rw [hgc, hsc]; exact c_28), hgc, hsc]) (bI_t c_58) hX2 hf2
        · refine x_iconst (v := 1) dX7_take_61 (by decide) ?_
          refine x_goto (tgt := 66) dX7_take_62 (by decide) ?_
          refine x_ireturn dX7_take_66 rfl rfl ?_
          first
          | exact qR_of (by rw [o_take, if_pos hok, if_pos (by rw [hgc, hsc]; exact c_28), hgc, hsc]) (bI_f c_58) hX2 hf2
          | exact qR_of (by rw [o_take, if_pos hok, if_pos (by rw [hgc, hsc]; exact c_28), hgc, hsc]) (bI_t c_58) hX2 hf2
      · refine x_bipush (v := (-2)) dX7_take_31 (by decide) ?_
        refine x_ireturn dX7_take_33 rfl rfl ?_
        exact qR_of (by rw [o_take, if_pos hok, if_neg (by rw [hgc, hsc]; exact c_28)]) rfl hX frM_rfl
    · refine x_iconst (v := (-1)) dX7_take_16 (by decide) ?_
      refine x_ireturn dX7_take_17 rfl rfl ?_
      first
      | exact qR_of (by rw [o_take, if_neg (by rw [Bool.and_eq_true]; exact fun z => c_5 z.1)]) rfl hX frM_rfl
      | exact qR_of (by rw [o_take, if_neg (by rw [Bool.and_eq_true]; exact fun z => c_13 z.2)]) rfl hX frM_rfl

set_option maxHeartbeats 1000000 in
set_option maxRecDepth 20000 in
theorem lm_undo {B : sB} {S : sSt} {q : aR} {n : Nat} {Q : Option Value → sSt → Prop} (hm : shM B) (hn : n < 8) (hc : S 102 16 = nI n) (hq : ∀ k, k < 48 → S 115 (48 * n + k) = q k) (hex : ∀ S1, chM S S1 113 q → WS B (fun _ => True) yX7_undo cX7_undo 2 (some .int) 1 54 [(1, .int (nI 48)), (0, .ref (s_ad B 102))] [] S1 Q) :
    ∀ (k i : Nat) (S0 : sSt), i + k = 48 → (∀ j, j < i → S0 113 j = q j) → (∀ b, b ≠ 113 → S0 b = S b) → WS B (fun _ => True) yX7_undo cX7_undo 2 (some .int) 1 22 [(1, .int (nI i)), (0, .ref (s_ad B 102))] [] S0 Q := by
  obtain ⟨hm0, h103, h104, h105, h106, h107, h108, h109, h110, h111, h112, h113, h114, h115, h116, h117, h118, h119, h120, h121, h122⟩ := id hm
  intro k
  induction k with
  | zero =>
    intro i S0 hi h1 h2
    refine x_iload_n dX7_undo_22 rfl rfl ?_
    refine x_bipush (v := 48) dX7_undo_23 (by decide) ?_
    refine x_icmp_ge (tgt := 54) dX7_undo_25 (by decide) (fun c_25 => ?_) (fun c_25 => ?_)
    · rw [show i = 48 by omega] at h1 ⊢
      exact hex S0 ⟨h1, h2⟩
    · exact absurd (by rw [show i = 48 by omega]; decide) c_25
  | succ k ih =>
    intro i S0 hi h1 h2
    refine x_iload_n dX7_undo_22 rfl rfl ?_
    refine x_bipush (v := 48) dX7_undo_23 (by decide) ?_
    refine x_icmp_ge (tgt := 54) dX7_undo_25 (by decide) (fun c_25 => ?_) (fun c_25 => ?_)
    · exact absurd c_25 (by exact nI_ge (b := 48) (by omega) (by decide))
    · refine x_aload_n dX7_undo_28 rfl rfl ?_
      refine gX7_41 dX7_undo_29 rfl (by assumption) rfl ?_
      refine x_iload_n dX7_undo_32 rfl rfl ?_
      refine x_aload_n dX7_undo_33 rfl rfl ?_
      refine gX7_47 dX7_undo_34 rfl (by assumption) rfl ?_
      refine x_bipush (v := 48) dX7_undo_37 (by decide) ?_
      refine x_aload_n dX7_undo_39 rfl rfl ?_
      refine gX7_108 dX7_undo_40 rfl (by assumption) rfl ?_
      rw [h2 102 (by omega), hc]
      refine x_imul dX7_undo_43 ?_
      first | refine x_re (pk_mul 48 _) ?_ | skip
      refine x_iload_n dX7_undo_44 rfl rfl ?_
      refine x_iadd dX7_undo_45 ?_
      first | refine x_re (nI_add _ _) ?_ | skip
      first | refine x_ialdN (by assumption) dX7_undo_46 (by omega) (by decide) ?_ | refine x_iald (by assumption) dX7_undo_46 (by assumption) ?_
      first | refine x_iastN (by assumption) dX7_undo_47 (by omega) (by decide) ?_ | refine x_iast (by assumption) dX7_undo_47 (by assumption) ?_
      first | refine x_inc1N (lv' := [(1, _), (0, _)]) dX7_undo_48 rfl (by decide) rfl ?_ | refine x_iinc (v := _ + 1) (lv' := [(1, _), (0, _)]) dX7_undo_48 rfl rfl (by decide) rfl ?_
      refine x_goto (tgt := 22) dX7_undo_51 (by decide) ?_
      refine ih (i + 1) _ (by omega) (fun j hj => ?_) (fun b hb => by rw [s_put_ne hb]; exact h2 b hb)
      rw [s_put_eq]
      by_cases hji : j = i
      · rw [if_pos hji, hji, h2 115 (by omega)]; exact hq i (by omega)
      · rw [if_neg hji]; exact h1 j (by omega)

set_option maxHeartbeats 1000000 in
set_option maxRecDepth 20000 in
theorem lm_back {B : sB} {S : sSt} {q : aR} {n : Nat} {Q : Option Value → sSt → Prop} (hm : shM B) (hn : n < 8) (hn2 : n < 2) (hc : S 102 18 = nI n) (hq : ∀ k, k < 48 → S 116 (48 * n + k) = q k) (hex : ∀ S1, chM S S1 113 q → WS B (fun _ => True) yX7_back cX7_back 2 (some .int) 1 54 [(1, .int (nI 48)), (0, .ref (s_ad B 102))] [] S1 Q) :
    ∀ (k i : Nat) (S0 : sSt), i + k = 48 → (∀ j, j < i → S0 113 j = q j) → (∀ b, b ≠ 113 → S0 b = S b) → WS B (fun _ => True) yX7_back cX7_back 2 (some .int) 1 22 [(1, .int (nI i)), (0, .ref (s_ad B 102))] [] S0 Q := by
  obtain ⟨hm0, h103, h104, h105, h106, h107, h108, h109, h110, h111, h112, h113, h114, h115, h116, h117, h118, h119, h120, h121, h122⟩ := id hm
  intro k
  induction k with
  | zero =>
    intro i S0 hi h1 h2
    refine x_iload_n dX7_back_22 rfl rfl ?_
    refine x_bipush (v := 48) dX7_back_23 (by decide) ?_
    refine x_icmp_ge (tgt := 54) dX7_back_25 (by decide) (fun c_25 => ?_) (fun c_25 => ?_)
    · rw [show i = 48 by omega] at h1 ⊢
      exact hex S0 ⟨h1, h2⟩
    · exact absurd (by rw [show i = 48 by omega]; decide) c_25
  | succ k ih =>
    intro i S0 hi h1 h2
    refine x_iload_n dX7_back_22 rfl rfl ?_
    refine x_bipush (v := 48) dX7_back_23 (by decide) ?_
    refine x_icmp_ge (tgt := 54) dX7_back_25 (by decide) (fun c_25 => ?_) (fun c_25 => ?_)
    · exact absurd c_25 (by exact nI_ge (b := 48) (by omega) (by decide))
    · refine x_aload_n dX7_back_28 rfl rfl ?_
      refine gX7_41 dX7_back_29 rfl (by assumption) rfl ?_
      refine x_iload_n dX7_back_32 rfl rfl ?_
      refine x_aload_n dX7_back_33 rfl rfl ?_
      refine gX7_50 dX7_back_34 rfl (by assumption) rfl ?_
      refine x_bipush (v := 48) dX7_back_37 (by decide) ?_
      refine x_aload_n dX7_back_39 rfl rfl ?_
      refine gX7_114 dX7_back_40 rfl (by assumption) rfl ?_
      rw [h2 102 (by omega), hc]
      refine x_imul dX7_back_43 ?_
      first | refine x_re (pk_mul 48 _) ?_ | skip
      refine x_iload_n dX7_back_44 rfl rfl ?_
      refine x_iadd dX7_back_45 ?_
      first | refine x_re (nI_add _ _) ?_ | skip
      first | refine x_ialdN (by assumption) dX7_back_46 (by omega) (by decide) ?_ | refine x_iald (by assumption) dX7_back_46 (by assumption) ?_
      first | refine x_iastN (by assumption) dX7_back_47 (by omega) (by decide) ?_ | refine x_iast (by assumption) dX7_back_47 (by assumption) ?_
      first | refine x_inc1N (lv' := [(1, _), (0, _)]) dX7_back_48 rfl (by decide) rfl ?_ | refine x_iinc (v := _ + 1) (lv' := [(1, _), (0, _)]) dX7_back_48 rfl rfl (by decide) rfl ?_
      refine x_goto (tgt := 22) dX7_back_51 (by decide) ?_
      refine ih (i + 1) _ (by omega) (fun j hj => ?_) (fun b hb => by rw [s_put_ne hb]; exact h2 b hb)
      rw [s_put_eq]
      by_cases hji : j = i
      · rw [if_pos hji, hji, h2 116 (by omega)]; exact hq i (by omega)
      · rw [if_neg hji]; exact h1 j (by omega)

set_option maxHeartbeats 1000000 in
set_option maxRecDepth 20000 in
theorem cM_undo {B : sB} {S : sSt} {T : Nat × (Nat → Nat)} {P : aP} {r : aR} {acts kept : List aR} {f : aF} (hm : shM B) (hX : RM S (T, P, r, acts, kept, f)) : CS B yX7_undo cX7_undo 2 (some .int) 1 [.ref (s_ad B 102)] S (qR S (o_undo (T, P, r, acts, kept, f))) := by
  refine cs_intro (lv := [(0, .ref (s_ad B 102))]) rfl ?_
  obtain ⟨hm0, h103, h104, h105, h106, h107, h108, h109, h110, h111, h112, h113, h114, h115, h116, h117, h118, h119, h120, h121, h122⟩ := id hm
  obtain ⟨xT, xP, xB, xA, xE, xF⟩ := id hX
  have xT : tM S T.2 T.1 := xT
  have xP : pM S P := xP
  have xB : ag (S 113) r := xB
  have xA : aM S acts := xA
  have xE : eM S kept := xE
  have xF : fM S f := xF
  have hn9 : P.1 ≤ 9 := xP.1
  have haN : isA B 113 := ⟨Or.inl rfl, h113⟩
  have haT : isA B 114 := ⟨Or.inr rfl, h114⟩
  refine x_aload_n dX7_undo_0 rfl rfl ?_
  refine gX7_108 dX7_undo_1 rfl (by assumption) rfl ?_
  rw [xA.2.1]
  refine x_if_ne (tgt := 10) dX7_undo_4 (by decide) (fun c_4 => ?_) (fun c_4 => ?_)
  · obtain ⟨q, rest, rfl⟩ : ∃ q rest, acts = q :: rest := by
      cases acts with
      | nil => exact absurd rfl c_4
      | cons q rest => exact ⟨q, rest, rfl⟩
    have hlen : rest.length + 1 ≤ 8 := xA.1
    have hx2 : S 102 16 = nI (rest.length + 1) := xA.2.1
    refine x_aload_n dX7_undo_10 rfl rfl ?_
    refine x_dup dX7_undo_11 rfl ?_
    refine gX7_108 dX7_undo_12 rfl (by assumption) rfl ?_
    rw [hx2]
    refine x_iconst (v := 1) dX7_undo_15 (by decide) ?_
    refine x_isub dX7_undo_16 ?_
    refine x_re (nI_pred rest.length) ?_
    refine pX7_108 dX7_undo_17 rfl (by assumption) rfl ?_
    refine x_gen (Pz := fun S' => S' 102 16 = nI rest.length ∧ (∀ b, b ≠ 102 → S' b = S b) ∧ ∀ j, j ≠ 16 → S' 102 j = S 102 j) ⟨by rw [s_put_eq, if_pos rfl], fun b hb => s_put_ne hb, fun j hj => by rw [s_put_eq, if_neg hj]⟩ (fun S1 H1 => ?_)
    obtain ⟨g1, g2, g3⟩ := H1
    refine x_iconst (v := 0) dX7_undo_20 (by decide) ?_
    refine x_istore_n (lv' := [(1, _), (0, _)]) dX7_undo_21 rfl (by decide) rfl ?_
    refine lm_undo (q := q) hm (by omega) g1 (fun k hk => by rw [g2 115 (by omega)]; exact xA.2.2 0 q rfl k hk) (fun S2 h2 => ?_) 48 0 S1 (by omega) (fun j h => absurd h (Nat.not_lt_zero j)) (fun _ _ => rfl)
    refine x_aload_n dX7_undo_54 rfl rfl ?_
    refine gX7_108 dX7_undo_55 rfl (by assumption) rfl ?_
    refine x_ireturn dX7_undo_58 rfl rfl ?_
    have xA1 : aM S1 rest := ⟨by omega, g1, fun i r' hr' k hk => by
      have hi := (List.getElem?_eq_some_iff.mp hr').1
      have h := xA.2.2 (i + 1) r' (by rw [List.getElem?_cons_succ]; exact hr') k hk
      rw [List.length_cons, show rest.length + 1 - 1 - (i + 1) = rest.length - 1 - i by omega] at h
      rw [g2 115 (by omega)]; exact h⟩
    obtain ⟨hX2, hf2⟩ := RM_know hX xA1 (fun b x y => g2 b y) g3 h2
    exact qR_of (by rw [o_undo]) (by rw [h2.2 102 (by omega)]; exact g1) hX2 hf2
  · have he : acts = [] := by
      cases acts with
      | nil => rfl
      | cons q rest => exact absurd c_4 (nI_ne0 (by rw [List.length_cons]; omega) (by have := xA.1; omega))
    subst he
    refine x_bipush (v := (-2)) dX7_undo_7 (by decide) ?_
    refine x_ireturn dX7_undo_9 rfl rfl ?_
    exact qR_of (by rw [o_undo]) rfl hX frM_rfl

set_option maxHeartbeats 1000000 in
set_option maxRecDepth 20000 in
theorem cM_back {B : sB} {S : sSt} {T : Nat × (Nat → Nat)} {P : aP} {r : aR} {acts kept : List aR} {f : aF} (hm : shM B) (hX : RM S (T, P, r, acts, kept, f)) : CS B yX7_back cX7_back 2 (some .int) 1 [.ref (s_ad B 102)] S (qR S (o_back (T, P, r, acts, kept, f))) := by
  refine cs_intro (lv := [(0, .ref (s_ad B 102))]) rfl ?_
  obtain ⟨hm0, h103, h104, h105, h106, h107, h108, h109, h110, h111, h112, h113, h114, h115, h116, h117, h118, h119, h120, h121, h122⟩ := id hm
  obtain ⟨xT, xP, xB, xA, xE, xF⟩ := id hX
  have xT : tM S T.2 T.1 := xT
  have xP : pM S P := xP
  have xB : ag (S 113) r := xB
  have xA : aM S acts := xA
  have xE : eM S kept := xE
  have xF : fM S f := xF
  have hn9 : P.1 ≤ 9 := xP.1
  have haN : isA B 113 := ⟨Or.inl rfl, h113⟩
  have haT : isA B 114 := ⟨Or.inr rfl, h114⟩
  refine x_aload_n dX7_back_0 rfl rfl ?_
  refine gX7_114 dX7_back_1 rfl (by assumption) rfl ?_
  rw [xE.2.1]
  refine x_if_ne (tgt := 10) dX7_back_4 (by decide) (fun c_4 => ?_) (fun c_4 => ?_)
  · obtain ⟨q, rest, rfl⟩ : ∃ q rest, kept = q :: rest := by
      cases kept with
      | nil => exact absurd rfl c_4
      | cons q rest => exact ⟨q, rest, rfl⟩
    have hlen : rest.length + 1 ≤ 2 := xE.1
    have hx2 : S 102 18 = nI (rest.length + 1) := xE.2.1
    refine x_aload_n dX7_back_10 rfl rfl ?_
    refine x_dup dX7_back_11 rfl ?_
    refine gX7_114 dX7_back_12 rfl (by assumption) rfl ?_
    rw [hx2]
    refine x_iconst (v := 1) dX7_back_15 (by decide) ?_
    refine x_isub dX7_back_16 ?_
    refine x_re (nI_pred rest.length) ?_
    refine pX7_114 dX7_back_17 rfl (by assumption) rfl ?_
    refine x_gen (Pz := fun S' => S' 102 18 = nI rest.length ∧ (∀ b, b ≠ 102 → S' b = S b) ∧ ∀ j, j ≠ 18 → S' 102 j = S 102 j) ⟨by rw [s_put_eq, if_pos rfl], fun b hb => s_put_ne hb, fun j hj => by rw [s_put_eq, if_neg hj]⟩ (fun S1 H1 => ?_)
    obtain ⟨g1, g2, g3⟩ := H1
    refine x_iconst (v := 0) dX7_back_20 (by decide) ?_
    refine x_istore_n (lv' := [(1, _), (0, _)]) dX7_back_21 rfl (by decide) rfl ?_
    refine lm_back (q := q) hm (by omega) (by omega) g1 (fun k hk => by rw [g2 116 (by omega)]; exact xE.2.2 0 q rfl k hk) (fun S2 h2 => ?_) 48 0 S1 (by omega) (fun j h => absurd h (Nat.not_lt_zero j)) (fun _ _ => rfl)
    refine x_aload_n dX7_back_54 rfl rfl ?_
    refine x_iconst (v := 0) dX7_back_55 (by decide) ?_
    refine pX7_108 dX7_back_56 rfl (by assumption) rfl ?_
    refine x_aload_n dX7_back_59 rfl rfl ?_
    refine gX7_114 dX7_back_60 rfl (by assumption) rfl ?_
    refine x_ireturn dX7_back_63 rfl rfl ?_
    have e0 : s_put S2 102 16 0 102 18 = nI rest.length := by rw [s_put_eq, if_neg (by decide), h2.2 102 (by omega)]; exact g1
    have q3 : ∀ b, b ≠ 102 → b ≠ 113 → s_put S2 102 16 0 b = S b := fun b x y => by rw [s_put_ne x, h2.2 b y, g2 b x]
    have q4 : ∀ j, j ≠ 16 → j ≠ 18 → s_put S2 102 16 0 102 j = S 102 j := fun j x y => by rw [s_put_eq, if_neg x, h2.2 102 (by omega), g3 j y]
    refine qR_of (A' := (T, P, q, [], rest, f)) (by rw [o_back]) e0 ⟨tM_ag (q4 1 (by decide) (by decide)) (q3 103 (by omega) (by omega)) xT, pM_ag (fun b x y => q3 b (by omega) (by omega)) xP, by show ag (s_put S2 102 16 0 113) q; rw [s_put_ne (by omega)]; exact h2.1, ⟨Nat.zero_le _, by rw [s_put_eq, if_pos rfl]; rfl, fun i r' h => by cases h⟩, ⟨by show rest.length ≤ 2; omega, e0, fun i r' hr' k hk => ?_⟩, fM_ag (q4 25 (by decide) (by decide)) (fun a x y => q3 a (by omega) (by omega)) xF⟩ (fun a ha => q3 a (by omega) (by omega))
    have hr' : rest[i]? = some r' := hr'
    have hi := (List.getElem?_eq_some_iff.mp hr').1
    have h := xE.2.2 (i + 1) r' (by rw [List.getElem?_cons_succ]; exact hr') k hk
    rw [List.length_cons, show rest.length + 1 - 1 - (i + 1) = rest.length - 1 - i by omega] at h
    rw [q3 116 (by omega) (by omega)]; exact h
  · have he : kept = [] := by
      cases kept with
      | nil => rfl
      | cons q rest => exact absurd c_4 (nI_ne0 (by rw [List.length_cons]; omega) (by have := xE.1; omega))
    subst he
    refine x_bipush (v := (-2)) dX7_back_7 (by decide) ?_
    refine x_ireturn dX7_back_9 rfl rfl ?_
    exact qR_of (by rw [o_back]) rfl hX frM_rfl

set_option maxHeartbeats 1000000 in
set_option maxRecDepth 20000 in
theorem lm_keep {B : sB} {S : sSt} {r : aR} {n : Nat} (hm : shM B) (xB : ag (S 113) r) (hn : n < 2) (hc : S 102 18 = nI n) :
    ∀ (k i : Nat) (S0 : sSt), i + k = 48 → (∀ j, j < i → S0 116 (48 * n + j) = r j) → (∀ j, j < 48 * n → S0 116 j = S 116 j) → (∀ b, b ≠ 116 → S0 b = S b) → WS B (fun _ => True) yX7_keep cX7_keep 2 (some .int) 1 13 [(1, .int (nI i)), (0, .ref (s_ad B 102))] [] S0 (fun v S2 => v = some (.int (nI (n + 1))) ∧ S2 102 18 = nI (n + 1) ∧ (∀ j, j < 48 → S2 116 (48 * n + j) = r j) ∧ (∀ j, j < 48 * n → S2 116 j = S 116 j) ∧ (∀ b, b ≠ 116 → b ≠ 102 → S2 b = S b) ∧ ∀ j, j ≠ 18 → S2 102 j = S 102 j) := by
  obtain ⟨hm0, h103, h104, h105, h106, h107, h108, h109, h110, h111, h112, h113, h114, h115, h116, h117, h118, h119, h120, h121, h122⟩ := id hm
  intro k
  induction k with
  | zero =>
    intro i S0 hi h1 h2 h3
    refine x_iload_n dX7_keep_13 rfl rfl ?_
    refine x_bipush (v := 48) dX7_keep_14 (by decide) ?_
    refine x_icmp_ge (tgt := 45) dX7_keep_16 (by decide) (fun c_16 => ?_) (fun c_16 => ?_)
    · refine x_aload_n dX7_keep_45 rfl rfl ?_
      refine x_dup dX7_keep_46 rfl ?_
      refine gX7_114 dX7_keep_47 rfl (by assumption) rfl ?_
      rw [h3 102 (by omega), hc]
      refine x_iconst (v := 1) dX7_keep_50 (by decide) ?_
      refine x_iadd dX7_keep_51 ?_
      first | refine x_re (nI_add _ _) ?_ | skip
      refine pX7_114 dX7_keep_52 rfl (by assumption) rfl ?_
      refine x_aload_n dX7_keep_55 rfl rfl ?_
      refine gX7_114 dX7_keep_56 rfl (by assumption) rfl ?_
      refine x_ireturn dX7_keep_59 rfl rfl ?_
      refine ⟨by rw [s_put_eq, if_pos rfl], by rw [s_put_eq, if_pos rfl], fun j hj => by rw [s_put_ne (by omega)]; exact h1 j (by omega), fun j hj => by rw [s_put_ne (by omega)]; exact h2 j hj, fun b x y => by rw [s_put_ne y]; exact h3 b x, fun j hj => by rw [s_put_eq, if_neg hj, h3 102 (by omega)]⟩
    · exact absurd (by rw [show i = 48 by omega]; decide) c_16
  | succ k ih =>
    intro i S0 hi h1 h2 h3
    refine x_iload_n dX7_keep_13 rfl rfl ?_
    refine x_bipush (v := 48) dX7_keep_14 (by decide) ?_
    refine x_icmp_ge (tgt := 45) dX7_keep_16 (by decide) (fun c_16 => ?_) (fun c_16 => ?_)
    · exact absurd c_16 (by exact nI_ge (b := 48) (by omega) (by decide))
    · refine x_aload_n dX7_keep_19 rfl rfl ?_
      refine gX7_50 dX7_keep_20 rfl (by assumption) rfl ?_
      refine x_bipush (v := 48) dX7_keep_23 (by decide) ?_
      refine x_aload_n dX7_keep_25 rfl rfl ?_
      refine gX7_114 dX7_keep_26 rfl (by assumption) rfl ?_
      rw [h3 102 (by omega), hc]
      refine x_imul dX7_keep_29 ?_
      first | refine x_re (pk_mul 48 _) ?_ | skip
      refine x_iload_n dX7_keep_30 rfl rfl ?_
      refine x_iadd dX7_keep_31 ?_
      first | refine x_re (nI_add _ _) ?_ | skip
      refine x_aload_n dX7_keep_32 rfl rfl ?_
      refine gX7_41 dX7_keep_33 rfl (by assumption) rfl ?_
      refine x_iload_n dX7_keep_36 rfl rfl ?_
      first | refine x_ialdN (by assumption) dX7_keep_37 (by omega) (by decide) ?_ | refine x_iald (by assumption) dX7_keep_37 (by assumption) ?_
      first | refine x_iastN (by assumption) dX7_keep_38 (by omega) (by decide) ?_ | refine x_iast (by assumption) dX7_keep_38 (by assumption) ?_
      first | refine x_inc1N (lv' := [(1, _), (0, _)]) dX7_keep_39 rfl (by decide) rfl ?_ | refine x_iinc (v := _ + 1) (lv' := [(1, _), (0, _)]) dX7_keep_39 rfl rfl (by decide) rfl ?_
      refine x_goto (tgt := 13) dX7_keep_42 (by decide) ?_
      refine ih (i + 1) _ (by omega) (fun j hj => ?_) (fun j hj => ?_) (fun b hb => by rw [s_put_ne hb]; exact h3 b hb)
      · rw [s_put_eq]
        by_cases hji : j = i
        · rw [if_pos (by omega), hji, h3 113 (by omega)]; exact xB i (by omega)
        · rw [if_neg (by omega)]; exact h1 j (by omega)
      · rw [s_put_eq, if_neg (by omega)]; exact h2 j hj

set_option maxHeartbeats 1000000 in
set_option maxRecDepth 20000 in
theorem cM_keep {B : sB} {S : sSt} {T : Nat × (Nat → Nat)} {P : aP} {r : aR} {acts kept : List aR} {f : aF} (hm : shM B) (hX : RM S (T, P, r, acts, kept, f)) : CS B yX7_keep cX7_keep 2 (some .int) 1 [.ref (s_ad B 102)] S (qR S (o_keep (T, P, r, acts, kept, f))) := by
  refine cs_intro (lv := [(0, .ref (s_ad B 102))]) rfl ?_
  obtain ⟨hm0, h103, h104, h105, h106, h107, h108, h109, h110, h111, h112, h113, h114, h115, h116, h117, h118, h119, h120, h121, h122⟩ := id hm
  obtain ⟨xT, xP, xB, xA, xE, xF⟩ := id hX
  have xT : tM S T.2 T.1 := xT
  have xP : pM S P := xP
  have xB : ag (S 113) r := xB
  have xA : aM S acts := xA
  have xE : eM S kept := xE
  have xF : fM S f := xF
  have hn9 : P.1 ≤ 9 := xP.1
  have haN : isA B 113 := ⟨Or.inl rfl, h113⟩
  have haT : isA B 114 := ⟨Or.inr rfl, h114⟩
  refine x_aload_n dX7_keep_0 rfl rfl ?_
  refine gX7_114 dX7_keep_1 rfl (by assumption) rfl ?_
  rw [xE.2.1]
  refine x_iconst (v := 2) dX7_keep_4 (by decide) ?_
  refine x_icmp_ne (tgt := 11) dX7_keep_5 (by decide) (fun c_5 => ?_) (fun c_5 => ?_)
  · have hk2 : kept.length < 2 := by
      rcases Nat.lt_or_ge kept.length 2 with h | h
      · exact h
      · exact absurd (show nI kept.length = 2 by rw [show kept.length = 2 by have := xE.1; omega]; rfl) c_5
    refine x_iconst (v := 0) dX7_keep_11 (by decide) ?_
    refine x_istore_n (lv' := [(1, _), (0, _)]) dX7_keep_12 rfl (by decide) rfl ?_
    refine x_post (fun v S2 hq => ?_) (lm_keep (r := r) hm xB hk2 xE.2.1 48 0 S (by omega) (fun j h => absurd h (Nat.not_lt_zero j)) (fun _ _ => rfl) (fun _ _ => rfl))
    obtain ⟨q1, q2, q3, q4, q5, q6⟩ := hq
    cases q1
    refine qR_of (A' := (T, P, r, acts, r :: kept, f)) (by rw [o_keep, if_pos hk2]) rfl ⟨tM_ag (q6 1 (by decide)) (q5 103 (by omega) (by omega)) xT, pM_ag (fun b x y => q5 b (by omega) (by omega)) xP, by show ag (S2 113) r; rw [q5 113 (by omega) (by omega)]; exact xB, aM_ag (q6 16 (by decide)) (q5 115 (by omega) (by omega)) xA, ⟨by show kept.length + 1 ≤ 2; omega, q2, fun i r' hr' k hk => ?_⟩, fM_ag (q6 25 (by decide)) (fun a x y => q5 a (by omega) (by omega)) xF⟩ (fun a ha => q5 a (by omega) (by omega))
    have hr' : (r :: kept)[i]? = some r' := hr'
    show S2 116 (48 * (kept.length + 1 - 1 - i) + k) = r' k
    cases i with
    | zero =>
      cases hr'
      rw [show kept.length + 1 - 1 - 0 = kept.length by omega]
      exact q3 k hk
    | succ i =>
      rw [List.getElem?_cons_succ] at hr'
      have hi := (List.getElem?_eq_some_iff.mp hr').1
      have h := xE.2.2 i r' hr' k hk
      rw [show kept.length + 1 - 1 - (i + 1) = kept.length - 1 - i by omega, q4 _ (by omega)]
      exact h
  · have hk2 : ¬ kept.length < 2 := by
      have := (nI_eq (b := 2) (by have := xE.1; omega) (by decide)).mp c_5
      omega
    refine x_bipush (v := (-3)) dX7_keep_8 (by decide) ?_
    refine x_ireturn dX7_keep_10 rfl rfl ?_
    exact qR_of (by rw [o_keep, if_neg hk2]) rfl hX frM_rfl
