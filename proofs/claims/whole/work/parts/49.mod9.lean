set_option maxHeartbeats 1000000 in
set_option maxRecDepth 20000 in
theorem c_here {B : sB} {S : sSt} {L : Nat} {t : Nat → Nat} {p : Nat} (hm : shM B) (hT : tM S t L) (hat : S 102 10 = nI p) (hp : p ≤ 2000) : CS B yX7_here cX7_here 1 (some .int) 1 [.ref (s_ad B 102)] S (qI (nI (hre t L p)) S) := by
  refine cs_intro (lv := [(0, .ref (s_ad B 102))]) rfl ?_
  obtain ⟨hm0, h103, h104, h105, h106, h107, h108, h109, h110, h111, h112, h113, h114, h115, h116, h117, h118, h119, h120, h121, h122⟩ := id hm
  have hL2 := hT.1
  refine x_aload_n dX7_here_0 rfl rfl ?_
  refine gX7_86 dX7_here_1 rfl (by assumption) rfl ?_
  refine x_aload_n dX7_here_4 rfl rfl ?_
  refine gX7_82 dX7_here_5 rfl (by assumption) rfl ?_
  rw [hat, hT.2.1]
  refine x_icmp_ge (tgt := 23) dX7_here_8 (by decide) (fun c_8 => ?_) (fun c_8 => ?_)
  · have hlt : ¬ p < L := fun h => absurd c_8 (nI_ge h (by omega))
    refine x_iconst (v := 0) dX7_here_23 (by decide) ?_
    refine x_ireturn dX7_here_24 rfl rfl ?_
    first
    | exact qI_of (by rw [hre, if_neg hlt]; rfl) rfl
    | exact qI_of (by rw [hre, if_pos hlt]; exact (hT.2.2 p hlt).1) rfl
  · have hlt : p < L := by
      rcases Nat.lt_or_ge p L with h | h
      · exact h
      · exact absurd (nI_le h (by omega)) c_8
    refine x_aload_n dX7_here_11 rfl rfl ?_
    refine gX7_7 dX7_here_12 rfl (by assumption) rfl ?_
    refine x_aload_n dX7_here_15 rfl rfl ?_
    refine gX7_86 dX7_here_16 rfl (by assumption) rfl ?_
    rw [hat]
    refine x_baldN (by assumption) dX7_here_19 (by omega) (by decide) ?_
    refine x_goto (tgt := 24) dX7_here_20 (by decide) ?_
    refine x_ireturn dX7_here_24 rfl rfl ?_
    first
    | exact qI_of (by rw [hre, if_neg hlt]; rfl) rfl
    | exact qI_of (by rw [hre, if_pos hlt]; exact (hT.2.2 p hlt).1) rfl

theorem hre_le {S : sSt} {t : Nat → Nat} {L p : Nat} (hT : tM S t L) : hre t L p ≤ 126 := by
  unfold hre
  split
  · rename_i h; exact (hT.2.2 p h).2
  · omega
theorem bI_lit1 {c : Prop} [Decidable c] (h : c) : bI c = 1 := (bI_t h).symm
theorem bI_lit0 {c : Prop} [Decidable c] (h : ¬ c) : bI c = 0 := (bI_f h).symm

set_option maxHeartbeats 1000000 in
set_option maxRecDepth 20000 in
theorem c_readMark {B : sB} {S : sSt} {L : Nat} {t : Nat → Nat} {p : Nat} (hm : shM B) (hT : tM S t L) (hat : S 102 10 = nI p) (hp : p ≤ 1000) {c : Nat} {C : Prop} [dC : Decidable C] (hir : S 102 11 = bI C) (hc : 1 ≤ c ∧ c ≤ 126) : CS B yX7_readMark cX7_readMark 2 none 2 [.ref (s_ad B 102), .int (nI c)] S (fun u S1 => u = none ∧ S1 102 10 = nI (p + 1) ∧ S1 102 11 = bI (C ∧ sgn t L p c = true) ∧ S1 112 = S 112 ∧ frJ S S1) := by
  refine cs_intro (lv := [(0, .ref (s_ad B 102)), (1, .int (nI c))]) rfl ?_
  obtain ⟨hm0, h103, h104, h105, h106, h107, h108, h109, h110, h111, h112, h113, h114, h115, h116, h117, h118, h119, h120, h121, h122⟩ := id hm
  have h126 := hre_le (p := p) hT
  refine x_aload_n dX7_readMark_0 rfl rfl ?_
  refine x_aload_n dX7_readMark_1 rfl rfl ?_
  refine gX7_93 dX7_readMark_2 rfl (by assumption) rfl ?_
  rw [hir]
  refine x_ifeq_b (tgt := 20) dX7_readMark_5 (by decide) (fun c_5 => ?_) (fun c_5 => ?_)
  · have hno : ¬ (C ∧ sgn t L p c = true) := fun z => c_5 z.1
    refine x_iconst (v := 0) dX7_readMark_20 (by decide) ?_
    refine pX7_93 dX7_readMark_21 rfl (by assumption) rfl rfl rfl ?_
    refine x_aload_n dX7_readMark_24 rfl rfl ?_
    refine x_dup dX7_readMark_25 rfl ?_
    refine gX7_86 dX7_readMark_26 rfl (by assumption) rfl ?_
    rw [show ∀ v, s_put S 102 11 v 102 10 = nI p from fun v => by rw [s_put_eq, if_neg (by decide)]; exact hat]
    refine x_iconst (v := 1) dX7_readMark_29 (by decide) ?_
    refine x_iadd dX7_readMark_30 ?_
    first | refine x_re (nI_add _ _) ?_ | skip
    refine pX7_86 dX7_readMark_31 rfl (by assumption) rfl ?_
    refine x_return dX7_readMark_34 rfl ?_
    refine ⟨rfl, by rw [s_put_eq, if_pos rfl], ?_, by rw [s_put_ne (by omega), s_put_ne (by omega)], ⟨fun b x y => by rw [s_put_ne x, s_put_ne x], fun j x y => by rw [s_put_eq, if_neg x, s_put_eq, if_neg y]⟩⟩
    rw [s_put_eq, if_neg (by decide), s_put_eq, if_pos rfl]
    first
    | exact (bI_lit0 hno).symm
    | exact (bI_lit1 hyes).symm
  · refine x_aload_n dX7_readMark_8 rfl rfl ?_
    refine kX7_89 dX7_readMark_9 rfl (by assumption) (c_here hm hT hat (by omega)) (by decide) (Nat.le_of_ble_eq_true rfl) ?_
    refine x_iload_n dX7_readMark_12 rfl rfl ?_
    refine x_icmp_ne (tgt := 20) dX7_readMark_13 (by decide) (fun c_13 => ?_) (fun c_13 => ?_)
    · have hno : ¬ (C ∧ sgn t L p c = true) := fun z => c_13 (by rw [(hre_sgn (by omega)).mpr z.2])
      refine x_iconst (v := 0) dX7_readMark_20 (by decide) ?_
      refine pX7_93 dX7_readMark_21 rfl (by assumption) rfl rfl rfl ?_
      refine x_aload_n dX7_readMark_24 rfl rfl ?_
      refine x_dup dX7_readMark_25 rfl ?_
      refine gX7_86 dX7_readMark_26 rfl (by assumption) rfl ?_
      rw [show ∀ v, s_put S 102 11 v 102 10 = nI p from fun v => by rw [s_put_eq, if_neg (by decide)]; exact hat]
      refine x_iconst (v := 1) dX7_readMark_29 (by decide) ?_
      refine x_iadd dX7_readMark_30 ?_
      first | refine x_re (nI_add _ _) ?_ | skip
      refine pX7_86 dX7_readMark_31 rfl (by assumption) rfl ?_
      refine x_return dX7_readMark_34 rfl ?_
      refine ⟨rfl, by rw [s_put_eq, if_pos rfl], ?_, by rw [s_put_ne (by omega), s_put_ne (by omega)], ⟨fun b x y => by rw [s_put_ne x, s_put_ne x], fun j x y => by rw [s_put_eq, if_neg x, s_put_eq, if_neg y]⟩⟩
      rw [s_put_eq, if_neg (by decide), s_put_eq, if_pos rfl]
      first
      | exact (bI_lit0 hno).symm
      | exact (bI_lit1 hyes).symm
    · have hyes : C ∧ sgn t L p c = true := ⟨c_5, (hre_sgn (by omega)).mp ((nI_eq (by omega) (by omega)).mp c_13)⟩
      refine x_iconst (v := 1) dX7_readMark_16 (by decide) ?_
      refine x_goto (tgt := 21) dX7_readMark_17 (by decide) ?_
      refine pX7_93 dX7_readMark_21 rfl (by assumption) rfl rfl rfl ?_
      refine x_aload_n dX7_readMark_24 rfl rfl ?_
      refine x_dup dX7_readMark_25 rfl ?_
      refine gX7_86 dX7_readMark_26 rfl (by assumption) rfl ?_
      rw [show ∀ v, s_put S 102 11 v 102 10 = nI p from fun v => by rw [s_put_eq, if_neg (by decide)]; exact hat]
      refine x_iconst (v := 1) dX7_readMark_29 (by decide) ?_
      refine x_iadd dX7_readMark_30 ?_
      first | refine x_re (nI_add _ _) ?_ | skip
      refine pX7_86 dX7_readMark_31 rfl (by assumption) rfl ?_
      refine x_return dX7_readMark_34 rfl ?_
      refine ⟨rfl, by rw [s_put_eq, if_pos rfl], ?_, by rw [s_put_ne (by omega), s_put_ne (by omega)], ⟨fun b x y => by rw [s_put_ne x, s_put_ne x], fun j x y => by rw [s_put_eq, if_neg x, s_put_eq, if_neg y]⟩⟩
      rw [s_put_eq, if_neg (by decide), s_put_eq, if_pos rfl]
      first
      | exact (bI_lit0 hno).symm
      | exact (bI_lit1 hyes).symm

set_option maxHeartbeats 1000000 in
set_option maxRecDepth 20000 in
theorem lm_readNumber {B : sB} {S : sSt} {L : Nat} {t : Nat → Nat} {p : Nat} (hm : shM B) (hT : tM S t L) (hat : S 102 10 = nI p) (hp : p ≤ 1000) {k0 lo hi : Nat} {C : Prop} [dC : Decidable C] (hir : S 102 11 = bI C) (hk0 : k0 < 3) (hlo : lo < 1000) (hhi : hi < 1000) :
    ∀ (k n : Nat) (S0 : sSt), n + k = 3 → (∀ j, j < n → dgt t L (p + j) = true) → S0 102 10 = nI (p + n) → S0 112 = S 112 → S0 102 11 = bI C → frJ S S0 → WS B (fun _ => True) yX7_readNumber cX7_readNumber 6 none 2 6 [(5, .int (nI (vN t p n))), (4, .int (nI n)), (0, .ref (s_ad B 102)), (1, .int (nI k0)), (2, .int (nI lo)), (3, .int (nI hi))] [] S0 (fun u S1 => u = none ∧ ∃ n, NR t L p n ∧ S1 102 10 = nI (p + n) ∧ S1 112 k0 = nI (vN t p n) ∧ S1 102 11 = bI (C ∧ (1 ≤ n ∧ n ≤ 2) ∧ lo ≤ vN t p n ∧ vN t p n ≤ hi) ∧ (∀ j, j ≠ k0 → S1 112 j = S 112 j) ∧ frJ S S1) := by
  obtain ⟨hm0, h103, h104, h105, h106, h107, h108, h109, h110, h111, h112, h113, h114, h115, h116, h117, h118, h119, h120, h121, h122⟩ := id hm
  intro k
  induction k with
  | zero =>
    intro n S0 hnk hd hat0 h112 hir0 hf
    have hT0 := tM_J hf hT
    have h126 := hre_le (p := p + n) hT0
    have hv := vN_le n (by omega) hd
    refine x_aload_n dX7_readNumber_6 rfl rfl ?_
    refine kX7_89 dX7_readNumber_7 rfl (by assumption) (c_here hm hT0 hat0 (by omega)) (by decide) (Nat.le_of_ble_eq_true rfl) ?_
    refine x_bipush (v := 48) dX7_readNumber_10 (by decide) ?_
    refine x_bipush (v := 57) dX7_readNumber_12 (by decide) ?_
    refine kX7_78 dX7_readNumber_14 rfl (c_in) (by decide) (Nat.le_of_ble_eq_true rfl) ?_
    refine x_ifeq_b (tgt := 57) dX7_readNumber_17 (by decide) (fun c_17 => ?_) (fun c_17 => ?_)
    · have hNR : NR t L p n := ⟨by omega, hd, fun _ => by
        cases hdd : dgt t L (p + n) with
        | false => rfl
        | true => exact absurd ((nI_within (lo := 48) (hi := 57) (by omega) (by decide) (by decide)).mpr (hre_dgt.mpr hdd)) c_17⟩
      refine x_aload_n dX7_readNumber_57 rfl rfl ?_
      refine gX7_38 dX7_readNumber_58 rfl (by assumption) rfl ?_
      refine x_iload_n dX7_readNumber_61 rfl rfl ?_
      refine x_iload dX7_readNumber_62 rfl ?_
      refine x_iastN (by assumption) dX7_readNumber_64 hk0 (by decide) ?_
      refine x_aload_n dX7_readNumber_65 rfl rfl ?_
      refine x_aload_n dX7_readNumber_66 rfl rfl ?_
      refine gX7_93 dX7_readNumber_67 rfl (by assumption) rfl ?_
      rw [show ∀ v, s_put S0 112 k0 v 102 11 = bI C from fun v => by rw [s_put_ne (by omega)]; exact hir0]
      refine x_ifeq_b (tgt := 97) dX7_readNumber_70 (by decide) (fun c_70 => ?_) (fun c_70 => ?_)
      · have hno : ¬ (C ∧ (1 ≤ n ∧ n ≤ 2) ∧ lo ≤ vN t p n ∧ vN t p n ≤ hi) := fun z => c_70 z.1
        refine x_iconst (v := 0) dX7_readNumber_97 (by decide) ?_
        refine pX7_93 dX7_readNumber_98 rfl (by assumption) rfl rfl rfl ?_
        refine x_return dX7_readNumber_101 rfl ?_
        refine ⟨rfl, n, hNR, by rw [s_put_eq, if_neg (by decide), s_put_ne (by omega)]; exact hat0, by rw [s_put_ne (by omega), s_put_eq, if_pos rfl], ?_, fun j hj => by rw [s_put_ne (by omega), s_put_eq, if_neg hj, h112], frJ_trans hf ⟨fun b x y => by rw [s_put_ne x, s_put_ne y], fun j x y => by rw [s_put_eq, if_neg y, s_put_ne (by omega)]⟩⟩
        rw [s_put_eq, if_pos rfl]
        first
        | exact (bI_lit0 hno).symm
        | exact (bI_lit1 hyes).symm
      · refine x_iload dX7_readNumber_73 rfl ?_
        refine x_iconst (v := 1) dX7_readNumber_75 (by decide) ?_
        refine x_iconst (v := 2) dX7_readNumber_76 (by decide) ?_
        refine kX7_78 dX7_readNumber_77 rfl (c_in) (by decide) (Nat.le_of_ble_eq_true rfl) ?_
        refine x_ifeq_b (tgt := 97) dX7_readNumber_80 (by decide) (fun c_80 => ?_) (fun c_80 => ?_)
        · have hno : ¬ (C ∧ (1 ≤ n ∧ n ≤ 2) ∧ lo ≤ vN t p n ∧ vN t p n ≤ hi) := fun z => c_80 ((nI_within (lo := 1) (hi := 2) (by omega) (by decide) (by decide)).mpr z.2.1)
          refine x_iconst (v := 0) dX7_readNumber_97 (by decide) ?_
          refine pX7_93 dX7_readNumber_98 rfl (by assumption) rfl rfl rfl ?_
          refine x_return dX7_readNumber_101 rfl ?_
          refine ⟨rfl, n, hNR, by rw [s_put_eq, if_neg (by decide), s_put_ne (by omega)]; exact hat0, by rw [s_put_ne (by omega), s_put_eq, if_pos rfl], ?_, fun j hj => by rw [s_put_ne (by omega), s_put_eq, if_neg hj, h112], frJ_trans hf ⟨fun b x y => by rw [s_put_ne x, s_put_ne y], fun j x y => by rw [s_put_eq, if_neg y, s_put_ne (by omega)]⟩⟩
          rw [s_put_eq, if_pos rfl]
          first
          | exact (bI_lit0 hno).symm
          | exact (bI_lit1 hyes).symm
        · have h12 := (nI_within (a := n) (lo := 1) (hi := 2) (by omega) (by decide) (by decide)).mp c_80
          refine x_iload dX7_readNumber_83 rfl ?_
          refine x_iload_n dX7_readNumber_85 rfl rfl ?_
          refine x_iload_n dX7_readNumber_86 rfl rfl ?_
          refine kX7_78 dX7_readNumber_87 rfl (c_in) (by decide) (Nat.le_of_ble_eq_true rfl) ?_
          refine x_ifeq_b (tgt := 97) dX7_readNumber_90 (by decide) (fun c_90 => ?_) (fun c_90 => ?_)
          · have hno : ¬ (C ∧ (1 ≤ n ∧ n ≤ 2) ∧ lo ≤ vN t p n ∧ vN t p n ≤ hi) := fun z => c_90 ((nI_within (by omega) (by omega) (by omega)).mpr z.2.2)
            refine x_iconst (v := 0) dX7_readNumber_97 (by decide) ?_
            refine pX7_93 dX7_readNumber_98 rfl (by assumption) rfl rfl rfl ?_
            refine x_return dX7_readNumber_101 rfl ?_
            refine ⟨rfl, n, hNR, by rw [s_put_eq, if_neg (by decide), s_put_ne (by omega)]; exact hat0, by rw [s_put_ne (by omega), s_put_eq, if_pos rfl], ?_, fun j hj => by rw [s_put_ne (by omega), s_put_eq, if_neg hj, h112], frJ_trans hf ⟨fun b x y => by rw [s_put_ne x, s_put_ne y], fun j x y => by rw [s_put_eq, if_neg y, s_put_ne (by omega)]⟩⟩
            rw [s_put_eq, if_pos rfl]
            first
            | exact (bI_lit0 hno).symm
            | exact (bI_lit1 hyes).symm
          · have hyes : C ∧ (1 ≤ n ∧ n ≤ 2) ∧ lo ≤ vN t p n ∧ vN t p n ≤ hi := ⟨c_70, h12, (nI_within (by omega) (by omega) (by omega)).mp c_90⟩
            refine x_iconst (v := 1) dX7_readNumber_93 (by decide) ?_
            refine x_goto (tgt := 98) dX7_readNumber_94 (by decide) ?_
            refine pX7_93 dX7_readNumber_98 rfl (by assumption) rfl rfl rfl ?_
            refine x_return dX7_readNumber_101 rfl ?_
            refine ⟨rfl, n, hNR, by rw [s_put_eq, if_neg (by decide), s_put_ne (by omega)]; exact hat0, by rw [s_put_ne (by omega), s_put_eq, if_pos rfl], ?_, fun j hj => by rw [s_put_ne (by omega), s_put_eq, if_neg hj, h112], frJ_trans hf ⟨fun b x y => by rw [s_put_ne x, s_put_ne y], fun j x y => by rw [s_put_eq, if_neg y, s_put_ne (by omega)]⟩⟩
            rw [s_put_eq, if_pos rfl]
            first
            | exact (bI_lit0 hno).symm
            | exact (bI_lit1 hyes).symm
    · have hdg : dgt t L (p + n) = true := hre_dgt.mp ((nI_within (lo := 48) (hi := 57) (by omega) (by decide) (by decide)).mp c_17)
      refine x_iload dX7_readNumber_20 rfl ?_
      refine x_iconst (v := 3) dX7_readNumber_22 (by decide) ?_
      refine x_icmp_ge (tgt := 57) dX7_readNumber_23 (by decide) (fun c_23 => ?_) (fun c_23 => ?_)
      · have hNR : NR t L p n := ⟨by omega, hd, fun h => absurd h (by omega)⟩
        refine x_aload_n dX7_readNumber_57 rfl rfl ?_
        refine gX7_38 dX7_readNumber_58 rfl (by assumption) rfl ?_
        refine x_iload_n dX7_readNumber_61 rfl rfl ?_
        refine x_iload dX7_readNumber_62 rfl ?_
        refine x_iastN (by assumption) dX7_readNumber_64 hk0 (by decide) ?_
        refine x_aload_n dX7_readNumber_65 rfl rfl ?_
        refine x_aload_n dX7_readNumber_66 rfl rfl ?_
        refine gX7_93 dX7_readNumber_67 rfl (by assumption) rfl ?_
        rw [show ∀ v, s_put S0 112 k0 v 102 11 = bI C from fun v => by rw [s_put_ne (by omega)]; exact hir0]
        refine x_ifeq_b (tgt := 97) dX7_readNumber_70 (by decide) (fun c_70 => ?_) (fun c_70 => ?_)
        · have hno : ¬ (C ∧ (1 ≤ n ∧ n ≤ 2) ∧ lo ≤ vN t p n ∧ vN t p n ≤ hi) := fun z => c_70 z.1
          refine x_iconst (v := 0) dX7_readNumber_97 (by decide) ?_
          refine pX7_93 dX7_readNumber_98 rfl (by assumption) rfl rfl rfl ?_
          refine x_return dX7_readNumber_101 rfl ?_
          refine ⟨rfl, n, hNR, by rw [s_put_eq, if_neg (by decide), s_put_ne (by omega)]; exact hat0, by rw [s_put_ne (by omega), s_put_eq, if_pos rfl], ?_, fun j hj => by rw [s_put_ne (by omega), s_put_eq, if_neg hj, h112], frJ_trans hf ⟨fun b x y => by rw [s_put_ne x, s_put_ne y], fun j x y => by rw [s_put_eq, if_neg y, s_put_ne (by omega)]⟩⟩
          rw [s_put_eq, if_pos rfl]
          first
          | exact (bI_lit0 hno).symm
          | exact (bI_lit1 hyes).symm
        · refine x_iload dX7_readNumber_73 rfl ?_
          refine x_iconst (v := 1) dX7_readNumber_75 (by decide) ?_
          refine x_iconst (v := 2) dX7_readNumber_76 (by decide) ?_
          refine kX7_78 dX7_readNumber_77 rfl (c_in) (by decide) (Nat.le_of_ble_eq_true rfl) ?_
          refine x_ifeq_b (tgt := 97) dX7_readNumber_80 (by decide) (fun c_80 => ?_) (fun c_80 => ?_)
          · have hno : ¬ (C ∧ (1 ≤ n ∧ n ≤ 2) ∧ lo ≤ vN t p n ∧ vN t p n ≤ hi) := fun z => c_80 ((nI_within (lo := 1) (hi := 2) (by omega) (by decide) (by decide)).mpr z.2.1)
            refine x_iconst (v := 0) dX7_readNumber_97 (by decide) ?_
            refine pX7_93 dX7_readNumber_98 rfl (by assumption) rfl rfl rfl ?_
            refine x_return dX7_readNumber_101 rfl ?_
            refine ⟨rfl, n, hNR, by rw [s_put_eq, if_neg (by decide), s_put_ne (by omega)]; exact hat0, by rw [s_put_ne (by omega), s_put_eq, if_pos rfl], ?_, fun j hj => by rw [s_put_ne (by omega), s_put_eq, if_neg hj, h112], frJ_trans hf ⟨fun b x y => by rw [s_put_ne x, s_put_ne y], fun j x y => by rw [s_put_eq, if_neg y, s_put_ne (by omega)]⟩⟩
            rw [s_put_eq, if_pos rfl]
            first
            | exact (bI_lit0 hno).symm
            | exact (bI_lit1 hyes).symm
          · have h12 := (nI_within (a := n) (lo := 1) (hi := 2) (by omega) (by decide) (by decide)).mp c_80
            refine x_iload dX7_readNumber_83 rfl ?_
            refine x_iload_n dX7_readNumber_85 rfl rfl ?_
            refine x_iload_n dX7_readNumber_86 rfl rfl ?_
            refine kX7_78 dX7_readNumber_87 rfl (c_in) (by decide) (Nat.le_of_ble_eq_true rfl) ?_
            refine x_ifeq_b (tgt := 97) dX7_readNumber_90 (by decide) (fun c_90 => ?_) (fun c_90 => ?_)
            · have hno : ¬ (C ∧ (1 ≤ n ∧ n ≤ 2) ∧ lo ≤ vN t p n ∧ vN t p n ≤ hi) := fun z => c_90 ((nI_within (by omega) (by omega) (by omega)).mpr z.2.2)
              refine x_iconst (v := 0) dX7_readNumber_97 (by decide) ?_
              refine pX7_93 dX7_readNumber_98 rfl (by assumption) rfl rfl rfl ?_
              refine x_return dX7_readNumber_101 rfl ?_
              refine ⟨rfl, n, hNR, by rw [s_put_eq, if_neg (by decide), s_put_ne (by omega)]; exact hat0, by rw [s_put_ne (by omega), s_put_eq, if_pos rfl], ?_, fun j hj => by rw [s_put_ne (by omega), s_put_eq, if_neg hj, h112], frJ_trans hf ⟨fun b x y => by rw [s_put_ne x, s_put_ne y], fun j x y => by rw [s_put_eq, if_neg y, s_put_ne (by omega)]⟩⟩
              rw [s_put_eq, if_pos rfl]
              first
              | exact (bI_lit0 hno).symm
              | exact (bI_lit1 hyes).symm
            · have hyes : C ∧ (1 ≤ n ∧ n ≤ 2) ∧ lo ≤ vN t p n ∧ vN t p n ≤ hi := ⟨c_70, h12, (nI_within (by omega) (by omega) (by omega)).mp c_90⟩
              refine x_iconst (v := 1) dX7_readNumber_93 (by decide) ?_
              refine x_goto (tgt := 98) dX7_readNumber_94 (by decide) ?_
              refine pX7_93 dX7_readNumber_98 rfl (by assumption) rfl rfl rfl ?_
              refine x_return dX7_readNumber_101 rfl ?_
              refine ⟨rfl, n, hNR, by rw [s_put_eq, if_neg (by decide), s_put_ne (by omega)]; exact hat0, by rw [s_put_ne (by omega), s_put_eq, if_pos rfl], ?_, fun j hj => by rw [s_put_ne (by omega), s_put_eq, if_neg hj, h112], frJ_trans hf ⟨fun b x y => by rw [s_put_ne x, s_put_ne y], fun j x y => by rw [s_put_eq, if_neg y, s_put_ne (by omega)]⟩⟩
              rw [s_put_eq, if_pos rfl]
              first
              | exact (bI_lit0 hno).symm
              | exact (bI_lit1 hyes).symm
      · exact absurd (by rw [show n = 3 by omega]; decide) c_23
  | succ k ih =>
    intro n S0 hnk hd hat0 h112 hir0 hf
    have hT0 := tM_J hf hT
    have h126 := hre_le (p := p + n) hT0
    have hv := vN_le n (by omega) hd
    refine x_aload_n dX7_readNumber_6 rfl rfl ?_
    refine kX7_89 dX7_readNumber_7 rfl (by assumption) (c_here hm hT0 hat0 (by omega)) (by decide) (Nat.le_of_ble_eq_true rfl) ?_
    refine x_bipush (v := 48) dX7_readNumber_10 (by decide) ?_
    refine x_bipush (v := 57) dX7_readNumber_12 (by decide) ?_
    refine kX7_78 dX7_readNumber_14 rfl (c_in) (by decide) (Nat.le_of_ble_eq_true rfl) ?_
    refine x_ifeq_b (tgt := 57) dX7_readNumber_17 (by decide) (fun c_17 => ?_) (fun c_17 => ?_)
    · have hNR : NR t L p n := ⟨by omega, hd, fun _ => by
        cases hdd : dgt t L (p + n) with
        | false => rfl
        | true => exact absurd ((nI_within (lo := 48) (hi := 57) (by omega) (by decide) (by decide)).mpr (hre_dgt.mpr hdd)) c_17⟩
      refine x_aload_n dX7_readNumber_57 rfl rfl ?_
      refine gX7_38 dX7_readNumber_58 rfl (by assumption) rfl ?_
      refine x_iload_n dX7_readNumber_61 rfl rfl ?_
      refine x_iload dX7_readNumber_62 rfl ?_
      refine x_iastN (by assumption) dX7_readNumber_64 hk0 (by decide) ?_
      refine x_aload_n dX7_readNumber_65 rfl rfl ?_
      refine x_aload_n dX7_readNumber_66 rfl rfl ?_
      refine gX7_93 dX7_readNumber_67 rfl (by assumption) rfl ?_
      rw [show ∀ v, s_put S0 112 k0 v 102 11 = bI C from fun v => by rw [s_put_ne (by omega)]; exact hir0]
      refine x_ifeq_b (tgt := 97) dX7_readNumber_70 (by decide) (fun c_70 => ?_) (fun c_70 => ?_)
      · have hno : ¬ (C ∧ (1 ≤ n ∧ n ≤ 2) ∧ lo ≤ vN t p n ∧ vN t p n ≤ hi) := fun z => c_70 z.1
        refine x_iconst (v := 0) dX7_readNumber_97 (by decide) ?_
        refine pX7_93 dX7_readNumber_98 rfl (by assumption) rfl rfl rfl ?_
        refine x_return dX7_readNumber_101 rfl ?_
        refine ⟨rfl, n, hNR, by rw [s_put_eq, if_neg (by decide), s_put_ne (by omega)]; exact hat0, by rw [s_put_ne (by omega), s_put_eq, if_pos rfl], ?_, fun j hj => by rw [s_put_ne (by omega), s_put_eq, if_neg hj, h112], frJ_trans hf ⟨fun b x y => by rw [s_put_ne x, s_put_ne y], fun j x y => by rw [s_put_eq, if_neg y, s_put_ne (by omega)]⟩⟩
        rw [s_put_eq, if_pos rfl]
        first
        | exact (bI_lit0 hno).symm
        | exact (bI_lit1 hyes).symm
      · refine x_iload dX7_readNumber_73 rfl ?_
        refine x_iconst (v := 1) dX7_readNumber_75 (by decide) ?_
        refine x_iconst (v := 2) dX7_readNumber_76 (by decide) ?_
        refine kX7_78 dX7_readNumber_77 rfl (c_in) (by decide) (Nat.le_of_ble_eq_true rfl) ?_
        refine x_ifeq_b (tgt := 97) dX7_readNumber_80 (by decide) (fun c_80 => ?_) (fun c_80 => ?_)
        · have hno : ¬ (C ∧ (1 ≤ n ∧ n ≤ 2) ∧ lo ≤ vN t p n ∧ vN t p n ≤ hi) := fun z => c_80 ((nI_within (lo := 1) (hi := 2) (by omega) (by decide) (by decide)).mpr z.2.1)
          refine x_iconst (v := 0) dX7_readNumber_97 (by decide) ?_
          refine pX7_93 dX7_readNumber_98 rfl (by assumption) rfl rfl rfl ?_
          refine x_return dX7_readNumber_101 rfl ?_
          refine ⟨rfl, n, hNR, by rw [s_put_eq, if_neg (by decide), s_put_ne (by omega)]; exact hat0, by rw [s_put_ne (by omega), s_put_eq, if_pos rfl], ?_, fun j hj => by rw [s_put_ne (by omega), s_put_eq, if_neg hj, h112], frJ_trans hf ⟨fun b x y => by rw [s_put_ne x, s_put_ne y], fun j x y => by rw [s_put_eq, if_neg y, s_put_ne (by omega)]⟩⟩
          rw [s_put_eq, if_pos rfl]
          first
          | exact (bI_lit0 hno).symm
          | exact (bI_lit1 hyes).symm
        · have h12 := (nI_within (a := n) (lo := 1) (hi := 2) (by omega) (by decide) (by decide)).mp c_80
          refine x_iload dX7_readNumber_83 rfl ?_
          refine x_iload_n dX7_readNumber_85 rfl rfl ?_
          refine x_iload_n dX7_readNumber_86 rfl rfl ?_
          refine kX7_78 dX7_readNumber_87 rfl (c_in) (by decide) (Nat.le_of_ble_eq_true rfl) ?_
          refine x_ifeq_b (tgt := 97) dX7_readNumber_90 (by decide) (fun c_90 => ?_) (fun c_90 => ?_)
          · have hno : ¬ (C ∧ (1 ≤ n ∧ n ≤ 2) ∧ lo ≤ vN t p n ∧ vN t p n ≤ hi) := fun z => c_90 ((nI_within (by omega) (by omega) (by omega)).mpr z.2.2)
            refine x_iconst (v := 0) dX7_readNumber_97 (by decide) ?_
            refine pX7_93 dX7_readNumber_98 rfl (by assumption) rfl rfl rfl ?_
            refine x_return dX7_readNumber_101 rfl ?_
            refine ⟨rfl, n, hNR, by rw [s_put_eq, if_neg (by decide), s_put_ne (by omega)]; exact hat0, by rw [s_put_ne (by omega), s_put_eq, if_pos rfl], ?_, fun j hj => by rw [s_put_ne (by omega), s_put_eq, if_neg hj, h112], frJ_trans hf ⟨fun b x y => by rw [s_put_ne x, s_put_ne y], fun j x y => by rw [s_put_eq, if_neg y, s_put_ne (by omega)]⟩⟩
            rw [s_put_eq, if_pos rfl]
            first
            | exact (bI_lit0 hno).symm
            | exact (bI_lit1 hyes).symm
          · have hyes : C ∧ (1 ≤ n ∧ n ≤ 2) ∧ lo ≤ vN t p n ∧ vN t p n ≤ hi := ⟨c_70, h12, (nI_within (by omega) (by omega) (by omega)).mp c_90⟩
            refine x_iconst (v := 1) dX7_readNumber_93 (by decide) ?_
            refine x_goto (tgt := 98) dX7_readNumber_94 (by decide) ?_
            refine pX7_93 dX7_readNumber_98 rfl (by assumption) rfl rfl rfl ?_
            refine x_return dX7_readNumber_101 rfl ?_
            refine ⟨rfl, n, hNR, by rw [s_put_eq, if_neg (by decide), s_put_ne (by omega)]; exact hat0, by rw [s_put_ne (by omega), s_put_eq, if_pos rfl], ?_, fun j hj => by rw [s_put_ne (by omega), s_put_eq, if_neg hj, h112], frJ_trans hf ⟨fun b x y => by rw [s_put_ne x, s_put_ne y], fun j x y => by rw [s_put_eq, if_neg y, s_put_ne (by omega)]⟩⟩
            rw [s_put_eq, if_pos rfl]
            first
            | exact (bI_lit0 hno).symm
            | exact (bI_lit1 hyes).symm
    · have hdg : dgt t L (p + n) = true := hre_dgt.mp ((nI_within (lo := 48) (hi := 57) (by omega) (by decide) (by decide)).mp c_17)
      refine x_iload dX7_readNumber_20 rfl ?_
      refine x_iconst (v := 3) dX7_readNumber_22 (by decide) ?_
      refine x_icmp_ge (tgt := 57) dX7_readNumber_23 (by decide) (fun c_23 => ?_) (fun c_23 => ?_)
      · exact absurd c_23 (by exact nI_ge (b := 3) (by omega) (by decide))
      · refine x_bipush (v := 10) dX7_readNumber_26 (by decide) ?_
        refine x_iload dX7_readNumber_28 rfl ?_
        refine x_imul dX7_readNumber_30 ?_
        first | refine x_re (pk_mul 10 _) ?_ | skip
        refine x_aload_n dX7_readNumber_31 rfl rfl ?_
        refine kX7_89 dX7_readNumber_32 rfl (by assumption) (c_here hm hT0 hat0 (by omega)) (by decide) (Nat.le_of_ble_eq_true rfl) ?_
        refine x_iadd dX7_readNumber_35 ?_
        first | refine x_re (nI_add _ _) ?_ | skip
        refine x_bipush (v := 48) dX7_readNumber_36 (by decide) ?_
        have hd3 := dgt_le hdg
        have hh3 : hre t L (p + n) = t (p + n) := by rw [hre, if_pos hd3.1]
        refine x_isub dX7_readNumber_38 ?_
        refine x_re (b := nI (vN t p (n + 1))) (by rw [show nI (10 * vN t p n + hre t L (p + n)) - 48 = nI (10 * vN t p n + hre t L (p + n) - 48) from pk_sub (b := 48) (by omega)]; show _ = nI (10 * vN t p n + (t (p + n) - 48)); rw [show hre t L (p + n) = t (p + n) from by rw [hre, if_pos hd3.1]]; congr 1; omega) ?_
        refine x_istore (lv' := [(5, _), (4, _), (0, _), (1, _), (2, _), (3, _)]) dX7_readNumber_39 (by decide) rfl ?_
        refine x_aload_n dX7_readNumber_41 rfl rfl ?_
        refine x_dup dX7_readNumber_42 rfl ?_
        refine gX7_86 dX7_readNumber_43 rfl (by assumption) rfl ?_
        rw [hat0]
        refine x_iconst (v := 1) dX7_readNumber_46 (by decide) ?_
        refine x_iadd dX7_readNumber_47 ?_
        first | refine x_re (nI_add _ _) ?_ | skip
        refine pX7_86 dX7_readNumber_48 rfl (by assumption) rfl ?_
        first | refine x_inc1N (lv' := [(4, _), (5, _), (0, _), (1, _), (2, _), (3, _)]) dX7_readNumber_51 rfl (by decide) rfl ?_ | refine x_iinc (v := _ + 1) (lv' := [(4, _), (5, _), (0, _), (1, _), (2, _), (3, _)]) dX7_readNumber_51 rfl rfl (by decide) rfl ?_
        refine x_goto (tgt := 6) dX7_readNumber_54 (by decide) ?_
        refine x_wk [1, 0, 2, 3, 4, 5] rfl ?_
        refine ih (n + 1) _ (by omega) (fun j hj => ?_) (by rw [s_put_eq, if_pos rfl]; rfl) (by rw [s_put_ne (by omega)]; exact h112) (by rw [s_put_eq, if_neg (by decide)]; exact hir0) (frJ_trans hf ⟨fun b x y => s_put_ne x, fun j x y => by rw [s_put_eq, if_neg x]⟩)
        by_cases hjn : j = n
        · rw [hjn]; exact hdg
        · exact hd j (by omega)

set_option maxHeartbeats 1000000 in
set_option maxRecDepth 20000 in
theorem cm_readNumber {B : sB} {S : sSt} {L : Nat} {t : Nat → Nat} {p : Nat} (hm : shM B) (hT : tM S t L) (hat : S 102 10 = nI p) (hp : p ≤ 1000) {k0 lo hi : Nat} {C : Prop} [dC : Decidable C] (hir : S 102 11 = bI C) (hk0 : k0 < 3) (hlo : lo < 1000) (hhi : hi < 1000) : CS B yX7_readNumber cX7_readNumber 6 none 2 [.ref (s_ad B 102), .int (nI k0), .int (nI lo), .int (nI hi)] S (fun u S1 => u = none ∧ ∃ n, NR t L p n ∧ S1 102 10 = nI (p + n) ∧ S1 112 k0 = nI (vN t p n) ∧ S1 102 11 = bI (C ∧ (1 ≤ n ∧ n ≤ 2) ∧ lo ≤ vN t p n ∧ vN t p n ≤ hi) ∧ (∀ j, j ≠ k0 → S1 112 j = S 112 j) ∧ frJ S S1) := by
  refine cs_intro (lv := [(0, .ref (s_ad B 102)), (1, .int (nI k0)), (2, .int (nI lo)), (3, .int (nI hi))]) rfl ?_
  refine x_iconst (v := 0) dX7_readNumber_0 (by decide) ?_
  refine x_istore (lv' := [(4, _), (0, _), (1, _), (2, _), (3, _)]) dX7_readNumber_1 (by decide) rfl ?_
  refine x_iconst (v := 0) dX7_readNumber_3 (by decide) ?_
  refine x_istore (lv' := [(5, _), (4, _), (0, _), (1, _), (2, _), (3, _)]) dX7_readNumber_4 (by decide) rfl ?_
  exact lm_readNumber hm hT hat hp hir hk0 hlo hhi 3 0 S (by omega) (fun j h => absurd h (Nat.not_lt_zero j)) hat rfl hir frJ_rfl

set_option maxHeartbeats 1000000 in
set_option maxRecDepth 20000 in
theorem c_invite {B : sB} {S : sSt} {g : Nat} {k b w : Int32} (hm : shM B) (hg : g < 9) : CS B yX7_invite cX7_invite 5 none 1 [.ref (s_ad B 102), .int (nI g), .int k, .int b, .int w] S (qV (s_put (s_put (s_put S 109 (9 + g) k) 110 (9 + g) b) 111 (9 + g) w)) := by
  refine cs_intro (lv := [(0, .ref (s_ad B 102)), (1, .int (nI g)), (2, .int k), (3, .int b), (4, .int w)]) rfl ?_
  obtain ⟨hm0, h103, h104, h105, h106, h107, h108, h109, h110, h111, h112, h113, h114, h115, h116, h117, h118, h119, h120, h121, h122⟩ := id hm
  refine x_aload_n dX7_invite_0 rfl rfl ?_
  refine gX7_29 dX7_invite_1 rfl (by assumption) rfl ?_
  refine x_bipush (v := 9) dX7_invite_4 (by decide) ?_
  refine x_iload_n dX7_invite_6 rfl rfl ?_
  refine x_iadd dX7_invite_7 ?_
  first | refine x_re (nI_add 9 _) ?_ | skip
  refine x_iload_n dX7_invite_8 rfl rfl ?_
  first | refine x_iastN (by assumption) dX7_invite_9 (by omega) (by decide) ?_ | refine x_iast (by assumption) dX7_invite_9 (by assumption) ?_
  refine x_aload_n dX7_invite_10 rfl rfl ?_
  refine gX7_32 dX7_invite_11 rfl (by assumption) rfl ?_
  refine x_bipush (v := 9) dX7_invite_14 (by decide) ?_
  refine x_iload_n dX7_invite_16 rfl rfl ?_
  refine x_iadd dX7_invite_17 ?_
  first | refine x_re (nI_add 9 _) ?_ | skip
  refine x_iload_n dX7_invite_18 rfl rfl ?_
  first | refine x_iastN (by assumption) dX7_invite_19 (by omega) (by decide) ?_ | refine x_iast (by assumption) dX7_invite_19 (by assumption) ?_
  refine x_aload_n dX7_invite_20 rfl rfl ?_
  refine gX7_35 dX7_invite_21 rfl (by assumption) rfl ?_
  refine x_bipush (v := 9) dX7_invite_24 (by decide) ?_
  refine x_iload_n dX7_invite_26 rfl rfl ?_
  refine x_iadd dX7_invite_27 ?_
  first | refine x_re (nI_add 9 _) ?_ | skip
  refine x_iload dX7_invite_28 rfl ?_
  first | refine x_iastN (by assumption) dX7_invite_30 (by omega) (by decide) ?_ | refine x_iast (by assumption) dX7_invite_30 (by assumption) ?_
  refine x_return dX7_invite_31 rfl ?_
  exact ⟨rfl, rfl⟩
