/-! THE MODEL'S SHARE: the choice (wip/whole/w56.py) -/
theorem setM_lt0 {fit : Nat → Nat → Bool} {n : Nat} (hn : n ≤ 9) : ∀ (k g : Nat) (fr : Nat → Bool) (ch : Nat → Option Nat), (∀ j i, ch j = some i → i < 9) → ∀ j i, setM fit n k g fr ch j = some i → i < 9 := by
  intro k; induction k with
  | zero => intro g fr ch h; exact h
  | succ k ih =>
    intro g fr ch h
    rw [setM]
    cases hp : fndU (pkF fit n g fr) n 0 with
    | none => exact ih (g + 1) _ _ (fun j i e => by
        by_cases q : j = g
        · rw [q, updO_eq] at e; cases e
        · rw [updO_ne q] at e; exact h j i e)
    | some s =>
      have hs := (fndU_some n 0 s hp).2.1
      exact ih (g + 1) _ _ (fun j i e => by
        by_cases q : j = g
        · rw [q, updO_eq] at e; cases e; omega
        · rw [updO_ne q] at e; exact h j i e)
theorem setM_lt {P : aP} {r : aR} (hn : P.1 ≤ 9) {j i : Nat} (h : shrC P r j = some i) : i < 9 := by
  rw [shrC_set hn] at h
  exact setM_lt0 hn P.1 0 _ _ (fun j i e => by cases e) j i h
set_option maxHeartbeats 1000000 in
set_option maxRecDepth 20000 in
theorem lm_give2 {B : sB} {S0 : sSt} {P : aP} {r : aR} (hm : shM B) (hP0 : pM S0 P) (hr0 : ag (S0 113) r) {S1 : sSt} {g u : Nat} {Q : Option Value → sSt → Prop} (hg : g < P.1) (hu : u < 512) (O : Option Nat) (hex : ∀ S, (∀ a, a ≠ 117 → a ≠ 118 → S a = S0 a) → cnI S P r 0 → (∀ j, j ≠ g → S 118 j = S1 118 j) → S 118 g = oI O → WS B (fun _ => True) yX7_giveAll cX7_giveAll 5 none 5 131 [(2, .int (nI g)), (1, .int (nI u)), (0, .ref (s_ad B 102))] [] S Q) :
    ∀ (k s : Nat) (o : Option Nat) (S : sSt), s + k = P.1 → (∀ a, a ≠ 117 → a ≠ 118 → S a = S0 a) → cnI S P r 0 → (∀ j, j ≠ g → S 118 j = S1 118 j) → S 118 g = oI o → (∀ j, o = some j → j < 9) → o.or (fndU (pkF (fitF P r) P.1 g (frU u)) k s) = O → WS B (fun _ => True) yX7_giveAll cX7_giveAll 5 none 5 28 [(3, .int (nI s)), (2, .int (nI g)), (1, .int (nI u)), (0, .ref (s_ad B 102))] [] S Q := by
  obtain ⟨hm0, h103, h104, h105, h106, h107, h108, h109, h110, h111, h112, h113, h114, h115, h116, h117, h118, h119, h120, h121, h122⟩ := id hm
  intro k
  induction k with
  | zero =>
    intro s o S hs hS hc hF ho ho9 hO
    have hP : pM S P := pM_ag (fun b x y => hS b (by omega) (by omega)) hP0
    have hr : ag (S 113) r := by rw [hS 113 (by omega) (by omega)]; exact hr0
    have hn9 : P.1 ≤ 9 := hP.1
    have hn := hP.2.1
    refine x_iload_n dX7_giveAll_28 rfl rfl ?_
    refine x_aload_n dX7_giveAll_29 rfl rfl ?_
    refine gX7_13 dX7_giveAll_30 rfl (by assumption) rfl ?_
    refine x_iconst (v := 0) dX7_giveAll_33 (by decide) ?_
    refine x_ialdN (j := 0) (by assumption) dX7_giveAll_34 (by decide) (by decide) ?_
    refine x_re hn ?_
    refine x_icmp_ge (tgt := 131) dX7_giveAll_35 (by decide) (fun c_35 => ?_) (fun c_35 => ?_)
    · refine x_wk [1, 2, 3] rfl ?_
      have hb : o = O := by rw [← hO, fndU, Option.or_none]
      exact hex S hS hc hF (by rw [← hb]; exact ho)
    · exact absurd (by rw [← hs]; exact nI_le (by omega) (by omega)) c_35
  | succ k ih =>
    intro s o S hs hS hc hF ho ho9 hO
    have hP : pM S P := pM_ag (fun b x y => hS b (by omega) (by omega)) hP0
    have hr : ag (S 113) r := by rw [hS 113 (by omega) (by omega)]; exact hr0
    have hn9 : P.1 ≤ 9 := hP.1
    have hn := hP.2.1
    refine x_iload_n dX7_giveAll_28 rfl rfl ?_
    refine x_aload_n dX7_giveAll_29 rfl rfl ?_
    refine gX7_13 dX7_giveAll_30 rfl (by assumption) rfl ?_
    refine x_iconst (v := 0) dX7_giveAll_33 (by decide) ?_
    refine x_ialdN (j := 0) (by assumption) dX7_giveAll_34 (by decide) (by decide) ?_
    refine x_re hn ?_
    refine x_icmp_ge (tgt := 131) dX7_giveAll_35 (by decide) (fun c_35 => ?_) (fun c_35 => ?_)
    · exact absurd c_35 (by exact nI_ge (by omega) (by omega))
    · refine x_aload_n dX7_giveAll_38 rfl rfl ?_
      refine gX7_56 dX7_giveAll_39 rfl (by assumption) rfl ?_
      refine x_iload_n dX7_giveAll_42 rfl rfl ?_
      refine x_ialdN (by assumption) dX7_giveAll_43 (by omega) (by decide) ?_
      refine x_re ho ?_
      refine x_bipush (v := (-4)) dX7_giveAll_44 (by decide) ?_
      refine x_icmp_ne (tgt := 131) dX7_giveAll_46 (by decide) (fun c_46 => ?_) (fun c_46 => ?_)
      · obtain ⟨j, rfl⟩ : ∃ j, o = some j := by
          cases o with
          | none => exact absurd rfl c_46
          | some j => exact ⟨j, rfl⟩
        refine x_wk [1, 2, 3] rfl ?_
        exact hex S hS hc hF (by rw [← hO]; exact ho)
      · have ho4 := (oI_eq4 (fun j hj => ho9 j hj)).mp c_46
        subst ho4
        refine x_iload_n dX7_giveAll_49 rfl rfl ?_
        refine x_iload_n dX7_giveAll_50 rfl rfl ?_
        refine x_ishr dX7_giveAll_51 ?_
        refine x_iconst (v := 1) dX7_giveAll_52 (by decide) ?_
        refine x_iand dX7_giveAll_53 ?_
        refine x_re (bt_tst hu (by omega)) ?_
        refine x_ifne_b (tgt := 70) dX7_giveAll_54 (by decide) (fun c_54 => ?_) (fun c_54 => ?_)
        · refine x_iconst (v := 0) dX7_giveAll_70 (by decide) ?_
          refine x_re (b := bI ((frU u s && fitF P r g s) = true)) (show (0 : Int32) = bI ((frU u s && fitF P r g s) = true) from bI_f (fun h => by rw [Bool.and_eq_true] at h; first | exact c_63 h.2 | (have h1 := h.1; unfold frU at h1; rw [c_54] at h1; cases h1))) ?_
          refine x_istore (lv' := [(4, _), (3, _), (2, _), (1, _), (0, _)]) dX7_giveAll_71 (by decide) rfl ?_
          refine x_aload_n dX7_giveAll_73 rfl rfl ?_
          refine gX7_56 dX7_giveAll_74 rfl (by assumption) rfl ?_
          refine x_iload_n dX7_giveAll_77 rfl rfl ?_
          refine x_iload dX7_giveAll_78 rfl ?_
          refine x_ifeq_b (tgt := 122) dX7_giveAll_80 (by decide) (fun c_80 => ?_) (fun c_80 => ?_)
          · have hpk : ¬ pkF (fitF P r) P.1 g (frU u) s = true := by unfold pkF; rw [Bool.and_eq_true]; exact fun h => c_80 h.1
            refine x_bipush (v := (-4)) dX7_giveAll_122 (by decide) ?_
            refine x_iastN (by assumption) dX7_giveAll_124 (by omega) (by decide) ?_
            first | refine x_inc1N (lv' := [(3, _), (4, _), (2, _), (1, _), (0, _)]) dX7_giveAll_125 rfl (by decide) rfl ?_ | refine x_iinc (v := _ + 1) (lv' := [(3, _), (4, _), (2, _), (1, _), (0, _)]) dX7_giveAll_125 rfl rfl (by decide) rfl ?_
            refine x_goto (tgt := 28) dX7_giveAll_128 (by decide) ?_
            refine x_wk [0, 2, 3, 4] rfl ?_
            first
            | (refine ih (s + 1) (some s) _ (by omega) (fun a x y => by rw [s_put_ne y]; exact hS a x y) (fun h a b v hv => by rw [s_put_ne (by omega)]; exact hc h a b v hv) (fun j hj => by rw [s_put_eq, if_neg hj]; exact hF j hj) (by rw [s_put_eq, if_pos rfl]; rfl) (fun j hj => by cases hj; omega) ?_
               rw [← hO, fndU, if_pos hpk]; rfl)
            | (refine ih (s + 1) none _ (by omega) (fun a x y => by rw [s_put_ne y]; exact hS a x y) (fun h a b v hv => by rw [s_put_ne (by omega)]; exact hc h a b v hv) (fun j hj => by rw [s_put_eq, if_neg hj]; exact hF j hj) (by rw [s_put_eq, if_pos rfl]; rfl) (fun j hj => by cases hj) ?_
               rw [← hO, fndU, if_neg hpk])
          · refine x_iconst (v := 1) dX7_giveAll_83 (by decide) ?_
            refine x_aload_n dX7_giveAll_84 rfl rfl ?_
            refine gX7_53 dX7_giveAll_85 rfl (by assumption) rfl ?_
            refine x_sipush (v := 512) dX7_giveAll_88 (by decide) ?_
            refine x_iload_n dX7_giveAll_91 rfl rfl ?_
            refine x_iconst (v := 1) dX7_giveAll_92 (by decide) ?_
            refine x_iadd dX7_giveAll_93 ?_
            first | refine x_re (nI_add _ _) ?_ | skip
            refine x_imul dX7_giveAll_94 ?_
            first | refine x_re (pk_mul 512 _) ?_ | skip
            first | refine x_re (pk_mul 512 _) ?_ | skip
            refine x_iload_n dX7_giveAll_95 rfl rfl ?_
            refine x_iconst (v := 1) dX7_giveAll_96 (by decide) ?_
            refine x_iload_n dX7_giveAll_97 rfl rfl ?_
            refine x_ishl dX7_giveAll_98 ?_
            refine x_ior dX7_giveAll_99 ?_
            refine x_re (bt_set hu (by omega)) ?_
            refine x_iadd dX7_giveAll_100 ?_
            first | refine x_re (nI_add _ _) ?_ | skip
            refine x_ialdN (by assumption) dX7_giveAll_101 (show 512 * (g + 1) + (u ||| 1 <<< s) < 5120 by have := bt_lt (s := s) hu (by omega); omega) (by decide) ?_
            refine x_re (hc (g + 1) (Nat.zero_le _) (by omega) _ (bt_lt hu (by omega))) ?_
            rw [frU_set]
            refine x_iadd dX7_giveAll_102 ?_
            refine x_re (nI_add 1 _) ?_
            refine x_aload_n dX7_giveAll_103 rfl rfl ?_
            refine gX7_53 dX7_giveAll_104 rfl (by assumption) rfl ?_
            refine x_sipush (v := 512) dX7_giveAll_107 (by decide) ?_
            refine x_iload_n dX7_giveAll_110 rfl rfl ?_
            refine x_imul dX7_giveAll_111 ?_
            first | refine x_re (pk_mul 512 _) ?_ | skip
            first | refine x_re (pk_mul 512 _) ?_ | skip
            refine x_iload_n dX7_giveAll_112 rfl rfl ?_
            refine x_iadd dX7_giveAll_113 ?_
            first | refine x_re (nI_add _ _) ?_ | skip
            refine x_ialdN (by assumption) dX7_giveAll_114 (show 512 * g + u < 5120 by omega) (by decide) ?_
            refine x_re (hc g (Nat.zero_le _) (by omega) _ hu) ?_
            refine x_icmp_ne (tgt := 122) dX7_giveAll_115 (by decide) (fun c_115 => ?_) (fun c_115 => ?_)
            · have hpk : ¬ pkF (fitF P r) P.1 g (frU u) s = true := by
                unfold pkF
                rw [Bool.and_eq_true]
                exact fun h => c_115 (by rw [eq_of_beq h.2])
              refine x_bipush (v := (-4)) dX7_giveAll_122 (by decide) ?_
              refine x_iastN (by assumption) dX7_giveAll_124 (by omega) (by decide) ?_
              first | refine x_inc1N (lv' := [(3, _), (4, _), (2, _), (1, _), (0, _)]) dX7_giveAll_125 rfl (by decide) rfl ?_ | refine x_iinc (v := _ + 1) (lv' := [(3, _), (4, _), (2, _), (1, _), (0, _)]) dX7_giveAll_125 rfl rfl (by decide) rfl ?_
              refine x_goto (tgt := 28) dX7_giveAll_128 (by decide) ?_
              refine x_wk [0, 2, 3, 4] rfl ?_
              first
              | (refine ih (s + 1) (some s) _ (by omega) (fun a x y => by rw [s_put_ne y]; exact hS a x y) (fun h a b v hv => by rw [s_put_ne (by omega)]; exact hc h a b v hv) (fun j hj => by rw [s_put_eq, if_neg hj]; exact hF j hj) (by rw [s_put_eq, if_pos rfl]; rfl) (fun j hj => by cases hj; omega) ?_
                 rw [← hO, fndU, if_pos hpk]; rfl)
              | (refine ih (s + 1) none _ (by omega) (fun a x y => by rw [s_put_ne y]; exact hS a x y) (fun h a b v hv => by rw [s_put_ne (by omega)]; exact hc h a b v hv) (fun j hj => by rw [s_put_eq, if_neg hj]; exact hF j hj) (by rw [s_put_eq, if_pos rfl]; rfl) (fun j hj => by cases hj) ?_
                 rw [← hO, fndU, if_neg hpk])
            · have hpk : pkF (fitF P r) P.1 g (frU u) s = true := by
                unfold pkF
                rw [c_80, Bool.true_and, (nI_eq (by have := dpB_le (fit := fitF P r) (n := P.1) (P.1 - (g + 1)) (updB (frU u) s false); omega) (by have := dpB_le (fit := fitF P r) (n := P.1) (P.1 - g) (frU u); omega)).mp c_115]
                exact beq_self_eq_true _
              refine x_iload_n dX7_giveAll_118 rfl rfl ?_
              refine x_goto (tgt := 124) dX7_giveAll_119 (by decide) ?_
              refine x_iastN (by assumption) dX7_giveAll_124 (by omega) (by decide) ?_
              first | refine x_inc1N (lv' := [(3, _), (4, _), (2, _), (1, _), (0, _)]) dX7_giveAll_125 rfl (by decide) rfl ?_ | refine x_iinc (v := _ + 1) (lv' := [(3, _), (4, _), (2, _), (1, _), (0, _)]) dX7_giveAll_125 rfl rfl (by decide) rfl ?_
              refine x_goto (tgt := 28) dX7_giveAll_128 (by decide) ?_
              refine x_wk [0, 2, 3, 4] rfl ?_
              first
              | (refine ih (s + 1) (some s) _ (by omega) (fun a x y => by rw [s_put_ne y]; exact hS a x y) (fun h a b v hv => by rw [s_put_ne (by omega)]; exact hc h a b v hv) (fun j hj => by rw [s_put_eq, if_neg hj]; exact hF j hj) (by rw [s_put_eq, if_pos rfl]; rfl) (fun j hj => by cases hj; omega) ?_
                 rw [← hO, fndU, if_pos hpk]; rfl)
              | (refine ih (s + 1) none _ (by omega) (fun a x y => by rw [s_put_ne y]; exact hS a x y) (fun h a b v hv => by rw [s_put_ne (by omega)]; exact hc h a b v hv) (fun j hj => by rw [s_put_eq, if_neg hj]; exact hF j hj) (by rw [s_put_eq, if_pos rfl]; rfl) (fun j hj => by cases hj) ?_
                 rw [← hO, fndU, if_neg hpk])
        · refine x_aload_n dX7_giveAll_57 rfl rfl ?_
          refine x_iload_n dX7_giveAll_58 rfl rfl ?_
          refine x_iload_n dX7_giveAll_59 rfl rfl ?_
          refine kX7_183 dX7_giveAll_60 rfl (by assumption) (c_isFor hm hP hr hg (show s < P.1 by omega)) (by decide) (Nat.le_of_ble_eq_true rfl) ?_
          refine x_ifeq_b (tgt := 70) dX7_giveAll_63 (by decide) (fun c_63 => ?_) (fun c_63 => ?_)
          · refine x_iconst (v := 0) dX7_giveAll_70 (by decide) ?_
            refine x_re (b := bI ((frU u s && fitF P r g s) = true)) (show (0 : Int32) = bI ((frU u s && fitF P r g s) = true) from bI_f (fun h => by rw [Bool.and_eq_true] at h; first | exact c_63 h.2 | (have h1 := h.1; unfold frU at h1; rw [c_54] at h1; cases h1))) ?_
            refine x_istore (lv' := [(4, _), (3, _), (2, _), (1, _), (0, _)]) dX7_giveAll_71 (by decide) rfl ?_
            refine x_aload_n dX7_giveAll_73 rfl rfl ?_
            refine gX7_56 dX7_giveAll_74 rfl (by assumption) rfl ?_
            refine x_iload_n dX7_giveAll_77 rfl rfl ?_
            refine x_iload dX7_giveAll_78 rfl ?_
            refine x_ifeq_b (tgt := 122) dX7_giveAll_80 (by decide) (fun c_80 => ?_) (fun c_80 => ?_)
            · have hpk : ¬ pkF (fitF P r) P.1 g (frU u) s = true := by unfold pkF; rw [Bool.and_eq_true]; exact fun h => c_80 h.1
              refine x_bipush (v := (-4)) dX7_giveAll_122 (by decide) ?_
              refine x_iastN (by assumption) dX7_giveAll_124 (by omega) (by decide) ?_
              first | refine x_inc1N (lv' := [(3, _), (4, _), (2, _), (1, _), (0, _)]) dX7_giveAll_125 rfl (by decide) rfl ?_ | refine x_iinc (v := _ + 1) (lv' := [(3, _), (4, _), (2, _), (1, _), (0, _)]) dX7_giveAll_125 rfl rfl (by decide) rfl ?_
              refine x_goto (tgt := 28) dX7_giveAll_128 (by decide) ?_
              refine x_wk [0, 2, 3, 4] rfl ?_
              first
              | (refine ih (s + 1) (some s) _ (by omega) (fun a x y => by rw [s_put_ne y]; exact hS a x y) (fun h a b v hv => by rw [s_put_ne (by omega)]; exact hc h a b v hv) (fun j hj => by rw [s_put_eq, if_neg hj]; exact hF j hj) (by rw [s_put_eq, if_pos rfl]; rfl) (fun j hj => by cases hj; omega) ?_
                 rw [← hO, fndU, if_pos hpk]; rfl)
              | (refine ih (s + 1) none _ (by omega) (fun a x y => by rw [s_put_ne y]; exact hS a x y) (fun h a b v hv => by rw [s_put_ne (by omega)]; exact hc h a b v hv) (fun j hj => by rw [s_put_eq, if_neg hj]; exact hF j hj) (by rw [s_put_eq, if_pos rfl]; rfl) (fun j hj => by cases hj) ?_
                 rw [← hO, fndU, if_neg hpk])
            · refine x_iconst (v := 1) dX7_giveAll_83 (by decide) ?_
              refine x_aload_n dX7_giveAll_84 rfl rfl ?_
              refine gX7_53 dX7_giveAll_85 rfl (by assumption) rfl ?_
              refine x_sipush (v := 512) dX7_giveAll_88 (by decide) ?_
              refine x_iload_n dX7_giveAll_91 rfl rfl ?_
              refine x_iconst (v := 1) dX7_giveAll_92 (by decide) ?_
              refine x_iadd dX7_giveAll_93 ?_
              first | refine x_re (nI_add _ _) ?_ | skip
              refine x_imul dX7_giveAll_94 ?_
              first | refine x_re (pk_mul 512 _) ?_ | skip
              first | refine x_re (pk_mul 512 _) ?_ | skip
              refine x_iload_n dX7_giveAll_95 rfl rfl ?_
              refine x_iconst (v := 1) dX7_giveAll_96 (by decide) ?_
              refine x_iload_n dX7_giveAll_97 rfl rfl ?_
              refine x_ishl dX7_giveAll_98 ?_
              refine x_ior dX7_giveAll_99 ?_
              refine x_re (bt_set hu (by omega)) ?_
              refine x_iadd dX7_giveAll_100 ?_
              first | refine x_re (nI_add _ _) ?_ | skip
              refine x_ialdN (by assumption) dX7_giveAll_101 (show 512 * (g + 1) + (u ||| 1 <<< s) < 5120 by have := bt_lt (s := s) hu (by omega); omega) (by decide) ?_
              refine x_re (hc (g + 1) (Nat.zero_le _) (by omega) _ (bt_lt hu (by omega))) ?_
              rw [frU_set]
              refine x_iadd dX7_giveAll_102 ?_
              refine x_re (nI_add 1 _) ?_
              refine x_aload_n dX7_giveAll_103 rfl rfl ?_
              refine gX7_53 dX7_giveAll_104 rfl (by assumption) rfl ?_
              refine x_sipush (v := 512) dX7_giveAll_107 (by decide) ?_
              refine x_iload_n dX7_giveAll_110 rfl rfl ?_
              refine x_imul dX7_giveAll_111 ?_
              first | refine x_re (pk_mul 512 _) ?_ | skip
              first | refine x_re (pk_mul 512 _) ?_ | skip
              refine x_iload_n dX7_giveAll_112 rfl rfl ?_
              refine x_iadd dX7_giveAll_113 ?_
              first | refine x_re (nI_add _ _) ?_ | skip
              refine x_ialdN (by assumption) dX7_giveAll_114 (show 512 * g + u < 5120 by omega) (by decide) ?_
              refine x_re (hc g (Nat.zero_le _) (by omega) _ hu) ?_
              refine x_icmp_ne (tgt := 122) dX7_giveAll_115 (by decide) (fun c_115 => ?_) (fun c_115 => ?_)
              · have hpk : ¬ pkF (fitF P r) P.1 g (frU u) s = true := by
                  unfold pkF
                  rw [Bool.and_eq_true]
                  exact fun h => c_115 (by rw [eq_of_beq h.2])
                refine x_bipush (v := (-4)) dX7_giveAll_122 (by decide) ?_
                refine x_iastN (by assumption) dX7_giveAll_124 (by omega) (by decide) ?_
                first | refine x_inc1N (lv' := [(3, _), (4, _), (2, _), (1, _), (0, _)]) dX7_giveAll_125 rfl (by decide) rfl ?_ | refine x_iinc (v := _ + 1) (lv' := [(3, _), (4, _), (2, _), (1, _), (0, _)]) dX7_giveAll_125 rfl rfl (by decide) rfl ?_
                refine x_goto (tgt := 28) dX7_giveAll_128 (by decide) ?_
                refine x_wk [0, 2, 3, 4] rfl ?_
                first
                | (refine ih (s + 1) (some s) _ (by omega) (fun a x y => by rw [s_put_ne y]; exact hS a x y) (fun h a b v hv => by rw [s_put_ne (by omega)]; exact hc h a b v hv) (fun j hj => by rw [s_put_eq, if_neg hj]; exact hF j hj) (by rw [s_put_eq, if_pos rfl]; rfl) (fun j hj => by cases hj; omega) ?_
                   rw [← hO, fndU, if_pos hpk]; rfl)
                | (refine ih (s + 1) none _ (by omega) (fun a x y => by rw [s_put_ne y]; exact hS a x y) (fun h a b v hv => by rw [s_put_ne (by omega)]; exact hc h a b v hv) (fun j hj => by rw [s_put_eq, if_neg hj]; exact hF j hj) (by rw [s_put_eq, if_pos rfl]; rfl) (fun j hj => by cases hj) ?_
                   rw [← hO, fndU, if_neg hpk])
              · have hpk : pkF (fitF P r) P.1 g (frU u) s = true := by
                  unfold pkF
                  rw [c_80, Bool.true_and, (nI_eq (by have := dpB_le (fit := fitF P r) (n := P.1) (P.1 - (g + 1)) (updB (frU u) s false); omega) (by have := dpB_le (fit := fitF P r) (n := P.1) (P.1 - g) (frU u); omega)).mp c_115]
                  exact beq_self_eq_true _
                refine x_iload_n dX7_giveAll_118 rfl rfl ?_
                refine x_goto (tgt := 124) dX7_giveAll_119 (by decide) ?_
                refine x_iastN (by assumption) dX7_giveAll_124 (by omega) (by decide) ?_
                first | refine x_inc1N (lv' := [(3, _), (4, _), (2, _), (1, _), (0, _)]) dX7_giveAll_125 rfl (by decide) rfl ?_ | refine x_iinc (v := _ + 1) (lv' := [(3, _), (4, _), (2, _), (1, _), (0, _)]) dX7_giveAll_125 rfl rfl (by decide) rfl ?_
                refine x_goto (tgt := 28) dX7_giveAll_128 (by decide) ?_
                refine x_wk [0, 2, 3, 4] rfl ?_
                first
                | (refine ih (s + 1) (some s) _ (by omega) (fun a x y => by rw [s_put_ne y]; exact hS a x y) (fun h a b v hv => by rw [s_put_ne (by omega)]; exact hc h a b v hv) (fun j hj => by rw [s_put_eq, if_neg hj]; exact hF j hj) (by rw [s_put_eq, if_pos rfl]; rfl) (fun j hj => by cases hj; omega) ?_
                   rw [← hO, fndU, if_pos hpk]; rfl)
                | (refine ih (s + 1) none _ (by omega) (fun a x y => by rw [s_put_ne y]; exact hS a x y) (fun h a b v hv => by rw [s_put_ne (by omega)]; exact hc h a b v hv) (fun j hj => by rw [s_put_eq, if_neg hj]; exact hF j hj) (by rw [s_put_eq, if_pos rfl]; rfl) (fun j hj => by cases hj) ?_
                   rw [← hO, fndU, if_neg hpk])
          · refine x_iconst (v := 1) dX7_giveAll_66 (by decide) ?_
            refine x_re (b := bI ((frU u s && fitF P r g s) = true)) (show (1 : Int32) = bI ((frU u s && fitF P r g s) = true) from bI_t (by rw [c_63, Bool.and_true]; unfold frU; rw [Bool.eq_false_iff.mpr c_54]; rfl)) ?_
            refine x_goto (tgt := 71) dX7_giveAll_67 (by decide) ?_
            refine x_istore (lv' := [(4, _), (3, _), (2, _), (1, _), (0, _)]) dX7_giveAll_71 (by decide) rfl ?_
            refine x_aload_n dX7_giveAll_73 rfl rfl ?_
            refine gX7_56 dX7_giveAll_74 rfl (by assumption) rfl ?_
            refine x_iload_n dX7_giveAll_77 rfl rfl ?_
            refine x_iload dX7_giveAll_78 rfl ?_
            refine x_ifeq_b (tgt := 122) dX7_giveAll_80 (by decide) (fun c_80 => ?_) (fun c_80 => ?_)
            · have hpk : ¬ pkF (fitF P r) P.1 g (frU u) s = true := by unfold pkF; rw [Bool.and_eq_true]; exact fun h => c_80 h.1
              refine x_bipush (v := (-4)) dX7_giveAll_122 (by decide) ?_
              refine x_iastN (by assumption) dX7_giveAll_124 (by omega) (by decide) ?_
              first | refine x_inc1N (lv' := [(3, _), (4, _), (2, _), (1, _), (0, _)]) dX7_giveAll_125 rfl (by decide) rfl ?_ | refine x_iinc (v := _ + 1) (lv' := [(3, _), (4, _), (2, _), (1, _), (0, _)]) dX7_giveAll_125 rfl rfl (by decide) rfl ?_
              refine x_goto (tgt := 28) dX7_giveAll_128 (by decide) ?_
              refine x_wk [0, 2, 3, 4] rfl ?_
              first
              | (refine ih (s + 1) (some s) _ (by omega) (fun a x y => by rw [s_put_ne y]; exact hS a x y) (fun h a b v hv => by rw [s_put_ne (by omega)]; exact hc h a b v hv) (fun j hj => by rw [s_put_eq, if_neg hj]; exact hF j hj) (by rw [s_put_eq, if_pos rfl]; rfl) (fun j hj => by cases hj; omega) ?_
                 rw [← hO, fndU, if_pos hpk]; rfl)
              | (refine ih (s + 1) none _ (by omega) (fun a x y => by rw [s_put_ne y]; exact hS a x y) (fun h a b v hv => by rw [s_put_ne (by omega)]; exact hc h a b v hv) (fun j hj => by rw [s_put_eq, if_neg hj]; exact hF j hj) (by rw [s_put_eq, if_pos rfl]; rfl) (fun j hj => by cases hj) ?_
                 rw [← hO, fndU, if_neg hpk])
            · refine x_iconst (v := 1) dX7_giveAll_83 (by decide) ?_
              refine x_aload_n dX7_giveAll_84 rfl rfl ?_
              refine gX7_53 dX7_giveAll_85 rfl (by assumption) rfl ?_
              refine x_sipush (v := 512) dX7_giveAll_88 (by decide) ?_
              refine x_iload_n dX7_giveAll_91 rfl rfl ?_
              refine x_iconst (v := 1) dX7_giveAll_92 (by decide) ?_
              refine x_iadd dX7_giveAll_93 ?_
              first | refine x_re (nI_add _ _) ?_ | skip
              refine x_imul dX7_giveAll_94 ?_
              first | refine x_re (pk_mul 512 _) ?_ | skip
              first | refine x_re (pk_mul 512 _) ?_ | skip
              refine x_iload_n dX7_giveAll_95 rfl rfl ?_
              refine x_iconst (v := 1) dX7_giveAll_96 (by decide) ?_
              refine x_iload_n dX7_giveAll_97 rfl rfl ?_
              refine x_ishl dX7_giveAll_98 ?_
              refine x_ior dX7_giveAll_99 ?_
              refine x_re (bt_set hu (by omega)) ?_
              refine x_iadd dX7_giveAll_100 ?_
              first | refine x_re (nI_add _ _) ?_ | skip
              refine x_ialdN (by assumption) dX7_giveAll_101 (show 512 * (g + 1) + (u ||| 1 <<< s) < 5120 by have := bt_lt (s := s) hu (by omega); omega) (by decide) ?_
              refine x_re (hc (g + 1) (Nat.zero_le _) (by omega) _ (bt_lt hu (by omega))) ?_
              rw [frU_set]
              refine x_iadd dX7_giveAll_102 ?_
              refine x_re (nI_add 1 _) ?_
              refine x_aload_n dX7_giveAll_103 rfl rfl ?_
              refine gX7_53 dX7_giveAll_104 rfl (by assumption) rfl ?_
              refine x_sipush (v := 512) dX7_giveAll_107 (by decide) ?_
              refine x_iload_n dX7_giveAll_110 rfl rfl ?_
              refine x_imul dX7_giveAll_111 ?_
              first | refine x_re (pk_mul 512 _) ?_ | skip
              first | refine x_re (pk_mul 512 _) ?_ | skip
              refine x_iload_n dX7_giveAll_112 rfl rfl ?_
              refine x_iadd dX7_giveAll_113 ?_
              first | refine x_re (nI_add _ _) ?_ | skip
              refine x_ialdN (by assumption) dX7_giveAll_114 (show 512 * g + u < 5120 by omega) (by decide) ?_
              refine x_re (hc g (Nat.zero_le _) (by omega) _ hu) ?_
              refine x_icmp_ne (tgt := 122) dX7_giveAll_115 (by decide) (fun c_115 => ?_) (fun c_115 => ?_)
              · have hpk : ¬ pkF (fitF P r) P.1 g (frU u) s = true := by
                  unfold pkF
                  rw [Bool.and_eq_true]
                  exact fun h => c_115 (by rw [eq_of_beq h.2])
                refine x_bipush (v := (-4)) dX7_giveAll_122 (by decide) ?_
                refine x_iastN (by assumption) dX7_giveAll_124 (by omega) (by decide) ?_
                first | refine x_inc1N (lv' := [(3, _), (4, _), (2, _), (1, _), (0, _)]) dX7_giveAll_125 rfl (by decide) rfl ?_ | refine x_iinc (v := _ + 1) (lv' := [(3, _), (4, _), (2, _), (1, _), (0, _)]) dX7_giveAll_125 rfl rfl (by decide) rfl ?_
                refine x_goto (tgt := 28) dX7_giveAll_128 (by decide) ?_
                refine x_wk [0, 2, 3, 4] rfl ?_
                first
                | (refine ih (s + 1) (some s) _ (by omega) (fun a x y => by rw [s_put_ne y]; exact hS a x y) (fun h a b v hv => by rw [s_put_ne (by omega)]; exact hc h a b v hv) (fun j hj => by rw [s_put_eq, if_neg hj]; exact hF j hj) (by rw [s_put_eq, if_pos rfl]; rfl) (fun j hj => by cases hj; omega) ?_
                   rw [← hO, fndU, if_pos hpk]; rfl)
                | (refine ih (s + 1) none _ (by omega) (fun a x y => by rw [s_put_ne y]; exact hS a x y) (fun h a b v hv => by rw [s_put_ne (by omega)]; exact hc h a b v hv) (fun j hj => by rw [s_put_eq, if_neg hj]; exact hF j hj) (by rw [s_put_eq, if_pos rfl]; rfl) (fun j hj => by cases hj) ?_
                   rw [← hO, fndU, if_neg hpk])
              · have hpk : pkF (fitF P r) P.1 g (frU u) s = true := by
                  unfold pkF
                  rw [c_80, Bool.true_and, (nI_eq (by have := dpB_le (fit := fitF P r) (n := P.1) (P.1 - (g + 1)) (updB (frU u) s false); omega) (by have := dpB_le (fit := fitF P r) (n := P.1) (P.1 - g) (frU u); omega)).mp c_115]
                  exact beq_self_eq_true _
                refine x_iload_n dX7_giveAll_118 rfl rfl ?_
                refine x_goto (tgt := 124) dX7_giveAll_119 (by decide) ?_
                refine x_iastN (by assumption) dX7_giveAll_124 (by omega) (by decide) ?_
                first | refine x_inc1N (lv' := [(3, _), (4, _), (2, _), (1, _), (0, _)]) dX7_giveAll_125 rfl (by decide) rfl ?_ | refine x_iinc (v := _ + 1) (lv' := [(3, _), (4, _), (2, _), (1, _), (0, _)]) dX7_giveAll_125 rfl rfl (by decide) rfl ?_
                refine x_goto (tgt := 28) dX7_giveAll_128 (by decide) ?_
                refine x_wk [0, 2, 3, 4] rfl ?_
                first
                | (refine ih (s + 1) (some s) _ (by omega) (fun a x y => by rw [s_put_ne y]; exact hS a x y) (fun h a b v hv => by rw [s_put_ne (by omega)]; exact hc h a b v hv) (fun j hj => by rw [s_put_eq, if_neg hj]; exact hF j hj) (by rw [s_put_eq, if_pos rfl]; rfl) (fun j hj => by cases hj; omega) ?_
                   rw [← hO, fndU, if_pos hpk]; rfl)
                | (refine ih (s + 1) none _ (by omega) (fun a x y => by rw [s_put_ne y]; exact hS a x y) (fun h a b v hv => by rw [s_put_ne (by omega)]; exact hc h a b v hv) (fun j hj => by rw [s_put_eq, if_neg hj]; exact hF j hj) (by rw [s_put_eq, if_pos rfl]; rfl) (fun j hj => by cases hj) ?_
                   rw [← hO, fndU, if_neg hpk])

set_option maxHeartbeats 1000000 in
set_option maxRecDepth 20000 in
theorem lm_give1 {B : sB} {S0 : sSt} {P : aP} {r : aR} (hm : shM B) (hP0 : pM S0 P) (hr0 : ag (S0 113) r) :
    ∀ (k g u : Nat) (ch : Nat → Option Nat) (S : sSt), g + k = P.1 → u < 512 → (∀ a, a ≠ 117 → a ≠ 118 → S a = S0 a) → cnI S P r 0 → (∀ j, j < g → S 118 j = oI (ch j)) → setM (fitF P r) P.1 k g (frU u) ch = shrC P r → WS B (fun _ => True) yX7_giveAll cX7_giveAll 5 none 5 8 [(2, .int (nI g)), (1, .int (nI u)), (0, .ref (s_ad B 102))] [] S (fun v S => v = none ∧ (∀ a, a ≠ 117 → a ≠ 118 → S a = S0 a) ∧ cnI S P r 0 ∧ ∀ j, j < P.1 → S 118 j = oI (shrC P r j)) := by
  obtain ⟨hm0, h103, h104, h105, h106, h107, h108, h109, h110, h111, h112, h113, h114, h115, h116, h117, h118, h119, h120, h121, h122⟩ := id hm
  intro k
  induction k with
  | zero =>
    intro g u ch S hg hu hS hc hp hch
    have hP : pM S P := pM_ag (fun b x y => hS b (by omega) (by omega)) hP0
    have hr : ag (S 113) r := by rw [hS 113 (by omega) (by omega)]; exact hr0
    have hn9 : P.1 ≤ 9 := hP.1
    have hn := hP.2.1
    refine x_iload_n dX7_giveAll_8 rfl rfl ?_
    refine x_aload_n dX7_giveAll_9 rfl rfl ?_
    refine gX7_13 dX7_giveAll_10 rfl (by assumption) rfl ?_
    refine x_iconst (v := 0) dX7_giveAll_13 (by decide) ?_
    refine x_ialdN (j := 0) (by assumption) dX7_giveAll_14 (by decide) (by decide) ?_
    refine x_re hn ?_
    refine x_icmp_ge (tgt := 163) dX7_giveAll_15 (by decide) (fun c_15 => ?_) (fun c_15 => ?_)
    · refine x_return dX7_giveAll_163 rfl ?_
      exact ⟨rfl, hS, hc, fun j hj => by rw [← hch]; exact hp j (by omega)⟩
    · exact absurd (by rw [← hg]; exact nI_le (by omega) (by omega)) c_15
  | succ k ih =>
    intro g u ch S hg hu hS hc hp hch
    have hP : pM S P := pM_ag (fun b x y => hS b (by omega) (by omega)) hP0
    have hr : ag (S 113) r := by rw [hS 113 (by omega) (by omega)]; exact hr0
    have hn9 : P.1 ≤ 9 := hP.1
    have hn := hP.2.1
    refine x_iload_n dX7_giveAll_8 rfl rfl ?_
    refine x_aload_n dX7_giveAll_9 rfl rfl ?_
    refine gX7_13 dX7_giveAll_10 rfl (by assumption) rfl ?_
    refine x_iconst (v := 0) dX7_giveAll_13 (by decide) ?_
    refine x_ialdN (j := 0) (by assumption) dX7_giveAll_14 (by decide) (by decide) ?_
    refine x_re hn ?_
    refine x_icmp_ge (tgt := 163) dX7_giveAll_15 (by decide) (fun c_15 => ?_) (fun c_15 => ?_)
    · exact absurd c_15 (by exact nI_ge (by omega) (by omega))
    · refine x_aload_n dX7_giveAll_18 rfl rfl ?_
      refine gX7_56 dX7_giveAll_19 rfl (by assumption) rfl ?_
      refine x_iload_n dX7_giveAll_22 rfl rfl ?_
      refine x_bipush (v := (-4)) dX7_giveAll_23 (by decide) ?_
      refine x_iastN (by assumption) dX7_giveAll_25 (by omega) (by decide) ?_
      refine x_iconst (v := 0) dX7_giveAll_26 (by decide) ?_
      refine x_istore_n (lv' := [(3, _), (2, _), (1, _), (0, _)]) dX7_giveAll_27 rfl (by decide) rfl ?_
      refine x_wk [0, 1, 2, 3] rfl ?_
      refine lm_give2 (S1 := s_put S 118 g (-4)) hm hP0 hr0 (show g < P.1 by omega) hu (fndU (pkF (fitF P r) P.1 g (frU u)) P.1 0) (fun S2 hS2 hc2 hF2 hg2 => ?_) P.1 0 none _ (by omega) (fun a x y => by rw [s_put_ne y]; exact hS a x y) (fun h a b v hv => by rw [s_put_ne (by omega)]; exact hc h a b v hv) (fun j hj => rfl) (by rw [s_put_eq, if_pos rfl]; rfl) (fun j hj => by cases hj) (by rw [Option.none_or])
      have hp2 : ∀ j, j < g → S2 118 j = oI (ch j) := fun j hj => by rw [hF2 j (by omega), s_put_eq, if_neg (by omega)]; exact hp j hj
      have hp3 : ∀ j, j < g + 1 → S2 118 j = oI (updO ch g (fndU (pkF (fitF P r) P.1 g (frU u)) P.1 0) j) := fun j hj => by
        by_cases hjg : j = g
        · rw [hjg, updO_eq]; exact hg2
        · rw [updO_ne hjg]; exact hp2 j (by omega)
      have hO9 : ∀ j, fndU (pkF (fitF P r) P.1 g (frU u)) P.1 0 = some j → j < 9 := fun j hj => by have := (fndU_some _ _ _ hj).2.1; omega
      rw [setM] at hch
      refine x_iload_n dX7_giveAll_131 rfl rfl ?_
      refine x_aload_n dX7_giveAll_132 rfl rfl ?_
      refine gX7_56 dX7_giveAll_133 rfl (by assumption) rfl ?_
      refine x_iload_n dX7_giveAll_136 rfl rfl ?_
      refine x_ialdN (by assumption) dX7_giveAll_137 (by omega) (by decide) ?_
      refine x_re hg2 ?_
      refine x_bipush (v := (-4)) dX7_giveAll_138 (by decide) ?_
      refine x_icmp_ne (tgt := 147) dX7_giveAll_140 (by decide) (fun c_140 => ?_) (fun c_140 => ?_)
      · obtain ⟨j, hO⟩ : ∃ j, fndU (pkF (fitF P r) P.1 g (frU u)) P.1 0 = some j := by
          cases hO : fndU (pkF (fitF P r) P.1 g (frU u)) P.1 0 with
          | none => rw [hO] at c_140; exact absurd rfl c_140
          | some j => exact ⟨j, rfl⟩
        have hj9 := hO9 j hO
        rw [hO] at hch hp3 hg2
        refine x_iconst (v := 1) dX7_giveAll_147 (by decide) ?_
        refine x_aload_n dX7_giveAll_148 rfl rfl ?_
        refine gX7_56 dX7_giveAll_149 rfl (by assumption) rfl ?_
        refine x_iload_n dX7_giveAll_152 rfl rfl ?_
        refine x_ialdN (by assumption) dX7_giveAll_153 (by omega) (by decide) ?_
        refine x_re hg2 ?_
        refine x_ishl dX7_giveAll_154 ?_
        refine x_ior dX7_giveAll_155 ?_
        first | refine x_re (or_0 _) ?_ | refine x_re (bt_set hu hj9) ?_
        refine x_istore_n (lv' := [(1, _), (2, _), (0, _)]) dX7_giveAll_156 rfl (by decide) rfl ?_
        first | refine x_inc1N (lv' := [(2, _), (1, _), (0, _)]) dX7_giveAll_157 rfl (by decide) rfl ?_ | refine x_iinc (v := _ + 1) (lv' := [(2, _), (1, _), (0, _)]) dX7_giveAll_157 rfl rfl (by decide) rfl ?_
        refine x_goto (tgt := 8) dX7_giveAll_160 (by decide) ?_
        refine x_wk [0, 1, 2] rfl ?_
        first
        | exact ih (g + 1) u (updO ch g none) S2 (by omega) hu hS2 hc2 hp3 hch
        | exact ih (g + 1) (u ||| 1 <<< j) (updO ch g (some j)) S2 (by omega) (bt_lt hu hj9) hS2 hc2 hp3 (by rw [frU_set]; exact hch)
      · have hO := (oI_eq4 hO9).mp c_140
        rw [hO] at hch hp3 hg2
        refine x_iconst (v := 0) dX7_giveAll_143 (by decide) ?_
        refine x_goto (tgt := 155) dX7_giveAll_144 (by decide) ?_
        refine x_ior dX7_giveAll_155 ?_
        first | refine x_re (or_0 _) ?_ | refine x_re (bt_set hu hj9) ?_
        refine x_istore_n (lv' := [(1, _), (2, _), (0, _)]) dX7_giveAll_156 rfl (by decide) rfl ?_
        first | refine x_inc1N (lv' := [(2, _), (1, _), (0, _)]) dX7_giveAll_157 rfl (by decide) rfl ?_ | refine x_iinc (v := _ + 1) (lv' := [(2, _), (1, _), (0, _)]) dX7_giveAll_157 rfl rfl (by decide) rfl ?_
        refine x_goto (tgt := 8) dX7_giveAll_160 (by decide) ?_
        refine x_wk [0, 1, 2] rfl ?_
        first
        | exact ih (g + 1) u (updO ch g none) S2 (by omega) hu hS2 hc2 hp3 hch
        | exact ih (g + 1) (u ||| 1 <<< j) (updO ch g (some j)) S2 (by omega) (bt_lt hu hj9) hS2 hc2 hp3 (by rw [frU_set]; exact hch)

set_option maxHeartbeats 1000000 in
set_option maxRecDepth 20000 in
theorem c_giveAll {B : sB} {S0 : sSt} {P : aP} {r : aR} (hm : shM B) (hP0 : pM S0 P) (hr0 : ag (S0 113) r) : CS B yX7_giveAll cX7_giveAll 5 none 5 [.ref (s_ad B 102)] S0 (fun v S => v = none ∧ (∀ a, a ≠ 117 → a ≠ 118 → S a = S0 a) ∧ cnI S P r 0 ∧ ∀ j, j < P.1 → S 118 j = oI (shrC P r j)) := by
  refine cs_intro (lv := [(0, .ref (s_ad B 102))]) rfl ?_
  obtain ⟨hm0, h103, h104, h105, h106, h107, h108, h109, h110, h111, h112, h113, h114, h115, h116, h117, h118, h119, h120, h121, h122⟩ := id hm
  refine x_aload_n dX7_giveAll_0 rfl rfl ?_
  refine kX7_186r dX7_giveAll_1 rfl (by assumption) (c_measure hm hP0 hr0) (by decide) (Nat.le_of_ble_eq_true rfl) (fun S hq => ?_)
  obtain ⟨-, hS, hc⟩ := hq
  refine x_iconst (v := 0) dX7_giveAll_4 (by decide) ?_
  refine x_istore_n (lv' := [(1, _), (0, _)]) dX7_giveAll_5 rfl (by decide) rfl ?_
  refine x_iconst (v := 0) dX7_giveAll_6 (by decide) ?_
  refine x_istore_n (lv' := [(2, _), (1, _), (0, _)]) dX7_giveAll_7 rfl (by decide) rfl ?_
  refine x_wk [0, 1, 2] rfl ?_
  exact lm_give1 hm hP0 hr0 P.1 0 0 (fun _ => none) S (by omega) (by decide) hS hc (fun j hj => absurd hj (Nat.not_lt_zero j)) (by rw [frU_0]; exact (shrC_set hP0.1).symm)

set_option maxHeartbeats 1000000 in
set_option maxRecDepth 20000 in
theorem cM_share {B : sB} {S : sSt} {T : Nat × (Nat → Nat)} {P : aP} {r : aR} {acts kept : List aR} {f : aF} (hm : shM B) (hX : RM S (T, P, r, acts, kept, f)) (hI : iA (T, P, r, acts, kept, f)) {x : Int32} : CS B yX7_share cX7_share 2 (some .int) 6 [.ref (s_ad B 102), .int x] S (qR S (o_share (T, P, r, acts, kept, f) x)) := by
  refine cs_intro (lv := [(0, .ref (s_ad B 102)), (1, .int x)]) rfl ?_
  obtain ⟨hm0, h103, h104, h105, h106, h107, h108, h109, h110, h111, h112, h113, h114, h115, h116, h117, h118, h119, h120, h121, h122⟩ := id hm
  obtain ⟨xT, xP, xB, xA, xE, xF⟩ := id hX
  have xT : tM S T.2 T.1 := xT
  have xP : pM S P := xP
  have xB : ag (S 113) r := xB
  have xA : aM S acts := xA
  have xE : eM S kept := xE
  have xF : fM S f := xF
  have hn9 : P.1 ≤ 9 := xP.1
  have haN : isA B 113 := ⟨Or.inl rfl, h113⟩
  have haT : isA B 114 := ⟨Or.inr rfl, h114⟩
  obtain ⟨jP, jR, jA, jE, jF⟩ := id hI
  have jP : iP P := jP
  have jR : iR P r := jR
  have jF : iF f := jF
  have hn1 : 1 ≤ P.1 := jP.1
  refine x_iload_n dX7_share_0 rfl rfl ?_
  refine x_iconst (v := (-1)) dX7_share_1 (by decide) ?_
  refine x_icmp_eq (tgt := 15) dX7_share_2 (by decide) (fun c_2 => ?_) (fun c_2 => ?_)
  · refine x_aload_n dX7_share_15 rfl rfl ?_
    refine kX7_189r dX7_share_16 rfl (by assumption) (c_giveAll hm xP xB) (by decide) (Nat.le_of_ble_eq_true rfl) (fun S1 hq => ?_)
    obtain ⟨-, hS, hc, hch⟩ := hq
    have hM1 := RM_scr hX (fun a _ x y => hS a x y)
    refine x_iload_n dX7_share_19 rfl rfl ?_
    refine x_iconst (v := (-1)) dX7_share_20 (by decide) ?_
    refine x_icmp_ne (tgt := 33) dX7_share_21 (by decide) (fun c_21 => ?_) (fun c_21 => ?_)
    · have hgx : gok P x = true := by
        first
        | exact c_10
        | exact absurd c_2 c_21
      obtain ⟨g, hg, rfl⟩ : ∃ g, g < P.1 ∧ x = nI g := ⟨_, gok_nI hgx⟩
      have hgc : (nI g).toNatClampNeg = g := nI_clamp (by omega)
      refine x_aload_n dX7_share_33 rfl rfl ?_
      refine gX7_56 dX7_share_34 rfl (by assumption) rfl ?_
      refine x_iload_n dX7_share_37 rfl rfl ?_
      refine x_ialdN (by assumption) dX7_share_38 (by omega) (by decide) ?_
      refine x_re (hch g hg) ?_
      refine x_ireturn dX7_share_39 rfl rfl ?_
      first
      | exact qR_of (by rw [o_share, if_pos hx1]) (by rw [frU_0, shrT_dp hn9]; rfl) hM1.1 hM1.2
      | exact qR_of (by rw [o_share, if_neg c_21, if_pos hgx, hgc]) rfl hM1.1 hM1.2
    · have hx1 : x = -1 := c_21
      refine x_aload_n dX7_share_24 rfl rfl ?_
      refine gX7_53 dX7_share_25 rfl (by assumption) rfl ?_
      refine x_iconst (v := 0) dX7_share_28 (by decide) ?_
      refine x_ialdN (j := 0) (by assumption) dX7_share_29 (by decide) (by decide) ?_
      refine x_re (hc 0 (Nat.le_refl _) (Nat.zero_le _) 0 (by decide)) ?_
      refine x_goto (tgt := 39) dX7_share_30 (by decide) ?_
      refine x_ireturn dX7_share_39 rfl rfl ?_
      first
      | exact qR_of (by rw [o_share, if_pos hx1]) (by rw [frU_0, shrT_dp hn9]; rfl) hM1.1 hM1.2
      | exact qR_of (by rw [o_share, if_neg c_21, if_pos hgx, hgc]) rfl hM1.1 hM1.2
  · refine x_aload_n dX7_share_5 rfl rfl ?_
    refine x_iload_n dX7_share_6 rfl rfl ?_
    refine kX7_132 dX7_share_7 rfl (by assumption) (cm_isGuest hm hX hn1) (by decide) (Nat.le_of_ble_eq_true rfl) ?_
    refine x_ifne_b (tgt := 15) dX7_share_10 (by decide) (fun c_10 => ?_) (fun c_10 => ?_)
    · refine x_aload_n dX7_share_15 rfl rfl ?_
      refine kX7_189r dX7_share_16 rfl (by assumption) (c_giveAll hm xP xB) (by decide) (Nat.le_of_ble_eq_true rfl) (fun S1 hq => ?_)
      obtain ⟨-, hS, hc, hch⟩ := hq
      have hM1 := RM_scr hX (fun a _ x y => hS a x y)
      refine x_iload_n dX7_share_19 rfl rfl ?_
      refine x_iconst (v := (-1)) dX7_share_20 (by decide) ?_
      refine x_icmp_ne (tgt := 33) dX7_share_21 (by decide) (fun c_21 => ?_) (fun c_21 => ?_)
      · have hgx : gok P x = true := by
          first
          | exact c_10
          | exact absurd c_2 c_21
        obtain ⟨g, hg, rfl⟩ : ∃ g, g < P.1 ∧ x = nI g := ⟨_, gok_nI hgx⟩
        have hgc : (nI g).toNatClampNeg = g := nI_clamp (by omega)
        refine x_aload_n dX7_share_33 rfl rfl ?_
        refine gX7_56 dX7_share_34 rfl (by assumption) rfl ?_
        refine x_iload_n dX7_share_37 rfl rfl ?_
        refine x_ialdN (by assumption) dX7_share_38 (by omega) (by decide) ?_
        refine x_re (hch g hg) ?_
        refine x_ireturn dX7_share_39 rfl rfl ?_
        first
        | exact qR_of (by rw [o_share, if_pos hx1]) (by rw [frU_0, shrT_dp hn9]; rfl) hM1.1 hM1.2
        | exact qR_of (by rw [o_share, if_neg c_21, if_pos hgx, hgc]) rfl hM1.1 hM1.2
      · have hx1 : x = -1 := c_21
        refine x_aload_n dX7_share_24 rfl rfl ?_
        refine gX7_53 dX7_share_25 rfl (by assumption) rfl ?_
        refine x_iconst (v := 0) dX7_share_28 (by decide) ?_
        refine x_ialdN (j := 0) (by assumption) dX7_share_29 (by decide) (by decide) ?_
        refine x_re (hc 0 (Nat.le_refl _) (Nat.zero_le _) 0 (by decide)) ?_
        refine x_goto (tgt := 39) dX7_share_30 (by decide) ?_
        refine x_ireturn dX7_share_39 rfl rfl ?_
        first
        | exact qR_of (by rw [o_share, if_pos hx1]) (by rw [frU_0, shrT_dp hn9]; rfl) hM1.1 hM1.2
        | exact qR_of (by rw [o_share, if_neg c_21, if_pos hgx, hgc]) rfl hM1.1 hM1.2
    · refine x_iconst (v := (-1)) dX7_share_13 (by decide) ?_
      refine x_ireturn dX7_share_14 rfl rfl ?_
      exact qR_of (by rw [o_share, if_neg c_2, if_neg c_10]) rfl hX frM_rfl

set_option maxHeartbeats 1000000 in
set_option maxRecDepth 20000 in
theorem lm_round {B : sB} {S : sSt} {P : aP} {r : aR} (hm : shM B) (hP : pM S P) (hch : ∀ j, j < P.1 → S 118 j = oI (shrC P r j)) (hc9 : ∀ j i, j < P.1 → shrC P r j = some i → i < 9) :
    ∀ (k g q : Nat), g + k = P.1 → WS B (fun _ => True) yX7_round cX7_round 3 (some .int) 6 8 [(2, .int (nI g)), (1, .int (nI q)), (0, .ref (s_ad B 102))] [] S (qI (nI (q + cntU (fun g => (shrC P r g).isSome && !(shrC P r g == some g)) k g)) S) := by
  obtain ⟨hm0, h103, h104, h105, h106, h107, h108, h109, h110, h111, h112, h113, h114, h115, h116, h117, h118, h119, h120, h121, h122⟩ := id hm
  have hn9 : P.1 ≤ 9 := hP.1
  have hn := hP.2.1
  intro k
  induction k with
  | zero =>
    intro g q hg
    refine x_iload_n dX7_round_8 rfl rfl ?_
    refine x_aload_n dX7_round_9 rfl rfl ?_
    refine gX7_13 dX7_round_10 rfl (by assumption) rfl ?_
    refine x_iconst (v := 0) dX7_round_13 (by decide) ?_
    refine x_ialdN (j := 0) (by assumption) dX7_round_14 (by decide) (by decide) ?_
    refine x_re hn ?_
    refine x_icmp_ge (tgt := 53) dX7_round_15 (by decide) (fun c_15 => ?_) (fun c_15 => ?_)
    · refine x_iload_n dX7_round_53 rfl rfl ?_
      refine x_ireturn dX7_round_54 rfl rfl ?_
      exact qI_of rfl rfl
    · exact absurd (by rw [← hg]; exact nI_le (by omega) (by omega)) c_15
  | succ k ih =>
    intro g q hg
    have hg1 := hch g (by omega)
    refine x_iload_n dX7_round_8 rfl rfl ?_
    refine x_aload_n dX7_round_9 rfl rfl ?_
    refine gX7_13 dX7_round_10 rfl (by assumption) rfl ?_
    refine x_iconst (v := 0) dX7_round_13 (by decide) ?_
    refine x_ialdN (j := 0) (by assumption) dX7_round_14 (by decide) (by decide) ?_
    refine x_re hn ?_
    refine x_icmp_ge (tgt := 53) dX7_round_15 (by decide) (fun c_15 => ?_) (fun c_15 => ?_)
    · exact absurd c_15 (by exact nI_ge (by omega) (by omega))
    · refine x_iload_n dX7_round_18 rfl rfl ?_
      refine x_aload_n dX7_round_19 rfl rfl ?_
      refine gX7_56 dX7_round_20 rfl (by assumption) rfl ?_
      refine x_iload_n dX7_round_23 rfl rfl ?_
      refine x_ialdN (by assumption) dX7_round_24 (by omega) (by decide) ?_
      refine x_re hg1 ?_
      refine x_bipush (v := (-4)) dX7_round_25 (by decide) ?_
      refine x_icmp_eq (tgt := 44) dX7_round_27 (by decide) (fun c_27 => ?_) (fun c_27 => ?_)
      · have h4 := (oI_eq4 (fun i hi => hc9 g i (by omega) hi)).mp c_27
        have hRF : ¬ (fun g => (shrC P r g).isSome && !(shrC P r g == some g)) g = true := by simp [h4]
        refine x_iconst (v := 0) dX7_round_44 (by decide) ?_
        refine x_iadd dX7_round_45 ?_
        first | refine x_re (nI_add q 1) ?_ | refine x_re (nI_add q 0) ?_
        refine x_istore_n (lv' := [(1, _), (2, _), (0, _)]) dX7_round_46 rfl (by decide) rfl ?_
        first | refine x_inc1N (lv' := [(2, _), (1, _), (0, _)]) dX7_round_47 rfl (by decide) rfl ?_ | refine x_iinc (v := _ + 1) (lv' := [(2, _), (1, _), (0, _)]) dX7_round_47 rfl rfl (by decide) rfl ?_
        refine x_goto (tgt := 8) dX7_round_50 (by decide) ?_
        refine x_wk [0, 1, 2] rfl ?_
        first
        | (rw [cntU, if_pos hRF, show q + (1 + cntU (fun g => (shrC P r g).isSome && !(shrC P r g == some g)) k (g + 1)) = (q + 1) + cntU (fun g => (shrC P r g).isSome && !(shrC P r g == some g)) k (g + 1) by omega]; exact ih (g + 1) (q + 1) (by omega))
        | (rw [cntU, if_neg hRF, Nat.zero_add]; exact ih (g + 1) q (by omega))
      · obtain ⟨j, hj⟩ : ∃ j, shrC P r g = some j := by
          cases hO : shrC P r g with
          | none => rw [hO] at c_27; exact absurd rfl c_27
          | some j => exact ⟨j, rfl⟩
        have hj9 := hc9 g j (by omega) hj
        refine x_aload_n dX7_round_30 rfl rfl ?_
        refine gX7_56 dX7_round_31 rfl (by assumption) rfl ?_
        refine x_iload_n dX7_round_34 rfl rfl ?_
        refine x_ialdN (by assumption) dX7_round_35 (by omega) (by decide) ?_
        refine x_re hg1 ?_
        rw [hj]
        refine x_iload_n dX7_round_36 rfl rfl ?_
        refine x_icmp_eq (tgt := 44) dX7_round_37 (by decide) (fun c_37 => ?_) (fun c_37 => ?_)
        · have hjg : j = g := (nI_eq (by omega) (by omega)).mp c_37
          have hRF : ¬ (fun g => (shrC P r g).isSome && !(shrC P r g == some g)) g = true := by simp [hj, hjg]
          refine x_iconst (v := 0) dX7_round_44 (by decide) ?_
          refine x_iadd dX7_round_45 ?_
          first | refine x_re (nI_add q 1) ?_ | refine x_re (nI_add q 0) ?_
          refine x_istore_n (lv' := [(1, _), (2, _), (0, _)]) dX7_round_46 rfl (by decide) rfl ?_
          first | refine x_inc1N (lv' := [(2, _), (1, _), (0, _)]) dX7_round_47 rfl (by decide) rfl ?_ | refine x_iinc (v := _ + 1) (lv' := [(2, _), (1, _), (0, _)]) dX7_round_47 rfl rfl (by decide) rfl ?_
          refine x_goto (tgt := 8) dX7_round_50 (by decide) ?_
          refine x_wk [0, 1, 2] rfl ?_
          first
          | (rw [cntU, if_pos hRF, show q + (1 + cntU (fun g => (shrC P r g).isSome && !(shrC P r g == some g)) k (g + 1)) = (q + 1) + cntU (fun g => (shrC P r g).isSome && !(shrC P r g == some g)) k (g + 1) by omega]; exact ih (g + 1) (q + 1) (by omega))
          | (rw [cntU, if_neg hRF, Nat.zero_add]; exact ih (g + 1) q (by omega))
        · have hRF : (fun g => (shrC P r g).isSome && !(shrC P r g == some g)) g = true := by
            have : ¬ j = g := fun e => c_37 (by rw [e]; rfl)
            simp only [hj]
            simp [this]
          refine x_iconst (v := 1) dX7_round_40 (by decide) ?_
          refine x_goto (tgt := 45) dX7_round_41 (by decide) ?_
          refine x_iadd dX7_round_45 ?_
          first | refine x_re (nI_add q 1) ?_ | refine x_re (nI_add q 0) ?_
          refine x_istore_n (lv' := [(1, _), (2, _), (0, _)]) dX7_round_46 rfl (by decide) rfl ?_
          first | refine x_inc1N (lv' := [(2, _), (1, _), (0, _)]) dX7_round_47 rfl (by decide) rfl ?_ | refine x_iinc (v := _ + 1) (lv' := [(2, _), (1, _), (0, _)]) dX7_round_47 rfl rfl (by decide) rfl ?_
          refine x_goto (tgt := 8) dX7_round_50 (by decide) ?_
          refine x_wk [0, 1, 2] rfl ?_
          first
          | (rw [cntU, if_pos hRF, show q + (1 + cntU (fun g => (shrC P r g).isSome && !(shrC P r g == some g)) k (g + 1)) = (q + 1) + cntU (fun g => (shrC P r g).isSome && !(shrC P r g == some g)) k (g + 1) by omega]; exact ih (g + 1) (q + 1) (by omega))
          | (rw [cntU, if_neg hRF, Nat.zero_add]; exact ih (g + 1) q (by omega))

set_option maxHeartbeats 1000000 in
set_option maxRecDepth 20000 in
theorem cM_round {B : sB} {S : sSt} {T : Nat × (Nat → Nat)} {P : aP} {r : aR} {acts kept : List aR} {f : aF} (hm : shM B) (hX : RM S (T, P, r, acts, kept, f)) (hI : iA (T, P, r, acts, kept, f)) : CS B yX7_round cX7_round 3 (some .int) 6 [.ref (s_ad B 102)] S (qR S (o_round (T, P, r, acts, kept, f))) := by
  refine cs_intro (lv := [(0, .ref (s_ad B 102))]) rfl ?_
  obtain ⟨hm0, h103, h104, h105, h106, h107, h108, h109, h110, h111, h112, h113, h114, h115, h116, h117, h118, h119, h120, h121, h122⟩ := id hm
  obtain ⟨xT, xP, xB, xA, xE, xF⟩ := id hX
  have xT : tM S T.2 T.1 := xT
  have xP : pM S P := xP
  have xB : ag (S 113) r := xB
  have xA : aM S acts := xA
  have xE : eM S kept := xE
  have xF : fM S f := xF
  have hn9 : P.1 ≤ 9 := xP.1
  have haN : isA B 113 := ⟨Or.inl rfl, h113⟩
  have haT : isA B 114 := ⟨Or.inr rfl, h114⟩
  obtain ⟨jP, jR, jA, jE, jF⟩ := id hI
  have jP : iP P := jP
  have jR : iR P r := jR
  have jF : iF f := jF
  have hn1 : 1 ≤ P.1 := jP.1
  refine x_aload_n dX7_round_0 rfl rfl ?_
  refine kX7_189r dX7_round_1 rfl (by assumption) (c_giveAll hm xP xB) (by decide) (Nat.le_of_ble_eq_true rfl) (fun S1 hq => ?_)
  obtain ⟨-, hS, hc, hch⟩ := hq
  have hM1 := RM_scr hX (fun a _ x y => hS a x y)
  refine x_iconst (v := 0) dX7_round_4 (by decide) ?_
  refine x_istore_n (lv' := [(1, _), (0, _)]) dX7_round_5 rfl (by decide) rfl ?_
  refine x_iconst (v := 0) dX7_round_6 (by decide) ?_
  refine x_istore_n (lv' := [(2, _), (1, _), (0, _)]) dX7_round_7 rfl (by decide) rfl ?_
  refine x_wk [0, 1, 2] rfl ?_
  refine x_post (fun v S2 hq => ?_) (lm_round (P := P) hm hM1.1.2.1 hch (fun j i hj hi => setM_lt hn9 hi) P.1 0 0 (by omega))
  obtain ⟨p1, rfl⟩ := hq
  cases p1
  exact qR_of (by rw [o_round]) (by rw [Nat.zero_add]) hM1.1 hM1.2
