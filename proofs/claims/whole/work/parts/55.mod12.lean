/-! THE MODEL'S SHARE: measure (wip/whole/w55.py) -/
set_option maxHeartbeats 1000000 in
set_option maxRecDepth 20000 in
theorem c_isFor {B : sB} {S : sSt} {P : aP} {r : aR} (hm : shM B) (hP : pM S P) (hr : ag (S 113) r) {g s : Nat} (hg : g < P.1) (hs : s < P.1) : CS B yX7_isFor cX7_isFor 3 (some .boolean) 3 [.ref (s_ad B 102), .int (nI g), .int (nI s)] S (qI (bI (fitF P r g s = true)) S) := by
  refine cs_intro (lv := [(0, .ref (s_ad B 102)), (1, .int (nI g)), (2, .int (nI s))]) rfl ?_
  obtain ⟨hm0, h103, h104, h105, h106, h107, h108, h109, h110, h111, h112, h113, h114, h115, h116, h117, h118, h119, h120, h121, h122⟩ := id hm
  have hF : fitF P r g s = (canT P r g s && rgt P r g s) := by unfold fitF; rw [decide_eq_true hs, Bool.true_and]
  have haN : isA B 113 := ⟨Or.inl rfl, h113⟩
  refine x_aload_n dX7_isFor_0 rfl rfl ?_
  refine x_aload_n dX7_isFor_1 rfl rfl ?_
  refine gX7_41 dX7_isFor_2 rfl (by assumption) rfl ?_
  refine x_iload_n dX7_isFor_5 rfl rfl ?_
  refine x_iload_n dX7_isFor_6 rfl rfl ?_
  refine kX7_160 dX7_isFor_7 rfl (by assumption) (c_canTake hm haN hP hr hg hs) (by decide) (Nat.le_of_ble_eq_true rfl) ?_
  refine x_ifeq_b (tgt := 30) dX7_isFor_10 (by decide) (fun c_10 => ?_) (fun c_10 => ?_)
  · refine x_iconst (v := 0) dX7_isFor_30 (by decide) ?_
    refine x_ireturn dX7_isFor_31 rfl (by first | rfl | exact bI_nar _) ?_
    first
    | exact qI_of (bI_t (by rw [hF, c_10, c_23]; rfl)) rfl
    | exact qI_of (bI_f (fun h => c_23 (by rw [hF, Bool.and_eq_true] at h; exact h.2))) rfl
    | exact qI_of (bI_f (fun h => c_10 (by rw [hF, Bool.and_eq_true] at h; exact h.1))) rfl
  · refine x_aload_n dX7_isFor_13 rfl rfl ?_
    refine x_aload_n dX7_isFor_14 rfl rfl ?_
    refine gX7_41 dX7_isFor_15 rfl (by assumption) rfl ?_
    refine x_iload_n dX7_isFor_18 rfl rfl ?_
    refine x_iload_n dX7_isFor_19 rfl rfl ?_
    refine kX7_136 dX7_isFor_20 rfl (by assumption) (c_isRightFor hm haN hP hr hg hs) (by decide) (Nat.le_of_ble_eq_true rfl) ?_
    refine x_ifeq_b (tgt := 30) dX7_isFor_23 (by decide) (fun c_23 => ?_) (fun c_23 => ?_)
    · refine x_iconst (v := 0) dX7_isFor_30 (by decide) ?_
      refine x_ireturn dX7_isFor_31 rfl (by first | rfl | exact bI_nar _) ?_
      first
      | exact qI_of (bI_t (by rw [hF, c_10, c_23]; rfl)) rfl
      | exact qI_of (bI_f (fun h => c_23 (by rw [hF, Bool.and_eq_true] at h; exact h.2))) rfl
      | exact qI_of (bI_f (fun h => c_10 (by rw [hF, Bool.and_eq_true] at h; exact h.1))) rfl
    · refine x_iconst (v := 1) dX7_isFor_26 (by decide) ?_
      refine x_goto (tgt := 31) dX7_isFor_27 (by decide) ?_
      refine x_ireturn dX7_isFor_31 rfl (by first | rfl | exact bI_nar _) ?_
      first
      | exact qI_of (bI_t (by rw [hF, c_10, c_23]; rfl)) rfl
      | exact qI_of (bI_f (fun h => c_23 (by rw [hF, Bool.and_eq_true] at h; exact h.2))) rfl
      | exact qI_of (bI_f (fun h => c_10 (by rw [hF, Bool.and_eq_true] at h; exact h.1))) rfl

set_option maxHeartbeats 1000000 in
set_option maxRecDepth 20000 in
theorem lm_meas0 {B : sB} {S0 : sSt} {P : aP} {r : aR} (hm : shM B) (hP0 : pM S0 P) (hr0 : ag (S0 113) r) {Q : Option Value → sSt → Prop} (hex : ∀ S, (∀ a, a ≠ 117 → a ≠ 118 → S a = S0 a) → cnI S P r P.1 → WS B (fun _ => True) yX7_measure cX7_measure 6 none 4 33 [(0, .ref (s_ad B 102))] [] S Q) :
    ∀ (k i : Nat) (S : sSt), i + k = 512 → (∀ a, a ≠ 117 → a ≠ 118 → S a = S0 a) → (∀ j, j < i → S 117 (512 * P.1 + j) = nI (dpB (fitF P r) P.1 (P.1 - P.1) (frU j))) → WS B (fun _ => True) yX7_measure cX7_measure 6 none 4 2 [(1, .int (nI i)), (0, .ref (s_ad B 102))] [] S Q := by
  obtain ⟨hm0, h103, h104, h105, h106, h107, h108, h109, h110, h111, h112, h113, h114, h115, h116, h117, h118, h119, h120, h121, h122⟩ := id hm
  intro k
  induction k with
  | zero =>
    intro i S hi hS hz
    obtain rfl : i = 512 := by omega
    refine x_iload_n dX7_measure_2 rfl rfl ?_
    refine x_sipush (v := 512) dX7_measure_3 (by decide) ?_
    refine x_icmp_ge (tgt := 33) dX7_measure_6 (by decide) (fun c_6 => ?_) (fun c_6 => ?_)
    · refine x_wk [1] rfl ?_
      exact hex S hS (fun h a b u hu => by rw [show h = P.1 by omega]; exact hz u hu)
    · exact absurd (nI_le (a := 512) (b := 512) (by omega) (by omega)) c_6
  | succ k ih =>
    intro i S hi hS hz
    have hP : pM S P := pM_ag (fun b x y => hS b (by omega) (by omega)) hP0
    have hr : ag (S 113) r := by rw [hS 113 (by omega) (by omega)]; exact hr0
    have hn9 : P.1 ≤ 9 := hP.1
    have hn := hP.2.1
    refine x_iload_n dX7_measure_2 rfl rfl ?_
    refine x_sipush (v := 512) dX7_measure_3 (by decide) ?_
    refine x_icmp_ge (tgt := 33) dX7_measure_6 (by decide) (fun c_6 => ?_) (fun c_6 => ?_)
    · exact absurd c_6 (nI_ge (b := 512) (by omega) (by omega))
    · refine x_aload_n dX7_measure_9 rfl rfl ?_
      refine gX7_53 dX7_measure_10 rfl (by assumption) rfl ?_
      refine x_sipush (v := 512) dX7_measure_13 (by decide) ?_
      refine x_aload_n dX7_measure_16 rfl rfl ?_
      refine gX7_13 dX7_measure_17 rfl (by assumption) rfl ?_
      refine x_iconst (v := 0) dX7_measure_20 (by decide) ?_
      refine x_ialdN (j := 0) (by assumption) dX7_measure_21 (by decide) (by decide) ?_
      refine x_re hn ?_
      refine x_imul dX7_measure_22 ?_
      first | refine x_re (pk_mul 512 _) ?_ | skip
      refine x_iload_n dX7_measure_23 rfl rfl ?_
      refine x_iadd dX7_measure_24 ?_
      first | refine x_re (nI_add _ _) ?_ | skip
      refine x_iconst (v := 0) dX7_measure_25 (by decide) ?_
      refine x_iastN (by assumption) dX7_measure_26 (by omega) (by decide) ?_
      first | refine x_inc1N (lv' := [(1, _), (0, _)]) dX7_measure_27 rfl (by decide) rfl ?_ | refine x_iinc (v := _ + 1) (lv' := [(1, _), (0, _)]) dX7_measure_27 rfl rfl (by decide) rfl ?_
      refine x_goto (tgt := 2) dX7_measure_30 (by decide) ?_
      refine x_wk [0, 1] rfl ?_
      refine ih (i + 1) _ (by omega) (fun a x y => by rw [s_put_ne x]; exact hS a x y) (fun j hj => ?_)
      rw [s_put_eq]
      split
      · rw [Nat.sub_self]; rfl
      · exact hz j (by omega)

set_option maxHeartbeats 1000000 in
set_option maxRecDepth 20000 in
theorem lm_meas3 {B : sB} {S0 : sSt} {P : aP} {r : aR} (hm : shM B) (hP0 : pM S0 P) (hr0 : ag (S0 113) r) {S : sSt} {g u : Nat} {Q : Option Value → sSt → Prop} (hS : (∀ a, a ≠ 117 → a ≠ 118 → S a = S0 a)) (hg : g < P.1) (hu : u < 512) (hc : cnI S P r (g + 1)) (M : Nat) (hex : WS B (fun _ => True) yX7_measure cX7_measure 6 none 4 149 [(3, .int (nI M)), (2, .int (nI u)), (1, .int (nI g)), (0, .ref (s_ad B 102))] [] S Q) :
    ∀ (k s b : Nat), s + k = P.1 → b ≤ 10 → mxU (mxF P r g u) k s b = M → WS B (fun _ => True) yX7_measure cX7_measure 6 none 4 73 [(4, .int (nI s)), (3, .int (nI b)), (2, .int (nI u)), (1, .int (nI g)), (0, .ref (s_ad B 102))] [] S Q := by
  obtain ⟨hm0, h103, h104, h105, h106, h107, h108, h109, h110, h111, h112, h113, h114, h115, h116, h117, h118, h119, h120, h121, h122⟩ := id hm
  have hP : pM S P := pM_ag (fun b x y => hS b (by omega) (by omega)) hP0
  have hr : ag (S 113) r := by rw [hS 113 (by omega) (by omega)]; exact hr0
  have hn9 : P.1 ≤ 9 := hP.1
  have hn := hP.2.1
  intro k
  induction k with
  | zero =>
    intro s b hs hb hM
    refine x_iload dX7_measure_73 rfl ?_
    refine x_aload_n dX7_measure_75 rfl rfl ?_
    refine gX7_13 dX7_measure_76 rfl (by assumption) rfl ?_
    refine x_iconst (v := 0) dX7_measure_79 (by decide) ?_
    refine x_ialdN (j := 0) (by assumption) dX7_measure_80 (by decide) (by decide) ?_
    refine x_re hn ?_
    refine x_icmp_ge (tgt := 149) dX7_measure_81 (by decide) (fun c_81 => ?_) (fun c_81 => ?_)
    · refine x_wk [1, 2, 3, 4] rfl ?_
      have hb : b = M := hM
      rw [hb]
      exact hex
    · exact absurd (by rw [← hs]; exact nI_le (by omega) (by omega)) c_81
  | succ k ih =>
    intro s b hs hb hM
    refine x_iload dX7_measure_73 rfl ?_
    refine x_aload_n dX7_measure_75 rfl rfl ?_
    refine gX7_13 dX7_measure_76 rfl (by assumption) rfl ?_
    refine x_iconst (v := 0) dX7_measure_79 (by decide) ?_
    refine x_ialdN (j := 0) (by assumption) dX7_measure_80 (by decide) (by decide) ?_
    refine x_re hn ?_
    refine x_icmp_ge (tgt := 149) dX7_measure_81 (by decide) (fun c_81 => ?_) (fun c_81 => ?_)
    · exact absurd c_81 (by exact nI_ge (by omega) (by omega))
    · refine x_iload_n dX7_measure_84 rfl rfl ?_
      refine x_iload dX7_measure_85 rfl ?_
      refine x_ishr dX7_measure_87 ?_
      refine x_iconst (v := 1) dX7_measure_88 (by decide) ?_
      refine x_iand dX7_measure_89 ?_
      refine x_re (bt_tst hu (by omega)) ?_
      refine x_ifne_b (tgt := 127) dX7_measure_90 (by decide) (fun c_90 => ?_) (fun c_90 => ?_)
      · refine x_iconst (v := 0) dX7_measure_127 (by decide) ?_
        refine x_re (b := nI (mxF P r g u s)) (by unfold mxF; first | rw [if_neg (fun h => c_100 (by rw [Bool.and_eq_true] at h; exact h.2))]; rfl | rw [if_neg (fun h => by rw [Bool.and_eq_true] at h; have h1 := h.1; unfold frU at h1; rw [c_90] at h1; cases h1)]; rfl) ?_
        refine x_istore (lv' := [(5, _), (4, _), (3, _), (2, _), (1, _), (0, _)]) dX7_measure_128 (by decide) rfl ?_
        refine x_iload dX7_measure_130 rfl ?_
        refine x_iload_n dX7_measure_132 rfl rfl ?_
        refine x_icmp_le (tgt := 141) dX7_measure_133 (by decide) (fun c_133 => ?_) (fun c_133 => ?_)
        · have hmx := mxF_le (r := r) (g := g) (u := u) (s := s) hn9
          have hb2 : ¬ b < mxF P r g u s := by have := (nI_leI (by omega) (by omega)).mp c_133; omega
          refine x_iload_n dX7_measure_141 rfl rfl ?_
          refine x_istore_n (lv' := [(3, _), (5, _), (4, _), (2, _), (1, _), (0, _)]) dX7_measure_142 rfl (by decide) rfl ?_
          first | refine x_inc1N (lv' := [(4, _), (3, _), (5, _), (2, _), (1, _), (0, _)]) dX7_measure_143 rfl (by decide) rfl ?_ | refine x_iinc (v := _ + 1) (lv' := [(4, _), (3, _), (5, _), (2, _), (1, _), (0, _)]) dX7_measure_143 rfl rfl (by decide) rfl ?_
          refine x_goto (tgt := 73) dX7_measure_146 (by decide) ?_
          refine x_wk [0, 1, 3, 4, 5] rfl ?_
          refine ih (s + 1) _ (by omega) ?_ ?_
          · omega
          · rw [← hM, mxU]; first | rw [if_pos hb2] | rw [if_neg hb2]
        · have hmx := mxF_le (r := r) (g := g) (u := u) (s := s) hn9
          have hb2 : b < mxF P r g u s := by rcases Nat.lt_or_ge b (mxF P r g u s) with h | h; exact h; exact absurd (nI_le h (by omega)) c_133
          refine x_iload dX7_measure_136 rfl ?_
          refine x_goto (tgt := 142) dX7_measure_138 (by decide) ?_
          refine x_istore_n (lv' := [(3, _), (5, _), (4, _), (2, _), (1, _), (0, _)]) dX7_measure_142 rfl (by decide) rfl ?_
          first | refine x_inc1N (lv' := [(4, _), (3, _), (5, _), (2, _), (1, _), (0, _)]) dX7_measure_143 rfl (by decide) rfl ?_ | refine x_iinc (v := _ + 1) (lv' := [(4, _), (3, _), (5, _), (2, _), (1, _), (0, _)]) dX7_measure_143 rfl rfl (by decide) rfl ?_
          refine x_goto (tgt := 73) dX7_measure_146 (by decide) ?_
          refine x_wk [0, 1, 3, 4, 5] rfl ?_
          refine ih (s + 1) _ (by omega) ?_ ?_
          · omega
          · rw [← hM, mxU]; first | rw [if_pos hb2] | rw [if_neg hb2]
      · refine x_aload_n dX7_measure_93 rfl rfl ?_
        refine x_iload_n dX7_measure_94 rfl rfl ?_
        refine x_iload dX7_measure_95 rfl ?_
        refine kX7_183 dX7_measure_97 rfl (by assumption) (c_isFor hm hP hr hg (show s < P.1 by omega)) (by decide) (Nat.le_of_ble_eq_true rfl) ?_
        refine x_ifeq_b (tgt := 127) dX7_measure_100 (by decide) (fun c_100 => ?_) (fun c_100 => ?_)
        · refine x_iconst (v := 0) dX7_measure_127 (by decide) ?_
          refine x_re (b := nI (mxF P r g u s)) (by unfold mxF; first | rw [if_neg (fun h => c_100 (by rw [Bool.and_eq_true] at h; exact h.2))]; rfl | rw [if_neg (fun h => by rw [Bool.and_eq_true] at h; have h1 := h.1; unfold frU at h1; rw [c_90] at h1; cases h1)]; rfl) ?_
          refine x_istore (lv' := [(5, _), (4, _), (3, _), (2, _), (1, _), (0, _)]) dX7_measure_128 (by decide) rfl ?_
          refine x_iload dX7_measure_130 rfl ?_
          refine x_iload_n dX7_measure_132 rfl rfl ?_
          refine x_icmp_le (tgt := 141) dX7_measure_133 (by decide) (fun c_133 => ?_) (fun c_133 => ?_)
          · have hmx := mxF_le (r := r) (g := g) (u := u) (s := s) hn9
            have hb2 : ¬ b < mxF P r g u s := by have := (nI_leI (by omega) (by omega)).mp c_133; omega
            refine x_iload_n dX7_measure_141 rfl rfl ?_
            refine x_istore_n (lv' := [(3, _), (5, _), (4, _), (2, _), (1, _), (0, _)]) dX7_measure_142 rfl (by decide) rfl ?_
            first | refine x_inc1N (lv' := [(4, _), (3, _), (5, _), (2, _), (1, _), (0, _)]) dX7_measure_143 rfl (by decide) rfl ?_ | refine x_iinc (v := _ + 1) (lv' := [(4, _), (3, _), (5, _), (2, _), (1, _), (0, _)]) dX7_measure_143 rfl rfl (by decide) rfl ?_
            refine x_goto (tgt := 73) dX7_measure_146 (by decide) ?_
            refine x_wk [0, 1, 3, 4, 5] rfl ?_
            refine ih (s + 1) _ (by omega) ?_ ?_
            · omega
            · rw [← hM, mxU]; first | rw [if_pos hb2] | rw [if_neg hb2]
          · have hmx := mxF_le (r := r) (g := g) (u := u) (s := s) hn9
            have hb2 : b < mxF P r g u s := by rcases Nat.lt_or_ge b (mxF P r g u s) with h | h; exact h; exact absurd (nI_le h (by omega)) c_133
            refine x_iload dX7_measure_136 rfl ?_
            refine x_goto (tgt := 142) dX7_measure_138 (by decide) ?_
            refine x_istore_n (lv' := [(3, _), (5, _), (4, _), (2, _), (1, _), (0, _)]) dX7_measure_142 rfl (by decide) rfl ?_
            first | refine x_inc1N (lv' := [(4, _), (3, _), (5, _), (2, _), (1, _), (0, _)]) dX7_measure_143 rfl (by decide) rfl ?_ | refine x_iinc (v := _ + 1) (lv' := [(4, _), (3, _), (5, _), (2, _), (1, _), (0, _)]) dX7_measure_143 rfl rfl (by decide) rfl ?_
            refine x_goto (tgt := 73) dX7_measure_146 (by decide) ?_
            refine x_wk [0, 1, 3, 4, 5] rfl ?_
            refine ih (s + 1) _ (by omega) ?_ ?_
            · omega
            · rw [← hM, mxU]; first | rw [if_pos hb2] | rw [if_neg hb2]
        · refine x_iconst (v := 1) dX7_measure_103 (by decide) ?_
          refine x_aload_n dX7_measure_104 rfl rfl ?_
          refine gX7_53 dX7_measure_105 rfl (by assumption) rfl ?_
          refine x_sipush (v := 512) dX7_measure_108 (by decide) ?_
          refine x_iload_n dX7_measure_111 rfl rfl ?_
          refine x_iconst (v := 1) dX7_measure_112 (by decide) ?_
          refine x_iadd dX7_measure_113 ?_
          first | refine x_re (nI_add _ _) ?_ | skip
          refine x_imul dX7_measure_114 ?_
          first | refine x_re (pk_mul 512 _) ?_ | skip
          first | refine x_re (pk_mul 512 _) ?_ | skip
          refine x_iload_n dX7_measure_115 rfl rfl ?_
          refine x_iconst (v := 1) dX7_measure_116 (by decide) ?_
          refine x_iload dX7_measure_117 rfl ?_
          refine x_ishl dX7_measure_119 ?_
          refine x_ior dX7_measure_120 ?_
          refine x_re (bt_set hu (by omega)) ?_
          refine x_iadd dX7_measure_121 ?_
          first | refine x_re (nI_add _ _) ?_ | skip
          refine x_ialdN (by assumption) dX7_measure_122 (show 512 * (g + 1) + (u ||| 1 <<< s) < 5120 by have := bt_lt (s := s) hu (by omega); omega) (by decide) ?_
          refine x_re (hc (g + 1) (Nat.le_refl _) (by omega) _ (bt_lt hu (by omega))) ?_
          rw [frU_set]
          refine x_iadd dX7_measure_123 ?_
          refine x_re (nI_add 1 _) ?_
          refine x_re (b := nI (mxF P r g u s)) (by unfold mxF; rw [if_pos (by rw [c_100, Bool.and_true]; unfold frU; rw [Bool.eq_false_iff.mpr c_90]; rfl)]) ?_
          refine x_goto (tgt := 128) dX7_measure_124 (by decide) ?_
          refine x_istore (lv' := [(5, _), (4, _), (3, _), (2, _), (1, _), (0, _)]) dX7_measure_128 (by decide) rfl ?_
          refine x_iload dX7_measure_130 rfl ?_
          refine x_iload_n dX7_measure_132 rfl rfl ?_
          refine x_icmp_le (tgt := 141) dX7_measure_133 (by decide) (fun c_133 => ?_) (fun c_133 => ?_)
          · have hmx := mxF_le (r := r) (g := g) (u := u) (s := s) hn9
            have hb2 : ¬ b < mxF P r g u s := by have := (nI_leI (by omega) (by omega)).mp c_133; omega
            refine x_iload_n dX7_measure_141 rfl rfl ?_
            refine x_istore_n (lv' := [(3, _), (5, _), (4, _), (2, _), (1, _), (0, _)]) dX7_measure_142 rfl (by decide) rfl ?_
            first | refine x_inc1N (lv' := [(4, _), (3, _), (5, _), (2, _), (1, _), (0, _)]) dX7_measure_143 rfl (by decide) rfl ?_ | refine x_iinc (v := _ + 1) (lv' := [(4, _), (3, _), (5, _), (2, _), (1, _), (0, _)]) dX7_measure_143 rfl rfl (by decide) rfl ?_
            refine x_goto (tgt := 73) dX7_measure_146 (by decide) ?_
            refine x_wk [0, 1, 3, 4, 5] rfl ?_
            refine ih (s + 1) _ (by omega) ?_ ?_
            · omega
            · rw [← hM, mxU]; first | rw [if_pos hb2] | rw [if_neg hb2]
          · have hmx := mxF_le (r := r) (g := g) (u := u) (s := s) hn9
            have hb2 : b < mxF P r g u s := by rcases Nat.lt_or_ge b (mxF P r g u s) with h | h; exact h; exact absurd (nI_le h (by omega)) c_133
            refine x_iload dX7_measure_136 rfl ?_
            refine x_goto (tgt := 142) dX7_measure_138 (by decide) ?_
            refine x_istore_n (lv' := [(3, _), (5, _), (4, _), (2, _), (1, _), (0, _)]) dX7_measure_142 rfl (by decide) rfl ?_
            first | refine x_inc1N (lv' := [(4, _), (3, _), (5, _), (2, _), (1, _), (0, _)]) dX7_measure_143 rfl (by decide) rfl ?_ | refine x_iinc (v := _ + 1) (lv' := [(4, _), (3, _), (5, _), (2, _), (1, _), (0, _)]) dX7_measure_143 rfl rfl (by decide) rfl ?_
            refine x_goto (tgt := 73) dX7_measure_146 (by decide) ?_
            refine x_wk [0, 1, 3, 4, 5] rfl ?_
            refine ih (s + 1) _ (by omega) ?_ ?_
            · omega
            · rw [← hM, mxU]; first | rw [if_pos hb2] | rw [if_neg hb2]

set_option maxHeartbeats 1000000 in
set_option maxRecDepth 20000 in
theorem lm_meas2 {B : sB} {S0 : sSt} {P : aP} {r : aR} (hm : shM B) (hP0 : pM S0 P) (hr0 : ag (S0 113) r) {g : Nat} {Q : Option Value → sSt → Prop} (hg : g < P.1) (hex : ∀ S, (∀ a, a ≠ 117 → a ≠ 118 → S a = S0 a) → cnI S P r g → WS B (fun _ => True) yX7_measure cX7_measure 6 none 4 168 [(1, .int (nI g)), (0, .ref (s_ad B 102))] [] S Q) :
    ∀ (k u : Nat) (S : sSt), u + k = 512 → (∀ a, a ≠ 117 → a ≠ 118 → S a = S0 a) → cnI S P r (g + 1) → (∀ j, j < u → S 117 (512 * g + j) = nI (dpB (fitF P r) P.1 (P.1 - g) (frU j))) → WS B (fun _ => True) yX7_measure cX7_measure 6 none 4 48 [(2, .int (nI u)), (1, .int (nI g)), (0, .ref (s_ad B 102))] [] S Q := by
  obtain ⟨hm0, h103, h104, h105, h106, h107, h108, h109, h110, h111, h112, h113, h114, h115, h116, h117, h118, h119, h120, h121, h122⟩ := id hm
  intro k
  induction k with
  | zero =>
    intro u S hu hS hc hz
    obtain rfl : u = 512 := by omega
    refine x_iload_n dX7_measure_48 rfl rfl ?_
    refine x_sipush (v := 512) dX7_measure_49 (by decide) ?_
    refine x_icmp_ge (tgt := 168) dX7_measure_52 (by decide) (fun c_52 => ?_) (fun c_52 => ?_)
    · refine x_wk [1, 2] rfl ?_
      refine hex S hS (fun h a b u hu => ?_)
      by_cases hh : h = g
      · subst hh; exact hz u hu
      · exact hc h (by omega) b u hu
    · exact absurd (nI_le (a := 512) (b := 512) (by omega) (by omega)) c_52
  | succ k ih =>
    intro u S hu hS hc hz
    have hP : pM S P := pM_ag (fun b x y => hS b (by omega) (by omega)) hP0
    have hr : ag (S 113) r := by rw [hS 113 (by omega) (by omega)]; exact hr0
    have hn9 : P.1 ≤ 9 := hP.1
    have hn := hP.2.1
    refine x_iload_n dX7_measure_48 rfl rfl ?_
    refine x_sipush (v := 512) dX7_measure_49 (by decide) ?_
    refine x_icmp_ge (tgt := 168) dX7_measure_52 (by decide) (fun c_52 => ?_) (fun c_52 => ?_)
    · exact absurd c_52 (nI_ge (b := 512) (by omega) (by omega))
    · refine x_aload_n dX7_measure_55 rfl rfl ?_
      refine gX7_53 dX7_measure_56 rfl (by assumption) rfl ?_
      refine x_sipush (v := 512) dX7_measure_59 (by decide) ?_
      refine x_iload_n dX7_measure_62 rfl rfl ?_
      refine x_iconst (v := 1) dX7_measure_63 (by decide) ?_
      refine x_iadd dX7_measure_64 ?_
      first | refine x_re (nI_add _ _) ?_ | skip
      refine x_imul dX7_measure_65 ?_
      first | refine x_re (pk_mul 512 _) ?_ | skip
      first | refine x_re (pk_mul 512 _) ?_ | skip
      refine x_iload_n dX7_measure_66 rfl rfl ?_
      refine x_iadd dX7_measure_67 ?_
      first | refine x_re (nI_add _ _) ?_ | skip
      refine x_ialdN (by assumption) dX7_measure_68 (show 512 * (g + 1) + u < 5120 by omega) (by decide) ?_
      refine x_re (hc (g + 1) (Nat.le_refl _) (by omega) u (by omega)) ?_
      refine x_istore_n (lv' := [(3, _), (2, _), (1, _), (0, _)]) dX7_measure_69 rfl (by decide) rfl ?_
      refine x_iconst (v := 0) dX7_measure_70 (by decide) ?_
      refine x_istore (lv' := [(4, _), (3, _), (2, _), (1, _), (0, _)]) dX7_measure_71 (by decide) rfl ?_
      refine lm_meas3 hm hP0 hr0 hS hg (by omega) hc (dpB (fitF P r) P.1 (P.1 - g) (frU u)) ?_ P.1 0 _ (by omega) (by have := dpB_le (fit := fitF P r) (n := P.1) (P.1 - (g + 1)) (frU u); omega) (dpB_mx hg).symm
      refine x_aload_n dX7_measure_149 rfl rfl ?_
      refine gX7_53 dX7_measure_150 rfl (by assumption) rfl ?_
      refine x_sipush (v := 512) dX7_measure_153 (by decide) ?_
      refine x_iload_n dX7_measure_156 rfl rfl ?_
      refine x_imul dX7_measure_157 ?_
      first | refine x_re (pk_mul 512 _) ?_ | skip
      first | refine x_re (pk_mul 512 _) ?_ | skip
      refine x_iload_n dX7_measure_158 rfl rfl ?_
      refine x_iadd dX7_measure_159 ?_
      first | refine x_re (nI_add _ _) ?_ | skip
      refine x_iload_n dX7_measure_160 rfl rfl ?_
      refine x_iastN (by assumption) dX7_measure_161 (by omega) (by decide) ?_
      first | refine x_inc1N (lv' := [(2, _), (3, _), (1, _), (0, _)]) dX7_measure_162 rfl (by decide) rfl ?_ | refine x_iinc (v := _ + 1) (lv' := [(2, _), (3, _), (1, _), (0, _)]) dX7_measure_162 rfl rfl (by decide) rfl ?_
      refine x_goto (tgt := 48) dX7_measure_165 (by decide) ?_
      refine x_wk [0, 2, 3] rfl ?_
      refine ih (u + 1) _ (by omega) (fun a x y => by rw [s_put_ne x]; exact hS a x y) (fun h a b v hv => ?_) (fun j hj => ?_)
      · rw [s_put_eq, if_neg (by omega)]; exact hc h a b v hv
      · rw [s_put_eq]
        by_cases hju : j = u
        · rw [if_pos (by omega), hju]
        · rw [if_neg (by omega)]; exact hz j (by omega)

set_option maxHeartbeats 1000000 in
set_option maxRecDepth 20000 in
theorem lm_meas1 {B : sB} {S0 : sSt} {P : aP} {r : aR} (hm : shM B) (hP0 : pM S0 P) (hr0 : ag (S0 113) r) :
    ∀ (k : Nat) (S : sSt), k ≤ P.1 → (∀ a, a ≠ 117 → a ≠ 118 → S a = S0 a) → cnI S P r k → WS B (fun _ => True) yX7_measure cX7_measure 6 none 4 42 [(1, .int (nI k - 1)), (0, .ref (s_ad B 102))] [] S (fun v S => v = none ∧ (∀ a, a ≠ 117 → a ≠ 118 → S a = S0 a) ∧ cnI S P r 0) := by
  obtain ⟨hm0, h103, h104, h105, h106, h107, h108, h109, h110, h111, h112, h113, h114, h115, h116, h117, h118, h119, h120, h121, h122⟩ := id hm
  intro k
  induction k with
  | zero =>
    intro S hk hS hc
    refine x_iload_n dX7_measure_42 rfl rfl ?_
    refine x_if_lt (tgt := 174) dX7_measure_43 (by decide) (fun c_43 => ?_) (fun c_43 => ?_)
    · refine x_return dX7_measure_174 rfl ?_
      exact ⟨rfl, hS, hc⟩
    · exact absurd (show nI 0 - 1 < 0 by decide) c_43
  | succ k ih =>
    intro S hk hS hc
    have hP : pM S P := pM_ag (fun b x y => hS b (by omega) (by omega)) hP0
    have hr : ag (S 113) r := by rw [hS 113 (by omega) (by omega)]; exact hr0
    have hn9 : P.1 ≤ 9 := hP.1
    have hn := hP.2.1
    rw [show nI (k + 1) - 1 = nI k from by rw [← nI_1]; exact Int32.add_sub_cancel _ _]
    refine x_iload_n dX7_measure_42 rfl rfl ?_
    refine x_if_lt (tgt := 174) dX7_measure_43 (by decide) (fun c_43 => ?_) (fun c_43 => ?_)
    · exact absurd c_43 (nI_pos (by omega))
    · refine x_iconst (v := 0) dX7_measure_46 (by decide) ?_
      refine x_istore_n (lv' := [(2, _), (1, _), (0, _)]) dX7_measure_47 rfl (by decide) rfl ?_
      refine x_wk [0, 1, 2] rfl ?_
      refine lm_meas2 hm hP0 hr0 (show k < P.1 by omega) (fun S2 hS2 hc2 => ?_) 512 0 S (by omega) hS hc (fun j hj => absurd hj (Nat.not_lt_zero j))
      refine x_iinc (v := nI k - 1) (lv' := [(1, _), (0, _)]) dX7_measure_168 rfl (by rw [Int32.sub_eq_add_neg]; rfl) (by decide) rfl ?_
      refine x_goto (tgt := 42) dX7_measure_171 (by decide) ?_
      exact ih S2 (by omega) hS2 hc2

set_option maxHeartbeats 1000000 in
set_option maxRecDepth 20000 in
theorem c_measure {B : sB} {S0 : sSt} {P : aP} {r : aR} (hm : shM B) (hP0 : pM S0 P) (hr0 : ag (S0 113) r) : CS B yX7_measure cX7_measure 6 none 4 [.ref (s_ad B 102)] S0 (fun v S => v = none ∧ (∀ a, a ≠ 117 → a ≠ 118 → S a = S0 a) ∧ cnI S P r 0) := by
  refine cs_intro (lv := [(0, .ref (s_ad B 102))]) rfl ?_
  obtain ⟨hm0, h103, h104, h105, h106, h107, h108, h109, h110, h111, h112, h113, h114, h115, h116, h117, h118, h119, h120, h121, h122⟩ := id hm
  refine x_iconst (v := 0) dX7_measure_0 (by decide) ?_
  refine x_istore_n (lv' := [(1, _), (0, _)]) dX7_measure_1 rfl (by decide) rfl ?_
  refine lm_meas0 hm hP0 hr0 (fun S hS hc => ?_) 512 0 S0 (by omega) (fun _ _ _ => rfl) (fun j hj => absurd hj (Nat.not_lt_zero j))
  have hP : pM S P := pM_ag (fun b x y => hS b (by omega) (by omega)) hP0
  have hr : ag (S 113) r := by rw [hS 113 (by omega) (by omega)]; exact hr0
  have hn9 : P.1 ≤ 9 := hP.1
  have hn := hP.2.1
  refine x_aload_n dX7_measure_33 rfl rfl ?_
  refine gX7_13 dX7_measure_34 rfl (by assumption) rfl ?_
  refine x_iconst (v := 0) dX7_measure_37 (by decide) ?_
  refine x_ialdN (j := 0) (by assumption) dX7_measure_38 (by decide) (by decide) ?_
  refine x_re hn ?_
  refine x_iconst (v := 1) dX7_measure_39 (by decide) ?_
  refine x_isub dX7_measure_40 ?_
  refine x_istore_n (lv' := [(1, _), (0, _)]) dX7_measure_41 rfl (by decide) rfl ?_
  exact lm_meas1 hm hP0 hr0 P.1 S (Nat.le_refl _) hS hc
