set_option maxHeartbeats 1000000 in
set_option maxRecDepth 20000 in
theorem lm_moment {B : sB} {S : sSt} {P : aP} {a on : Nat} (hm : shM B) (ha : isA B a) (hon : on ≤ 9) :
    ∀ (k i q : Nat) (S0 : sSt) (r0 : aR), i + k = P.1 → q ≤ i → pM S0 P → chM S S0 a r0 → WS B (fun _ => True) yX7_moment cX7_moment 5 (some .int) 2 12 [(4, .int (nI i)), (3, .int (nI q)), (2, .int (nI on)), (0, .ref (s_ad B 102)), (1, .ref (s_ad B a))] [] S0 (fun v S1 => v = some (.int (nI (q + falU P k i r0))) ∧ chM S S1 a (endF P on (carU P k i r0))) := by
  obtain ⟨hm0, h103, h104, h105, h106, h107, h108, h109, h110, h111, h112, h113, h114, h115, h116, h117, h118, h119, h120, h121, h122⟩ := id hm
  have ha1 := ha.2
  have ha2 : 112 ≤ a := by have := ha.1; omega
  intro k
  induction k with
  | zero =>
    intro i q S0 r0 hi hq hP0 H0
    obtain ⟨hn9, hn, hlen, hmst, hPi⟩ := id hP0
    have e1 : S0 a 1 = r0 1 := H0.1 1 (by omega)
    refine x_iload dX7_moment_12 rfl ?_
    refine x_aload_n dX7_moment_14 rfl rfl ?_
    refine gX7_13 dX7_moment_15 rfl (by assumption) rfl ?_
    refine x_iconst (v := 0) dX7_moment_18 (by decide) ?_
    refine x_ialdN (j := 0) (by assumption) dX7_moment_19 (by decide) (by decide) ?_
    refine x_icmp_ge (tgt := 117) dX7_moment_20 (by decide) (fun c_20 => ?_) (fun c_20 => ?_)
    · refine x_iload_n dX7_moment_117 rfl rfl ?_
      refine x_if_ne (tgt := 147) dX7_moment_118 (by decide) (fun c_118 => ?_) (fun c_118 => ?_)
      · have hz : ¬ on = 0 := fun h => c_118 (by rw [h]; rfl)
        refine x_aload_n dX7_moment_147 rfl rfl ?_
        refine x_iconst (v := 1) dX7_moment_148 (by decide) ?_
        refine x_aload_n dX7_moment_149 rfl rfl ?_
        refine x_iconst (v := 1) dX7_moment_150 (by decide) ?_
        refine x_ialdN (j := 1) (by assumption) dX7_moment_151 (by decide) (by decide) ?_
        refine x_iload_n dX7_moment_152 rfl rfl ?_
        refine x_iconst (v := 2) dX7_moment_153 (by decide) ?_
        refine x_idiv dX7_moment_154 (by decide) ?_
        refine x_re (b := nI (on / 2)) (pk_div (d := 2) (by omega) (by decide) (by decide)) ?_
        refine x_icmp_ge (tgt := 162) dX7_moment_155 (by decide) (fun c_155 => ?_) (fun c_155 => ?_)
        · refine x_aload_n dX7_moment_162 rfl rfl ?_
          refine x_iconst (v := 1) dX7_moment_163 (by decide) ?_
          refine x_ialdN (j := 1) (by assumption) dX7_moment_164 (by decide) (by decide) ?_
          refine x_iload_n dX7_moment_165 rfl rfl ?_
          refine x_iconst (v := 2) dX7_moment_166 (by decide) ?_
          refine x_idiv dX7_moment_167 (by decide) ?_
          refine x_re (b := nI (on / 2)) (pk_div (d := 2) (by omega) (by decide) (by decide)) ?_
          refine x_isub dX7_moment_168 ?_
          first
          | refine x_re (b := heatF P on (r0 1)) (by rw [heatF, if_neg hz, if_pos (by rw [← Int32.not_le, ← e1]; exact c_155)]) ?_
          | refine x_re (b := heatF P on (r0 1)) (by rw [heatF, if_neg hz, e1, if_neg (by rw [Int32.not_lt, ← e1]; exact c_155)]) ?_
          refine x_iastN (j := 1) (by assumption) dX7_moment_169 (by decide) (by decide) ?_
          refine x_gen (Pz := fun S' => chM S S' a _) (chM_put H0) (fun S1 H1 => ?_)
          refine x_aload_n dX7_moment_170 rfl rfl ?_
          refine x_iconst (v := 2) dX7_moment_171 (by decide) ?_
          refine x_dup2 dX7_moment_172 rfl rfl ?_
          refine x_ialdN (j := 2) (by assumption) dX7_moment_173 (by decide) (by decide) ?_
          rw [show S1 a 2 = r0 2 from by rw [H1.1 2 (by omega), upd_ne (by decide)]]
          refine x_iconst (v := 1) dX7_moment_174 (by decide) ?_
          refine x_iadd dX7_moment_175 ?_
          first | refine x_re (nI_add _ _) ?_ | skip
          refine x_iastN (j := 2) (by assumption) dX7_moment_176 (by decide) (by decide) ?_
          refine x_iload_n dX7_moment_177 rfl rfl ?_
          refine x_ireturn dX7_moment_178 rfl rfl ?_
          exact ⟨rfl, chM_put H1⟩
        · refine x_iconst (v := 0) dX7_moment_158 (by decide) ?_
          refine x_goto (tgt := 169) dX7_moment_159 (by decide) ?_
          first
          | refine x_re (b := heatF P on (r0 1)) (by rw [heatF, if_neg hz, if_pos (by rw [← Int32.not_le, ← e1]; exact c_155)]) ?_
          | refine x_re (b := heatF P on (r0 1)) (by rw [heatF, if_neg hz, e1, if_neg (by rw [Int32.not_lt, ← e1]; exact c_155)]) ?_
          refine x_iastN (j := 1) (by assumption) dX7_moment_169 (by decide) (by decide) ?_
          refine x_gen (Pz := fun S' => chM S S' a _) (chM_put H0) (fun S1 H1 => ?_)
          refine x_aload_n dX7_moment_170 rfl rfl ?_
          refine x_iconst (v := 2) dX7_moment_171 (by decide) ?_
          refine x_dup2 dX7_moment_172 rfl rfl ?_
          refine x_ialdN (j := 2) (by assumption) dX7_moment_173 (by decide) (by decide) ?_
          rw [show S1 a 2 = r0 2 from by rw [H1.1 2 (by omega), upd_ne (by decide)]]
          refine x_iconst (v := 1) dX7_moment_174 (by decide) ?_
          refine x_iadd dX7_moment_175 ?_
          first | refine x_re (nI_add _ _) ?_ | skip
          refine x_iastN (j := 2) (by assumption) dX7_moment_176 (by decide) (by decide) ?_
          refine x_iload_n dX7_moment_177 rfl rfl ?_
          refine x_ireturn dX7_moment_178 rfl rfl ?_
          exact ⟨rfl, chM_put H1⟩
      · have hz : on = 0 := (nI_eq (b := 0) (by omega) (by decide)).mp c_118
        refine x_aload_n dX7_moment_121 rfl rfl ?_
        refine x_iconst (v := 1) dX7_moment_122 (by decide) ?_
        refine x_dup2 dX7_moment_123 rfl rfl ?_
        refine x_ialdN (j := 1) (by assumption) dX7_moment_124 (by decide) (by decide) ?_
        refine x_aload_n dX7_moment_125 rfl rfl ?_
        refine x_iconst (v := 1) dX7_moment_126 (by decide) ?_
        refine x_ialdN (j := 1) (by assumption) dX7_moment_127 (by decide) (by decide) ?_
        refine x_aload_n dX7_moment_128 rfl rfl ?_
        refine gX7_26 dX7_moment_129 rfl (by assumption) rfl ?_
        refine x_iconst (v := 0) dX7_moment_132 (by decide) ?_
        refine x_ialdN (j := 0) (by assumption) dX7_moment_133 (by decide) (by decide) ?_
        refine x_icmp_ge (tgt := 141) dX7_moment_134 (by decide) (fun c_134 => ?_) (fun c_134 => ?_)
        · refine x_iconst (v := 0) dX7_moment_141 (by decide) ?_
          refine x_iadd dX7_moment_142 ?_
          first
          | refine x_re (b := heatF P on (r0 1)) (by rw [heatF, if_pos hz, e1, if_neg (by rw [Int32.not_lt, ← hP0.2.2.2.1, ← e1]; exact c_134)]; exact Int32.add_zero _) ?_
          | refine x_re (b := heatF P on (r0 1)) (by rw [heatF, if_pos hz, e1, if_pos (by rw [← Int32.not_le, ← hP0.2.2.2.1, ← e1]; exact c_134)]) ?_
          refine x_iastN (j := 1) (by assumption) dX7_moment_143 (by decide) (by decide) ?_
          refine x_gen (Pz := fun S' => chM S S' a _) (chM_put H0) (fun S1 H1 => ?_)
          refine x_goto (tgt := 170) dX7_moment_144 (by decide) ?_
          refine x_aload_n dX7_moment_170 rfl rfl ?_
          refine x_iconst (v := 2) dX7_moment_171 (by decide) ?_
          refine x_dup2 dX7_moment_172 rfl rfl ?_
          refine x_ialdN (j := 2) (by assumption) dX7_moment_173 (by decide) (by decide) ?_
          rw [show S1 a 2 = r0 2 from by rw [H1.1 2 (by omega), upd_ne (by decide)]]
          refine x_iconst (v := 1) dX7_moment_174 (by decide) ?_
          refine x_iadd dX7_moment_175 ?_
          first | refine x_re (nI_add _ _) ?_ | skip
          refine x_iastN (j := 2) (by assumption) dX7_moment_176 (by decide) (by decide) ?_
          refine x_iload_n dX7_moment_177 rfl rfl ?_
          refine x_ireturn dX7_moment_178 rfl rfl ?_
          exact ⟨rfl, chM_put H1⟩
        · refine x_iconst (v := 1) dX7_moment_137 (by decide) ?_
          refine x_goto (tgt := 142) dX7_moment_138 (by decide) ?_
          refine x_iadd dX7_moment_142 ?_
          first
          | refine x_re (b := heatF P on (r0 1)) (by rw [heatF, if_pos hz, e1, if_neg (by rw [Int32.not_lt, ← hP0.2.2.2.1, ← e1]; exact c_134)]; exact Int32.add_zero _) ?_
          | refine x_re (b := heatF P on (r0 1)) (by rw [heatF, if_pos hz, e1, if_pos (by rw [← Int32.not_le, ← hP0.2.2.2.1, ← e1]; exact c_134)]) ?_
          refine x_iastN (j := 1) (by assumption) dX7_moment_143 (by decide) (by decide) ?_
          refine x_gen (Pz := fun S' => chM S S' a _) (chM_put H0) (fun S1 H1 => ?_)
          refine x_goto (tgt := 170) dX7_moment_144 (by decide) ?_
          refine x_aload_n dX7_moment_170 rfl rfl ?_
          refine x_iconst (v := 2) dX7_moment_171 (by decide) ?_
          refine x_dup2 dX7_moment_172 rfl rfl ?_
          refine x_ialdN (j := 2) (by assumption) dX7_moment_173 (by decide) (by decide) ?_
          rw [show S1 a 2 = r0 2 from by rw [H1.1 2 (by omega), upd_ne (by decide)]]
          refine x_iconst (v := 1) dX7_moment_174 (by decide) ?_
          refine x_iadd dX7_moment_175 ?_
          first | refine x_re (nI_add _ _) ?_ | skip
          refine x_iastN (j := 2) (by assumption) dX7_moment_176 (by decide) (by decide) ?_
          refine x_iload_n dX7_moment_177 rfl rfl ?_
          refine x_ireturn dX7_moment_178 rfl rfl ?_
          exact ⟨rfl, chM_put H1⟩
    · exact absurd (by rw [hn, ← hi]; exact nI_le (by omega) (by omega)) c_20
  | succ k ih =>
    intro i q S0 r0 hi hq hP0 H0
    obtain ⟨hn9, hn, hlen, hmst, hPi⟩ := id hP0
    have e1 : S0 a 1 = r0 1 := H0.1 1 (by omega)
    refine x_iload dX7_moment_12 rfl ?_
    refine x_aload_n dX7_moment_14 rfl rfl ?_
    refine gX7_13 dX7_moment_15 rfl (by assumption) rfl ?_
    refine x_iconst (v := 0) dX7_moment_18 (by decide) ?_
    refine x_ialdN (j := 0) (by assumption) dX7_moment_19 (by decide) (by decide) ?_
    refine x_icmp_ge (tgt := 117) dX7_moment_20 (by decide) (fun c_20 => ?_) (fun c_20 => ?_)
    · exact absurd c_20 (by rw [hn]; exact nI_ge (by omega) (by omega))
    · refine x_aload_n dX7_moment_23 rfl rfl ?_
      refine x_iconst (v := 3) dX7_moment_24 (by decide) ?_
      refine x_iload dX7_moment_25 rfl ?_
      refine x_iadd dX7_moment_27 ?_
      first | refine x_re (nI_add 3 _) ?_ | skip
      first | refine x_ialdN (by assumption) dX7_moment_28 (by omega) (by decide) ?_ | refine x_iald (by assumption) dX7_moment_28 (by assumption) ?_
      refine x_iconst (v := 1) dX7_moment_29 (by decide) ?_
      refine x_icmp_ne (tgt := 111) dX7_moment_30 (by decide) (fun c_30 => ?_) (fun c_30 => ?_)
      · have hw : ¬ r0 (3 + i) = 1 := by rw [← H0.1 (3 + i) (by omega)]; exact c_30
        first | refine x_inc1N (lv' := [(4, _), (3, _), (2, _), (0, _), (1, _)]) dX7_moment_111 rfl (by decide) rfl ?_ | refine x_iinc (v := _ + 1) (lv' := [(4, _), (3, _), (2, _), (0, _), (1, _)]) dX7_moment_111 rfl rfl (by decide) rfl ?_
        refine x_goto (tgt := 12) dX7_moment_114 (by decide) ?_
        first
        | (rw [falU, if_neg (fun z => hw z.1), carU, carF, if_neg hw, Nat.zero_add]; exact ih (i + 1) q S0 r0 (by omega) (by omega) hP0 H0)
        | (rw [falU, if_neg (fun z => hl z.2), carU, hcar, Nat.zero_add]; exact ih (i + 1) q S2 _ (by omega) (by omega) (pM_ch H2' ha2 hP0) H2)
        | (rw [falU, if_pos ⟨hw, hl⟩, carU, hcar, show q + (1 + falU P k (i + 1) (upd (upd (upd r0 (30 + i) (r0 (30 + i) + brwF (P.2.2.2.1 i) (r0 1 + (if r0 (12 + i) = 0 then 2 else 0)))) (21 + i) (r0 (21 + i) + r0 0)) (3 + i) 2)) = (q + 1) + falU P k (i + 1) (upd (upd (upd r0 (30 + i) (r0 (30 + i) + brwF (P.2.2.2.1 i) (r0 1 + (if r0 (12 + i) = 0 then 2 else 0)))) (21 + i) (r0 (21 + i) + r0 0)) (3 + i) 2) by omega]; exact ih (i + 1) (q + 1) S3 _ (by omega) (by omega) (pM_ch H3' ha2 hP0) H3)
      · have hw : r0 (3 + i) = 1 := by rw [← H0.1 (3 + i) (by omega)]; exact c_30
        refine x_aload_n dX7_moment_33 rfl rfl ?_
        refine x_bipush (v := 30) dX7_moment_34 (by decide) ?_
        refine x_iload dX7_moment_36 rfl ?_
        refine x_iadd dX7_moment_38 ?_
        first | refine x_re (nI_add 30 _) ?_ | skip
        refine x_dup2 dX7_moment_39 rfl rfl ?_
        first | refine x_ialdN (by assumption) dX7_moment_40 (by omega) (by decide) ?_ | refine x_iald (by assumption) dX7_moment_40 (by assumption) ?_
        refine x_aload_n dX7_moment_41 rfl rfl ?_
        refine gX7_29 dX7_moment_42 rfl (by assumption) rfl ?_
        refine x_iload dX7_moment_45 rfl ?_
        first | refine x_ialdN (by assumption) dX7_moment_47 (by omega) (by decide) ?_ | refine x_iald (by assumption) dX7_moment_47 (by assumption) ?_
        refine x_aload_n dX7_moment_48 rfl rfl ?_
        refine x_iconst (v := 1) dX7_moment_49 (by decide) ?_
        refine x_ialdN (j := 1) (by assumption) dX7_moment_50 (by decide) (by decide) ?_
        refine x_aload_n dX7_moment_51 rfl rfl ?_
        refine x_bipush (v := 12) dX7_moment_52 (by decide) ?_
        refine x_iload dX7_moment_54 rfl ?_
        refine x_iadd dX7_moment_56 ?_
        first | refine x_re (nI_add 12 _) ?_ | skip
        first | refine x_ialdN (by assumption) dX7_moment_57 (by omega) (by decide) ?_ | refine x_iald (by assumption) dX7_moment_57 (by assumption) ?_
        refine x_if_ne (tgt := 65) dX7_moment_58 (by decide) (fun c_58 => ?_) (fun c_58 => ?_)
        · refine x_iconst (v := 0) dX7_moment_65 (by decide) ?_
          refine x_iadd dX7_moment_66 ?_
          first
          | refine x_re (b := r0 1 + (if r0 (12 + i) = 0 then 2 else 0)) (by rw [if_neg (by rw [← H0.1 (12 + i) (by omega)]; exact c_58), e1]) ?_
          | refine x_re (b := r0 1 + (if r0 (12 + i) = 0 then 2 else 0)) (by rw [if_pos (by rw [← H0.1 (12 + i) (by omega)]; exact c_58), e1]) ?_
          refine kX7_124 dX7_moment_67 rfl (c_browner) (by decide) (Nat.le_of_ble_eq_true rfl) ?_
          refine x_iadd dX7_moment_70 ?_
          rw [H0.1 (30 + i) (by omega), (hPi i (by omega)).1]
          first | refine x_iastN (by assumption) dX7_moment_71 (by omega) (by decide) ?_ | refine x_iast (by assumption) dX7_moment_71 (by assumption) ?_
          refine x_gen (Pz := fun S' => chM S S' a _) (chM_put H0) (fun S1 H1 => ?_)
          have q0 : S1 a 0 = r0 0 := by rw [H1.1 0 (by omega), upd_ne (by omega)]
          have q21 : S1 a (21 + i) = r0 (21 + i) := by rw [H1.1 (21 + i) (by omega), upd_ne (by omega)]
          refine x_aload_n dX7_moment_72 rfl rfl ?_
          refine x_bipush (v := 21) dX7_moment_73 (by decide) ?_
          refine x_iload dX7_moment_75 rfl ?_
          refine x_iadd dX7_moment_77 ?_
          first | refine x_re (nI_add 21 _) ?_ | skip
          refine x_dup2 dX7_moment_78 rfl rfl ?_
          first | refine x_ialdN (by assumption) dX7_moment_79 (by omega) (by decide) ?_ | refine x_iald (by assumption) dX7_moment_79 (by assumption) ?_
          refine x_aload_n dX7_moment_80 rfl rfl ?_
          refine x_iconst (v := 0) dX7_moment_81 (by decide) ?_
          refine x_ialdN (j := 0) (by assumption) dX7_moment_82 (by decide) (by decide) ?_
          refine x_iadd dX7_moment_83 ?_
          rw [q0, q21]
          first | refine x_iastN (by assumption) dX7_moment_84 (by omega) (by decide) ?_ | refine x_iast (by assumption) dX7_moment_84 (by assumption) ?_
          refine x_gen (Pz := fun S' => chM S S' a _) (chM_put H1) (fun S2 H2 => ?_)
          have p21 : S2 a (21 + i) = r0 (21 + i) + r0 0 := by rw [H2.1 (21 + i) (by omega), upd_eq]
          have plen : S2 105 0 = P.2.1 := by rw [H2.2 105 (by omega), ← H0.2 105 (by omega)]; exact hlen
          have H2' : chM S0 S2 a _ := ⟨H2.1, fun b hb => by rw [H2.2 b hb, H0.2 b hb]⟩
          refine x_aload_n dX7_moment_85 rfl rfl ?_
          refine x_bipush (v := 21) dX7_moment_86 (by decide) ?_
          refine x_iload dX7_moment_88 rfl ?_
          refine x_iadd dX7_moment_90 ?_
          first | refine x_re (nI_add 21 _) ?_ | skip
          first | refine x_ialdN (by assumption) dX7_moment_91 (by omega) (by decide) ?_ | refine x_iald (by assumption) dX7_moment_91 (by assumption) ?_
          refine x_aload_n dX7_moment_92 rfl rfl ?_
          refine gX7_17 dX7_moment_93 rfl (by assumption) rfl ?_
          refine x_iconst (v := 0) dX7_moment_96 (by decide) ?_
          refine x_ialdN (j := 0) (by assumption) dX7_moment_97 (by decide) (by decide) ?_
          rw [p21, plen]
          refine x_icmp_lt (tgt := 111) dX7_moment_98 (by decide) (fun c_98 => ?_) (fun c_98 => ?_)
          · have hl : ¬ P.2.1 ≤ r0 (21 + i) + r0 0 := by rw [Int32.not_le]; exact c_98
            have hcar : carF P r0 i = upd (upd r0 (30 + i) (r0 (30 + i) + brwF (P.2.2.2.1 i) (r0 1 + (if r0 (12 + i) = 0 then 2 else 0)))) (21 + i) (r0 (21 + i) + r0 0) := by rw [carF, if_pos hw, if_neg hl]
            first | refine x_inc1N (lv' := [(4, _), (3, _), (2, _), (0, _), (1, _)]) dX7_moment_111 rfl (by decide) rfl ?_ | refine x_iinc (v := _ + 1) (lv' := [(4, _), (3, _), (2, _), (0, _), (1, _)]) dX7_moment_111 rfl rfl (by decide) rfl ?_
            refine x_goto (tgt := 12) dX7_moment_114 (by decide) ?_
            first
            | (rw [falU, if_neg (fun z => hw z.1), carU, carF, if_neg hw, Nat.zero_add]; exact ih (i + 1) q S0 r0 (by omega) (by omega) hP0 H0)
            | (rw [falU, if_neg (fun z => hl z.2), carU, hcar, Nat.zero_add]; exact ih (i + 1) q S2 _ (by omega) (by omega) (pM_ch H2' ha2 hP0) H2)
            | (rw [falU, if_pos ⟨hw, hl⟩, carU, hcar, show q + (1 + falU P k (i + 1) (upd (upd (upd r0 (30 + i) (r0 (30 + i) + brwF (P.2.2.2.1 i) (r0 1 + (if r0 (12 + i) = 0 then 2 else 0)))) (21 + i) (r0 (21 + i) + r0 0)) (3 + i) 2)) = (q + 1) + falU P k (i + 1) (upd (upd (upd r0 (30 + i) (r0 (30 + i) + brwF (P.2.2.2.1 i) (r0 1 + (if r0 (12 + i) = 0 then 2 else 0)))) (21 + i) (r0 (21 + i) + r0 0)) (3 + i) 2) by omega]; exact ih (i + 1) (q + 1) S3 _ (by omega) (by omega) (pM_ch H3' ha2 hP0) H3)
          · have hl : P.2.1 ≤ r0 (21 + i) + r0 0 := by rw [← Int32.not_lt]; exact c_98
            have hcar : carF P r0 i = upd (upd (upd r0 (30 + i) (r0 (30 + i) + brwF (P.2.2.2.1 i) (r0 1 + (if r0 (12 + i) = 0 then 2 else 0)))) (21 + i) (r0 (21 + i) + r0 0)) (3 + i) 2 := by rw [carF, if_pos hw, if_pos hl]
            refine x_aload_n dX7_moment_101 rfl rfl ?_
            refine x_iconst (v := 3) dX7_moment_102 (by decide) ?_
            refine x_iload dX7_moment_103 rfl ?_
            refine x_iadd dX7_moment_105 ?_
            first | refine x_re (nI_add 3 _) ?_ | skip
            refine x_iconst (v := 2) dX7_moment_106 (by decide) ?_
            first | refine x_iastN (by assumption) dX7_moment_107 (by omega) (by decide) ?_ | refine x_iast (by assumption) dX7_moment_107 (by assumption) ?_
            refine x_gen (Pz := fun S' => chM S S' a _) (chM_put H2) (fun S3 H3 => ?_)
            have H3' : chM S0 S3 a _ := ⟨H3.1, fun b hb => by rw [H3.2 b hb, H0.2 b hb]⟩
            first | refine x_inc1N (lv' := [(3, _), (4, _), (2, _), (0, _), (1, _)]) dX7_moment_108 rfl (by decide) rfl ?_ | refine x_iinc (v := _ + 1) (lv' := [(3, _), (4, _), (2, _), (0, _), (1, _)]) dX7_moment_108 rfl rfl (by decide) rfl ?_
            first | refine x_inc1N (lv' := [(4, _), (3, _), (2, _), (0, _), (1, _)]) dX7_moment_111 rfl (by decide) rfl ?_ | refine x_iinc (v := _ + 1) (lv' := [(4, _), (3, _), (2, _), (0, _), (1, _)]) dX7_moment_111 rfl rfl (by decide) rfl ?_
            refine x_goto (tgt := 12) dX7_moment_114 (by decide) ?_
            first
            | (rw [falU, if_neg (fun z => hw z.1), carU, carF, if_neg hw, Nat.zero_add]; exact ih (i + 1) q S0 r0 (by omega) (by omega) hP0 H0)
            | (rw [falU, if_neg (fun z => hl z.2), carU, hcar, Nat.zero_add]; exact ih (i + 1) q S2 _ (by omega) (by omega) (pM_ch H2' ha2 hP0) H2)
            | (rw [falU, if_pos ⟨hw, hl⟩, carU, hcar, show q + (1 + falU P k (i + 1) (upd (upd (upd r0 (30 + i) (r0 (30 + i) + brwF (P.2.2.2.1 i) (r0 1 + (if r0 (12 + i) = 0 then 2 else 0)))) (21 + i) (r0 (21 + i) + r0 0)) (3 + i) 2)) = (q + 1) + falU P k (i + 1) (upd (upd (upd r0 (30 + i) (r0 (30 + i) + brwF (P.2.2.2.1 i) (r0 1 + (if r0 (12 + i) = 0 then 2 else 0)))) (21 + i) (r0 (21 + i) + r0 0)) (3 + i) 2) by omega]; exact ih (i + 1) (q + 1) S3 _ (by omega) (by omega) (pM_ch H3' ha2 hP0) H3)
        · refine x_iconst (v := 2) dX7_moment_61 (by decide) ?_
          refine x_goto (tgt := 66) dX7_moment_62 (by decide) ?_
          refine x_iadd dX7_moment_66 ?_
          first
          | refine x_re (b := r0 1 + (if r0 (12 + i) = 0 then 2 else 0)) (by rw [if_neg (by rw [← H0.1 (12 + i) (by omega)]; exact c_58), e1]) ?_
          | refine x_re (b := r0 1 + (if r0 (12 + i) = 0 then 2 else 0)) (by rw [if_pos (by rw [← H0.1 (12 + i) (by omega)]; exact c_58), e1]) ?_
          refine kX7_124 dX7_moment_67 rfl (c_browner) (by decide) (Nat.le_of_ble_eq_true rfl) ?_
          refine x_iadd dX7_moment_70 ?_
          rw [H0.1 (30 + i) (by omega), (hPi i (by omega)).1]
          first | refine x_iastN (by assumption) dX7_moment_71 (by omega) (by decide) ?_ | refine x_iast (by assumption) dX7_moment_71 (by assumption) ?_
          refine x_gen (Pz := fun S' => chM S S' a _) (chM_put H0) (fun S1 H1 => ?_)
          have q0 : S1 a 0 = r0 0 := by rw [H1.1 0 (by omega), upd_ne (by omega)]
          have q21 : S1 a (21 + i) = r0 (21 + i) := by rw [H1.1 (21 + i) (by omega), upd_ne (by omega)]
          refine x_aload_n dX7_moment_72 rfl rfl ?_
          refine x_bipush (v := 21) dX7_moment_73 (by decide) ?_
          refine x_iload dX7_moment_75 rfl ?_
          refine x_iadd dX7_moment_77 ?_
          first | refine x_re (nI_add 21 _) ?_ | skip
          refine x_dup2 dX7_moment_78 rfl rfl ?_
          first | refine x_ialdN (by assumption) dX7_moment_79 (by omega) (by decide) ?_ | refine x_iald (by assumption) dX7_moment_79 (by assumption) ?_
          refine x_aload_n dX7_moment_80 rfl rfl ?_
          refine x_iconst (v := 0) dX7_moment_81 (by decide) ?_
          refine x_ialdN (j := 0) (by assumption) dX7_moment_82 (by decide) (by decide) ?_
          refine x_iadd dX7_moment_83 ?_
          rw [q0, q21]
          first | refine x_iastN (by assumption) dX7_moment_84 (by omega) (by decide) ?_ | refine x_iast (by assumption) dX7_moment_84 (by assumption) ?_
          refine x_gen (Pz := fun S' => chM S S' a _) (chM_put H1) (fun S2 H2 => ?_)
          have p21 : S2 a (21 + i) = r0 (21 + i) + r0 0 := by rw [H2.1 (21 + i) (by omega), upd_eq]
          have plen : S2 105 0 = P.2.1 := by rw [H2.2 105 (by omega), ← H0.2 105 (by omega)]; exact hlen
          have H2' : chM S0 S2 a _ := ⟨H2.1, fun b hb => by rw [H2.2 b hb, H0.2 b hb]⟩
          refine x_aload_n dX7_moment_85 rfl rfl ?_
          refine x_bipush (v := 21) dX7_moment_86 (by decide) ?_
          refine x_iload dX7_moment_88 rfl ?_
          refine x_iadd dX7_moment_90 ?_
          first | refine x_re (nI_add 21 _) ?_ | skip
          first | refine x_ialdN (by assumption) dX7_moment_91 (by omega) (by decide) ?_ | refine x_iald (by assumption) dX7_moment_91 (by assumption) ?_
          refine x_aload_n dX7_moment_92 rfl rfl ?_
          refine gX7_17 dX7_moment_93 rfl (by assumption) rfl ?_
          refine x_iconst (v := 0) dX7_moment_96 (by decide) ?_
          refine x_ialdN (j := 0) (by assumption) dX7_moment_97 (by decide) (by decide) ?_
          rw [p21, plen]
          refine x_icmp_lt (tgt := 111) dX7_moment_98 (by decide) (fun c_98 => ?_) (fun c_98 => ?_)
          · have hl : ¬ P.2.1 ≤ r0 (21 + i) + r0 0 := by rw [Int32.not_le]; exact c_98
            have hcar : carF P r0 i = upd (upd r0 (30 + i) (r0 (30 + i) + brwF (P.2.2.2.1 i) (r0 1 + (if r0 (12 + i) = 0 then 2 else 0)))) (21 + i) (r0 (21 + i) + r0 0) := by rw [carF, if_pos hw, if_neg hl]
            first | refine x_inc1N (lv' := [(4, _), (3, _), (2, _), (0, _), (1, _)]) dX7_moment_111 rfl (by decide) rfl ?_ | refine x_iinc (v := _ + 1) (lv' := [(4, _), (3, _), (2, _), (0, _), (1, _)]) dX7_moment_111 rfl rfl (by decide) rfl ?_
            refine x_goto (tgt := 12) dX7_moment_114 (by decide) ?_
            first
            | (rw [falU, if_neg (fun z => hw z.1), carU, carF, if_neg hw, Nat.zero_add]; exact ih (i + 1) q S0 r0 (by omega) (by omega) hP0 H0)
            | (rw [falU, if_neg (fun z => hl z.2), carU, hcar, Nat.zero_add]; exact ih (i + 1) q S2 _ (by omega) (by omega) (pM_ch H2' ha2 hP0) H2)
            | (rw [falU, if_pos ⟨hw, hl⟩, carU, hcar, show q + (1 + falU P k (i + 1) (upd (upd (upd r0 (30 + i) (r0 (30 + i) + brwF (P.2.2.2.1 i) (r0 1 + (if r0 (12 + i) = 0 then 2 else 0)))) (21 + i) (r0 (21 + i) + r0 0)) (3 + i) 2)) = (q + 1) + falU P k (i + 1) (upd (upd (upd r0 (30 + i) (r0 (30 + i) + brwF (P.2.2.2.1 i) (r0 1 + (if r0 (12 + i) = 0 then 2 else 0)))) (21 + i) (r0 (21 + i) + r0 0)) (3 + i) 2) by omega]; exact ih (i + 1) (q + 1) S3 _ (by omega) (by omega) (pM_ch H3' ha2 hP0) H3)
          · have hl : P.2.1 ≤ r0 (21 + i) + r0 0 := by rw [← Int32.not_lt]; exact c_98
            have hcar : carF P r0 i = upd (upd (upd r0 (30 + i) (r0 (30 + i) + brwF (P.2.2.2.1 i) (r0 1 + (if r0 (12 + i) = 0 then 2 else 0)))) (21 + i) (r0 (21 + i) + r0 0)) (3 + i) 2 := by rw [carF, if_pos hw, if_pos hl]
            refine x_aload_n dX7_moment_101 rfl rfl ?_
            refine x_iconst (v := 3) dX7_moment_102 (by decide) ?_
            refine x_iload dX7_moment_103 rfl ?_
            refine x_iadd dX7_moment_105 ?_
            first | refine x_re (nI_add 3 _) ?_ | skip
            refine x_iconst (v := 2) dX7_moment_106 (by decide) ?_
            first | refine x_iastN (by assumption) dX7_moment_107 (by omega) (by decide) ?_ | refine x_iast (by assumption) dX7_moment_107 (by assumption) ?_
            refine x_gen (Pz := fun S' => chM S S' a _) (chM_put H2) (fun S3 H3 => ?_)
            have H3' : chM S0 S3 a _ := ⟨H3.1, fun b hb => by rw [H3.2 b hb, H0.2 b hb]⟩
            first | refine x_inc1N (lv' := [(3, _), (4, _), (2, _), (0, _), (1, _)]) dX7_moment_108 rfl (by decide) rfl ?_ | refine x_iinc (v := _ + 1) (lv' := [(3, _), (4, _), (2, _), (0, _), (1, _)]) dX7_moment_108 rfl rfl (by decide) rfl ?_
            first | refine x_inc1N (lv' := [(4, _), (3, _), (2, _), (0, _), (1, _)]) dX7_moment_111 rfl (by decide) rfl ?_ | refine x_iinc (v := _ + 1) (lv' := [(4, _), (3, _), (2, _), (0, _), (1, _)]) dX7_moment_111 rfl rfl (by decide) rfl ?_
            refine x_goto (tgt := 12) dX7_moment_114 (by decide) ?_
            first
            | (rw [falU, if_neg (fun z => hw z.1), carU, carF, if_neg hw, Nat.zero_add]; exact ih (i + 1) q S0 r0 (by omega) (by omega) hP0 H0)
            | (rw [falU, if_neg (fun z => hl z.2), carU, hcar, Nat.zero_add]; exact ih (i + 1) q S2 _ (by omega) (by omega) (pM_ch H2' ha2 hP0) H2)
            | (rw [falU, if_pos ⟨hw, hl⟩, carU, hcar, show q + (1 + falU P k (i + 1) (upd (upd (upd r0 (30 + i) (r0 (30 + i) + brwF (P.2.2.2.1 i) (r0 1 + (if r0 (12 + i) = 0 then 2 else 0)))) (21 + i) (r0 (21 + i) + r0 0)) (3 + i) 2)) = (q + 1) + falU P k (i + 1) (upd (upd (upd r0 (30 + i) (r0 (30 + i) + brwF (P.2.2.2.1 i) (r0 1 + (if r0 (12 + i) = 0 then 2 else 0)))) (21 + i) (r0 (21 + i) + r0 0)) (3 + i) 2) by omega]; exact ih (i + 1) (q + 1) S3 _ (by omega) (by omega) (pM_ch H3' ha2 hP0) H3)

set_option maxHeartbeats 1000000 in
set_option maxRecDepth 20000 in
theorem c_moment {B : sB} {S : sSt} {P : aP} {r : aR} {a : Nat} (hm : shM B) (ha : isA B a) (hP : pM S P) (hr : ag (S a) r) : CS B yX7_moment cX7_moment 5 (some .int) 2 [.ref (s_ad B 102), .ref (s_ad B a)] S (qIM (nI (falU P P.1 0 r)) S a (momF P r)) := by
  refine cs_intro (lv := [(0, .ref (s_ad B 102)), (1, .ref (s_ad B a))]) rfl ?_
  have hm0 := hm.1
  refine x_aload_n dX7_moment_0 rfl rfl ?_
  refine x_aload_n dX7_moment_1 rfl rfl ?_
  refine x_iconst (v := 1) dX7_moment_2 (by decide) ?_
  refine kX7_120 dX7_moment_3 rfl (by assumption) (c_manyIn hm ha hP hr) (by decide) (Nat.le_of_ble_eq_true rfl) ?_
  refine x_istore_n (lv' := [(2, _), (0, _), (1, _)]) dX7_moment_6 rfl (by decide) rfl ?_
  refine x_iconst (v := 0) dX7_moment_7 (by decide) ?_
  refine x_istore_n (lv' := [(3, _), (2, _), (0, _), (1, _)]) dX7_moment_8 rfl (by decide) rfl ?_
  refine x_iconst (v := 0) dX7_moment_9 (by decide) ?_
  refine x_istore (lv' := [(4, _), (3, _), (2, _), (0, _), (1, _)]) dX7_moment_10 (by decide) rfl ?_
  have h := lm_moment hm ha (Nat.le_trans (onF_le P r 1) hP.1) P.1 0 0 S r (by omega) (Nat.le_refl 0) hP (chM_rfl hr)
  rw [Nat.zero_add] at h
  exact h

set_option maxHeartbeats 1000000 in
set_option maxRecDepth 20000 in
theorem lm_takeNow {B : sB} {S : sSt} {r : aR} (hm : shM B) (hr : ag (S 113) r) :
    ∀ (k i : Nat) (S0 : sSt), i + k = 48 → (∀ j, j < i → S0 114 j = r j) → (∀ b, b ≠ 114 → S0 b = S b) → WS B (fun _ => True) yX7_takeNow cX7_takeNow 2 none 1 2 [(1, .int (nI i)), (0, .ref (s_ad B 102))] [] S0 (qM S 114 r) := by
  obtain ⟨hm0, h103, h104, h105, h106, h107, h108, h109, h110, h111, h112, h113, h114, h115, h116, h117, h118, h119, h120, h121, h122⟩ := id hm
  intro k
  induction k with
  | zero =>
    intro i S0 hi h1 h2
    refine x_iload_n dX7_takeNow_2 rfl rfl ?_
    refine x_bipush (v := 48) dX7_takeNow_3 (by decide) ?_
    refine x_icmp_ge (tgt := 26) dX7_takeNow_5 (by decide) (fun c_5 => ?_) (fun c_5 => ?_)
    · refine x_return dX7_takeNow_26 rfl ?_
      exact ⟨rfl, fun j hj => h1 j (by omega), h2⟩
    · exact absurd (by rw [show i = 48 by omega]; decide) c_5
  | succ k ih =>
    intro i S0 hi h1 h2
    refine x_iload_n dX7_takeNow_2 rfl rfl ?_
    refine x_bipush (v := 48) dX7_takeNow_3 (by decide) ?_
    refine x_icmp_ge (tgt := 26) dX7_takeNow_5 (by decide) (fun c_5 => ?_) (fun c_5 => ?_)
    · exact absurd c_5 (by exact nI_ge (b := 48) (by omega) (by decide))
    · refine x_aload_n dX7_takeNow_8 rfl rfl ?_
      refine gX7_44 dX7_takeNow_9 rfl (by assumption) rfl ?_
      refine x_iload_n dX7_takeNow_12 rfl rfl ?_
      refine x_aload_n dX7_takeNow_13 rfl rfl ?_
      refine gX7_41 dX7_takeNow_14 rfl (by assumption) rfl ?_
      refine x_iload_n dX7_takeNow_17 rfl rfl ?_
      first | refine x_ialdN (by assumption) dX7_takeNow_18 (by omega) (by decide) ?_ | refine x_iald (by assumption) dX7_takeNow_18 (by assumption) ?_
      first | refine x_iastN (by assumption) dX7_takeNow_19 (by omega) (by decide) ?_ | refine x_iast (by assumption) dX7_takeNow_19 (by assumption) ?_
      first | refine x_inc1N (lv' := [(1, _), (0, _)]) dX7_takeNow_20 rfl (by decide) rfl ?_ | refine x_iinc (v := _ + 1) (lv' := [(1, _), (0, _)]) dX7_takeNow_20 rfl rfl (by decide) rfl ?_
      refine x_goto (tgt := 2) dX7_takeNow_23 (by decide) ?_
      refine ih (i + 1) _ (by omega) (fun j hj => ?_) (fun b hb => by rw [s_put_ne hb]; exact h2 b hb)
      rw [s_put_eq]
      by_cases hji : j = i
      · rw [if_pos hji, hji, h2 113 (by omega)]; exact hr i (by omega)
      · rw [if_neg hji]; exact h1 j (by omega)

set_option maxHeartbeats 1000000 in
set_option maxRecDepth 20000 in
theorem c_takeNow {B : sB} {S : sSt} {r : aR} (hm : shM B) (hr : ag (S 113) r) : CS B yX7_takeNow cX7_takeNow 2 none 1 [.ref (s_ad B 102)] S (qM S 114 r) := by
  refine cs_intro (lv := [(0, .ref (s_ad B 102))]) rfl ?_
  refine x_iconst (v := 0) dX7_takeNow_0 (by decide) ?_
  refine x_istore_n (lv' := [(1, _), (0, _)]) dX7_takeNow_1 rfl (by decide) rfl ?_
  exact lm_takeNow hm hr 48 0 S (by omega) (fun j h => absurd h (Nat.not_lt_zero j)) (fun _ _ => rfl)

theorem mom_near {P : aP} {q : aR} {g k : Nat} (hP : iP P) (h : iR P q) (hg : g < P.1) (hw : q (3 + g) = 1) (hk : P.2.1.toInt - (q (21 + g)).toInt ≤ (k : Int) + 1) : momF P q (3 + g) = 1 → P.2.1.toInt - (momF P q (21 + g)).toInt ≤ k := by
  intro _
  have hn := hP.2.1
  have hp := h.2.2.1 g hg hw
  have hl := hP.2.2.1
  rw [momF_21 hn hg, if_pos hw, add_toInt hp.1 (by omega : (q (21 + g)).toInt ≤ 40) (by have := h.1; omega) h.1.2 (by decide) (by decide)]
  have := h.1
  omega

set_option maxHeartbeats 1000000 in
set_option maxRecDepth 20000 in
theorem lm_goOn {B : sB} {S : sSt} {P : aP} {g : Nat} (hm : shM B) (hiP : iP P) (hg : g < P.1) :
    ∀ (k : Nat) (S0 : sSt) (q : aR), pM S0 P → chM S S0 114 q → iR P q → (q (3 + g) = 1 → P.2.1.toInt - (q (21 + g)).toInt ≤ k) → WS B (fun _ => True) yX7_goOn cX7_goOn 2 none 3 0 [(0, .ref (s_ad B 102)), (1, .int (nI g))] [] S0 (qM S 114 (tilU P k g q)) := by
  obtain ⟨hm0, h103, h104, h105, h106, h107, h108, h109, h110, h111, h112, h113, h114, h115, h116, h117, h118, h119, h120, h121, h122⟩ := id hm
  have hn9 := hiP.2.1
  intro k
  induction k with
  | zero =>
    intro S0 q hP0 H0 jq hk
    have e3 := H0.1 (3 + g) (by omega)
    refine x_aload_n dX7_goOn_0 rfl rfl ?_
    refine gX7_44 dX7_goOn_1 rfl (by assumption) rfl ?_
    refine x_iconst (v := 3) dX7_goOn_4 (by decide) ?_
    refine x_iload_n dX7_goOn_5 rfl rfl ?_
    refine x_iadd dX7_goOn_6 ?_
    first | refine x_re (nI_add 3 _) ?_ | skip
    first | refine x_ialdN (by assumption) dX7_goOn_7 (by omega) (by decide) ?_ | refine x_iald (by assumption) dX7_goOn_7 (by assumption) ?_
    refine x_iconst (v := 1) dX7_goOn_8 (by decide) ?_
    refine x_icmp_ne (tgt := 24) dX7_goOn_9 (by decide) (fun c_9 => ?_) (fun c_9 => ?_)
    · refine x_return dX7_goOn_24 rfl ?_
      exact ⟨rfl, H0⟩
    · have hw : q (3 + g) = 1 := by rw [← e3]; exact c_9
      have h1 := hk hw
      have h2 := jq.2.2.1 g hg hw
      exact absurd h1 (by omega)
  | succ k ih =>
    intro S0 q hP0 H0 jq hk
    have e3 := H0.1 (3 + g) (by omega)
    refine x_aload_n dX7_goOn_0 rfl rfl ?_
    refine gX7_44 dX7_goOn_1 rfl (by assumption) rfl ?_
    refine x_iconst (v := 3) dX7_goOn_4 (by decide) ?_
    refine x_iload_n dX7_goOn_5 rfl rfl ?_
    refine x_iadd dX7_goOn_6 ?_
    first | refine x_re (nI_add 3 _) ?_ | skip
    first | refine x_ialdN (by assumption) dX7_goOn_7 (by omega) (by decide) ?_ | refine x_iald (by assumption) dX7_goOn_7 (by assumption) ?_
    refine x_iconst (v := 1) dX7_goOn_8 (by decide) ?_
    refine x_icmp_ne (tgt := 24) dX7_goOn_9 (by decide) (fun c_9 => ?_) (fun c_9 => ?_)
    · have hw : ¬ q (3 + g) = 1 := by rw [← e3]; exact c_9
      refine x_return dX7_goOn_24 rfl ?_
      rw [tilU, if_neg hw]
      exact ⟨rfl, H0⟩
    · have hw : q (3 + g) = 1 := by rw [← e3]; exact c_9
      refine x_aload_n dX7_goOn_12 rfl rfl ?_
      refine x_aload_n dX7_goOn_13 rfl rfl ?_
      refine gX7_44 dX7_goOn_14 rfl (by assumption) rfl ?_
      refine kX7_156r dX7_goOn_17 rfl (by assumption) (c_moment hm ⟨Or.inr rfl, h114⟩ hP0 H0.1) (by decide) (Nat.le_of_ble_eq_true rfl) (fun z S1 hq => ?_)
      obtain ⟨-, h1⟩ := hq
      refine x_pop dX7_goOn_20 rfl ?_
      refine x_goto (tgt := 0) dX7_goOn_21 (by decide) ?_
      rw [tilU, if_pos hw]
      exact ih S1 _ (pM_ch h1 (by omega) hP0) (chM_trans H0 h1) (iR_mom hiP jq) (mom_near hiP jq hg hw (by have := hk hw; omega))

set_option maxHeartbeats 1000000 in
set_option maxRecDepth 20000 in
theorem cm_goOn {B : sB} {S : sSt} {P : aP} {q : aR} {g : Nat} (hm : shM B) (hiP : iP P) (hP : pM S P) (hq : ag (S 114) q) (jq : iR P q) (hg : g < P.1) : CS B yX7_goOn cX7_goOn 2 none 3 [.ref (s_ad B 102), .int (nI g)] S (qM S 114 (tilU P 40 g q)) := by
  refine cs_intro (lv := [(0, .ref (s_ad B 102)), (1, .int (nI g))]) rfl ?_
  exact lm_goOn hm hiP hg 40 S q hP (chM_rfl hq) jq (fun hw => by have := jq.2.2.1 g hg hw; have := hiP.2.2.1; omega)

set_option maxHeartbeats 1000000 in
set_option maxRecDepth 20000 in
theorem c_isRightBy {B : sB} {S : sSt} {P : aP} {q : aR} {g : Nat} {x : Int32} (hm : shM B) (hiP : iP P) (hP : pM S P) (hq : ag (S 114) q) (jq : iR P q) (hg : g < P.1) : CS B yX7_isRightBy cX7_isRightBy 3 (some .boolean) 4 [.ref (s_ad B 102), .int (nI g), .int x] S (qIM (bI (rgt P (rideF P q g x) g g = true)) S 114 (rideF P q g x)) := by
  refine cs_intro (lv := [(0, .ref (s_ad B 102)), (1, .int (nI g)), (2, .int x)]) rfl ?_
  obtain ⟨hm0, h103, h104, h105, h106, h107, h108, h109, h110, h111, h112, h113, h114, h115, h116, h117, h118, h119, h120, h121, h122⟩ := id hm
  have hn9 := hP.1
  have ha : isA B 114 := ⟨Or.inr rfl, h114⟩
  refine x_aload_n dX7_isRightBy_0 rfl rfl ?_
  refine x_aload_n dX7_isRightBy_1 rfl rfl ?_
  refine gX7_44 dX7_isRightBy_2 rfl (by assumption) rfl ?_
  refine x_iload_n dX7_isRightBy_5 rfl rfl ?_
  refine x_iload_n dX7_isRightBy_6 rfl rfl ?_
  refine kX7_152r dX7_isRightBy_7 rfl (by assumption) (c_put ha hq (by omega)) (by decide) (Nat.le_of_ble_eq_true rfl) (fun S1 hz => ?_)
  obtain ⟨-, h1⟩ := hz
  have hP1 := pM_ch h1 (by omega) hP
  refine x_aload_n dX7_isRightBy_10 rfl rfl ?_
  refine x_iload_n dX7_isRightBy_11 rfl rfl ?_
  refine kX7_169r dX7_isRightBy_12 rfl (by assumption) (cm_goOn hm hiP hP1 h1.1 (iR_put hiP hg jq) hg) (by decide) (Nat.le_of_ble_eq_true rfl) (fun S2 hz => ?_)
  obtain ⟨-, h2⟩ := hz
  have hP2 := pM_ch h2 (by omega) hP1
  refine x_aload_n dX7_isRightBy_15 rfl rfl ?_
  refine x_aload_n dX7_isRightBy_16 rfl rfl ?_
  refine gX7_44 dX7_isRightBy_17 rfl (by assumption) rfl ?_
  refine x_iload_n dX7_isRightBy_20 rfl rfl ?_
  refine x_iload_n dX7_isRightBy_21 rfl rfl ?_
  refine kX7_136 dX7_isRightBy_22 rfl (by assumption) (c_isRightFor hm ha hP2 h2.1 hg hg) (by decide) (Nat.le_of_ble_eq_true rfl) ?_
  refine x_ireturn dX7_isRightBy_25 rfl (by first | rfl | exact bI_nar _) ?_
  exact ⟨rfl, chM_trans h1 h2⟩

set_option maxHeartbeats 1000000 in
set_option maxRecDepth 20000 in
theorem lm_contentOf {B : sB} {S : sSt} {P : aP} {r : aR} {a : Nat} (hm : shM B) (ha : isA B a) (hP : pM S P) (hr : ag (S a) r) (he : ∀ i, i < P.1 → r (39 + i) = -4 ∨ ∃ j, j < P.1 ∧ r (39 + i) = nI j) :
    ∀ (k i : Nat) (c : Int32), i + k = P.1 → WS B (fun _ => True) yX7_contentOf cX7_contentOf 5 (some .int) 3 4 [(3, .int (nI i)), (2, .int c), (0, .ref (s_ad B 102)), (1, .ref (s_ad B a))] [] S (qI (conU P r k i c) S) := by
  obtain ⟨hm0, h103, h104, h105, h106, h107, h108, h109, h110, h111, h112, h113, h114, h115, h116, h117, h118, h119, h120, h121, h122⟩ := id hm
  have ha1 := ha.2
  obtain ⟨hn9, hn, hlen, hmst, hPi⟩ := id hP
  intro k
  induction k with
  | zero =>
    intro i c hi
    refine x_iload_n dX7_contentOf_4 rfl rfl ?_
    refine x_aload_n dX7_contentOf_5 rfl rfl ?_
    refine gX7_13 dX7_contentOf_6 rfl (by assumption) rfl ?_
    refine x_iconst (v := 0) dX7_contentOf_9 (by decide) ?_
    refine x_ialdN (j := 0) (by assumption) dX7_contentOf_10 (by decide) (by decide) ?_
    refine x_icmp_ge (tgt := 57) dX7_contentOf_11 (by decide) (fun c_11 => ?_) (fun c_11 => ?_)
    · refine x_iload_n dX7_contentOf_57 rfl rfl ?_
      refine x_ireturn dX7_contentOf_58 rfl rfl ?_
      exact ⟨rfl, rfl⟩
    · exact absurd (by rw [hn, ← hi]; exact nI_le (by omega) (by omega)) c_11
  | succ k ih =>
    intro i c hi
    have hr39 := hr (39 + i) (by omega)
    refine x_iload_n dX7_contentOf_4 rfl rfl ?_
    refine x_aload_n dX7_contentOf_5 rfl rfl ?_
    refine gX7_13 dX7_contentOf_6 rfl (by assumption) rfl ?_
    refine x_iconst (v := 0) dX7_contentOf_9 (by decide) ?_
    refine x_ialdN (j := 0) (by assumption) dX7_contentOf_10 (by decide) (by decide) ?_
    refine x_icmp_ge (tgt := 57) dX7_contentOf_11 (by decide) (fun c_11 => ?_) (fun c_11 => ?_)
    · exact absurd c_11 (by rw [hn]; exact nI_ge (by omega) (by omega))
    · refine x_aload_n dX7_contentOf_14 rfl rfl ?_
      refine x_bipush (v := 39) dX7_contentOf_15 (by decide) ?_
      refine x_iload_n dX7_contentOf_17 rfl rfl ?_
      refine x_iadd dX7_contentOf_18 ?_
      first | refine x_re (nI_add 39 _) ?_ | skip
      first | refine x_ialdN (by assumption) dX7_contentOf_19 (by omega) (by decide) ?_ | refine x_iald (by assumption) dX7_contentOf_19 (by assumption) ?_
      refine x_istore (lv' := [(4, _), (3, _), (2, _), (0, _), (1, _)]) dX7_contentOf_20 (by decide) rfl ?_
      refine x_iload_n dX7_contentOf_22 rfl rfl ?_
      refine x_iload dX7_contentOf_23 rfl ?_
      refine x_bipush (v := (-4)) dX7_contentOf_25 (by decide) ?_
      refine x_icmp_eq (tgt := 48) dX7_contentOf_27 (by decide) (fun c_27 => ?_) (fun c_27 => ?_)
      · have hr4 : r (39 + i) = -4 := by rw [← hr39]; exact c_27
        refine x_iconst (v := 0) dX7_contentOf_48 (by decide) ?_
        refine x_ior dX7_contentOf_49 ?_
        first | refine x_re (b := c) (Int32.or_zero) ?_ | skip
        refine x_istore_n (lv' := [(2, _), (4, _), (3, _), (0, _), (1, _)]) dX7_contentOf_50 rfl (by decide) rfl ?_
        first | refine x_inc1N (lv' := [(3, _), (2, _), (4, _), (0, _), (1, _)]) dX7_contentOf_51 rfl (by decide) rfl ?_ | refine x_iinc (v := _ + 1) (lv' := [(3, _), (2, _), (4, _), (0, _), (1, _)]) dX7_contentOf_51 rfl rfl (by decide) rfl ?_
        refine x_goto (tgt := 4) dX7_contentOf_54 (by decide) ?_
        refine x_wk [0, 1, 3, 4] rfl ?_
        first
        | (rw [conU, if_pos hr4]; exact ih (i + 1) c (by omega))
        | (rw [conU, if_neg hr4, ← ej, nI_clamp (by omega), if_neg c_38]; exact ih (i + 1) c (by omega))
        | (rw [conU, if_neg hr4, ← ej, nI_clamp (by omega), if_pos c_38]; exact ih (i + 1) _ (by omega))
      · have hr4 : ¬ r (39 + i) = -4 := by rw [← hr39]; exact c_27
        obtain ⟨j, hj, ej⟩ : ∃ j, j < P.1 ∧ nI j = r (39 + i) := by
          rcases he i (by omega) with h | ⟨j, hj, h⟩
          · exact absurd h hr4
          · exact ⟨j, hj, h.symm⟩
        rw [hr39, ← ej]
        refine x_aload_n dX7_contentOf_30 rfl rfl ?_
        refine x_aload_n dX7_contentOf_31 rfl rfl ?_
        refine x_iload dX7_contentOf_32 rfl ?_
        refine x_iload_n dX7_contentOf_34 rfl rfl ?_
        refine kX7_136 dX7_contentOf_35 rfl (by assumption) (c_isRightFor hm ha hP hr hj (by omega)) (by decide) (Nat.le_of_ble_eq_true rfl) ?_
        refine x_ifeq_b (tgt := 48) dX7_contentOf_38 (by decide) (fun c_38 => ?_) (fun c_38 => ?_)
        · refine x_iconst (v := 0) dX7_contentOf_48 (by decide) ?_
          refine x_ior dX7_contentOf_49 ?_
          first | refine x_re (b := c) (Int32.or_zero) ?_ | skip
          refine x_istore_n (lv' := [(2, _), (4, _), (3, _), (0, _), (1, _)]) dX7_contentOf_50 rfl (by decide) rfl ?_
          first | refine x_inc1N (lv' := [(3, _), (2, _), (4, _), (0, _), (1, _)]) dX7_contentOf_51 rfl (by decide) rfl ?_ | refine x_iinc (v := _ + 1) (lv' := [(3, _), (2, _), (4, _), (0, _), (1, _)]) dX7_contentOf_51 rfl rfl (by decide) rfl ?_
          refine x_goto (tgt := 4) dX7_contentOf_54 (by decide) ?_
          refine x_wk [0, 1, 3, 4] rfl ?_
          first
          | (rw [conU, if_pos hr4]; exact ih (i + 1) c (by omega))
          | (rw [conU, if_neg hr4, ← ej, nI_clamp (by omega), if_neg c_38]; exact ih (i + 1) c (by omega))
          | (rw [conU, if_neg hr4, ← ej, nI_clamp (by omega), if_pos c_38]; exact ih (i + 1) _ (by omega))
        · refine x_iconst (v := 1) dX7_contentOf_41 (by decide) ?_
          refine x_iload dX7_contentOf_42 rfl ?_
          refine x_ishl dX7_contentOf_44 ?_
          refine x_goto (tgt := 49) dX7_contentOf_45 (by decide) ?_
          refine x_ior dX7_contentOf_49 ?_
          first | refine x_re (b := c) (Int32.or_zero) ?_ | skip
          refine x_istore_n (lv' := [(2, _), (4, _), (3, _), (0, _), (1, _)]) dX7_contentOf_50 rfl (by decide) rfl ?_
          first | refine x_inc1N (lv' := [(3, _), (2, _), (4, _), (0, _), (1, _)]) dX7_contentOf_51 rfl (by decide) rfl ?_ | refine x_iinc (v := _ + 1) (lv' := [(3, _), (2, _), (4, _), (0, _), (1, _)]) dX7_contentOf_51 rfl rfl (by decide) rfl ?_
          refine x_goto (tgt := 4) dX7_contentOf_54 (by decide) ?_
          refine x_wk [0, 1, 3, 4] rfl ?_
          first
          | (rw [conU, if_pos hr4]; exact ih (i + 1) c (by omega))
          | (rw [conU, if_neg hr4, ← ej, nI_clamp (by omega), if_neg c_38]; exact ih (i + 1) c (by omega))
          | (rw [conU, if_neg hr4, ← ej, nI_clamp (by omega), if_pos c_38]; exact ih (i + 1) _ (by omega))

set_option maxHeartbeats 1000000 in
set_option maxRecDepth 20000 in
theorem c_contentOf {B : sB} {S : sSt} {P : aP} {r : aR} {a : Nat} (hm : shM B) (ha : isA B a) (hP : pM S P) (hr : ag (S a) r) (he : ∀ i, i < P.1 → r (39 + i) = -4 ∨ ∃ j, j < P.1 ∧ r (39 + i) = nI j) : CS B yX7_contentOf cX7_contentOf 5 (some .int) 3 [.ref (s_ad B 102), .ref (s_ad B a)] S (qI (conU P r P.1 0 0) S) := by
  refine cs_intro (lv := [(0, .ref (s_ad B 102)), (1, .ref (s_ad B a))]) rfl ?_
  refine x_iconst (v := 0) dX7_contentOf_0 (by decide) ?_
  refine x_istore_n (lv' := [(2, _), (0, _), (1, _)]) dX7_contentOf_1 rfl (by decide) rfl ?_
  refine x_iconst (v := 0) dX7_contentOf_2 (by decide) ?_
  refine x_istore_n (lv' := [(3, _), (2, _), (0, _), (1, _)]) dX7_contentOf_3 rfl (by decide) rfl ?_
  exact lm_contentOf hm ha hP hr he P.1 0 0 (by omega)
