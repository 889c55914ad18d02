theorem qit_some {S S1 : sSt} {t : Nat → Nat} {L p : Nat} {d : aD} {q : Nat} {d1 : aD} (e : itmF t L p d = some (q, d1)) (hf : frI S S1) (h1 : S1 102 11 = 1) (h2 : S1 102 10 = nI q) (h3 : dM S1 d1) : (none : Option Value) = none ∧ frI S S1 ∧ (match itmF t L p d with | some (q, d1) => S1 102 11 = 1 ∧ S1 102 10 = nI q ∧ dM S1 d1 | none => S1 102 11 = 0) := by
  rw [e]; exact ⟨rfl, hf, h1, h2, h3⟩
theorem qit_none {S S1 : sSt} {t : Nat → Nat} {L p : Nat} {d : aD} (e : itmF t L p d = none) (hf : frI S S1) (h1 : S1 102 11 = 0) : (none : Option Value) = none ∧ frI S S1 ∧ (match itmF t L p d with | some (q, d1) => S1 102 11 = 1 ∧ S1 102 10 = nI q ∧ dM S1 d1 | none => S1 102 11 = 0) := by
  rw [e]; exact ⟨rfl, hf, h1⟩
theorem fig_le2 (t : Nat → Nat) (L p : Nat) : fig t L p ≤ 2 := by unfold fig; split <;> (try split) <;> omega
/-- one place of a draft's row is written -/
def wr1 (S S1 : sSt) (c : Nat) (v : Int32) : Prop := S1 c 1 = v ∧ (∀ j, j ≠ 1 → S1 c j = S c j) ∧ ∀ b, b ≠ c → S1 b = S b
theorem wr1_put {S : sSt} {c : Nat} {v : Int32} : wr1 S (s_put S c 1 v) c v := ⟨by rw [s_put_eq, if_pos rfl], fun j hj => by rw [s_put_eq, if_neg hj], fun b hb => s_put_ne hb⟩
theorem wr1_I {S S1 : sSt} {c : Nat} {v : Int32} (h : wr1 S S1 c v) (hc : 104 ≤ c ∧ c ≤ 108) : frI S S1 := by
  obtain ⟨h1, h2, h3⟩ := h
  have e : ∀ b, S1 b 0 = S b 0 := fun b => by
    by_cases hb : b = c
    · subst hb; exact h2 0 (by decide)
    · rw [h3 b hb]
  exact ⟨fun b x y => h3 b (by omega), fun j _ _ => by rw [h3 102 (by omega)], e 104, e 105, e 108, fun i _ => by rw [h3 109 (by omega), h3 110 (by omega), h3 111 (by omega)]; exact ⟨rfl, rfl, rfl⟩⟩

theorem num_1 {t : Nat → Nat} {L p n : Nat} (h : NR t L p n) (h2 : 1 ≤ n ∧ n ≤ 2) : vlu t L p = vN t p n ∧ nxt t L p = p + n + 1 := by
  obtain ⟨e1, e2⟩ := NR_fig h h2.2
  exact ⟨e2, by rw [nxt, e1]⟩

set_option maxHeartbeats 4000000 in
set_option maxRecDepth 20000 in
theorem cm_readItem {B : sB} {S : sSt} {L : Nat} {t : Nat → Nat} {p : Nat} {d : aD} (hm : shM B) (hT : tM S t L) (hat : S 102 10 = nI p) (hpL : p < L) (hir : S 102 11 = 1) (hd : dM S d) : CS B yX7_readItem cX7_readItem 2 none 4 [.ref (s_ad B 102)] S (fun u S1 => u = none ∧ frI S S1 ∧ (match itmF t L p d with | some (q, d1) => S1 102 11 = 1 ∧ S1 102 10 = nI q ∧ dM S1 d1 | none => S1 102 11 = 0)) := by
  refine cs_intro (lv := [(0, .ref (s_ad B 102))]) rfl ?_
  obtain ⟨hm0, h103, h104, h105, h106, h107, h108, h109, h110, h111, h112, h113, h114, h115, h116, h117, h118, h119, h120, h121, h122⟩ := id hm
  have hL2 := hT.1
  have h126 := (hT.2.2 p hpL).2
  have hrp : hre t L p = t p := by rw [hre, if_pos hpL]
  refine x_aload_n dX7_readItem_0 rfl rfl ?_
  refine kX7_89 dX7_readItem_1 rfl (by assumption) (c_here hm hT hat (by omega)) (by decide) (Nat.le_of_ble_eq_true rfl) ?_
  rw [hrp]
  refine x_istore_n (lv' := [(1, _), (0, _)]) dX7_readItem_4 rfl (by decide) rfl ?_
  refine x_aload_n dX7_readItem_5 rfl rfl ?_
  refine x_dup dX7_readItem_6 rfl ?_
  refine gX7_86 dX7_readItem_7 rfl (by assumption) rfl ?_
  rw [hat]
  refine x_iconst (v := 1) dX7_readItem_10 (by decide) ?_
  refine x_iadd dX7_readItem_11 ?_
  first | refine x_re (nI_add _ _) ?_ | skip
  refine pX7_86 dX7_readItem_12 rfl (by assumption) rfl ?_
  refine x_gen (Pz := fun S' => S' 102 10 = nI (p + 1) ∧ S' 102 11 = bI True ∧ frJ S S') ⟨by rw [s_put_eq, if_pos rfl], by rw [s_put_eq, if_neg (by decide)]; exact hir, ⟨fun b x y => s_put_ne x, fun j x y => by rw [s_put_eq, if_neg x]⟩⟩ (fun S1 H1 => ?_)
  obtain ⟨hat1, hir1, hf1⟩ := H1
  have hT1 := tM_J hf1 hT
  have hd1 := dM_J hf1 hd
  refine x_iload_n dX7_readItem_15 rfl rfl ?_
  by_cases w_103 : nI (t p) = 103
  · refine x_tableIn (tgt := 151) dX7_readItem_16 (by rw [w_103]; decide) (by rw [w_103]; decide) (by rw [w_103]; rfl) (by decide) ?_
    have hc : t p = 103 := (nI_eq (b := 103) (by omega) (by decide)).mp w_103
    refine x_aload_n dX7_readItem_151 rfl rfl ?_
    refine x_aload_n dX7_readItem_152 rfl rfl ?_
    refine gX7_13 dX7_readItem_153 rfl (by assumption) rfl ?_
    refine x_iconst (v := 1) dX7_readItem_156 (by decide) ?_
    refine x_ialdN (j := 1) (by assumption) dX7_readItem_157 (by decide) (by decide) ?_
    rw [hd1.2.1]
    refine x_bipush (v := 9) dX7_readItem_158 (by decide) ?_
    refine x_icmp_ge (tgt := 167) dX7_readItem_160 (by decide) (fun c_160 => ?_) (fun c_160 => ?_)
    · have hg9 : ¬ d.1 < 9 := fun h => absurd c_160 (nI_ge (b := 9) h (by decide))
      refine x_iconst (v := 0) dX7_readItem_167 (by decide) ?_
      refine pX7_93 dX7_readItem_168 rfl (by assumption) rfl rfl rfl ?_
      refine x_gen (Pz := fun S' => S' 102 10 = nI (p + 1) ∧ S' 102 11 = bI (d.1 < 9) ∧ frJ S1 S') ⟨by rw [s_put_eq, if_neg (by decide)]; exact hat1, by rw [s_put_eq, if_pos rfl]; first | exact (bI_lit0 hg9).symm | exact (bI_lit1 hg9).symm, ⟨fun b x y => s_put_ne x, fun j x y => by rw [s_put_eq, if_neg y]⟩⟩ (fun S2 H2 => ?_)
      obtain ⟨hat2, hir2, hf2⟩ := H2
      have hT2 := tM_J hf2 hT1
      have hd2 := dM_J hf2 hd1
      refine x_aload_n dX7_readItem_171 rfl rfl ?_
      refine x_iconst (v := 0) dX7_readItem_172 (by decide) ?_
      refine x_iconst (v := 0) dX7_readItem_173 (by decide) ?_
      refine x_iconst (v := 3) dX7_readItem_174 (by decide) ?_
      refine kX7_97r dX7_readItem_175 rfl (by assumption) (cm_readNumber (k0 := 0) (lo := 0) (hi := 3) hm hT2 hat2 (by omega) hir2 (by decide) (by decide) (by decide)) (by decide) (Nat.le_of_ble_eq_true rfl) (fun S3 hq => ?_)
      obtain ⟨-, n, hNn, hatn, hton, hirn, hotn, hfn⟩ := hq
      have hbn := hNn.1
      have hTn := tM_J hfn hT2
      refine x_aload_n dX7_readItem_178 rfl rfl ?_
      refine x_bipush (v := 44) dX7_readItem_179 (by decide) ?_
      refine kX7_101r dX7_readItem_181 rfl (by assumption) (c_readMark (c := 44) hm hTn hatn (by omega) hirn (by decide)) (by decide) (Nat.le_of_ble_eq_true rfl) (fun S4 hq => ?_)
      obtain ⟨-, hata, hira, htoa, hfa⟩ := hq
      have hTa := tM_J hfa hTn
      refine x_aload_n dX7_readItem_184 rfl rfl ?_
      refine x_iconst (v := 1) dX7_readItem_185 (by decide) ?_
      refine x_iconst (v := 0) dX7_readItem_186 (by decide) ?_
      refine x_bipush (v := 99) dX7_readItem_187 (by decide) ?_
      refine kX7_97r dX7_readItem_189 rfl (by assumption) (cm_readNumber (k0 := 1) (lo := 0) (hi := 99) hm hTa hata (by omega) hira (by decide) (by decide) (by decide)) (by decide) (Nat.le_of_ble_eq_true rfl) (fun S5 hq => ?_)
      obtain ⟨-, m, hNm, hatm, htom, hirm, hotm, hfm⟩ := hq
      have hbm := hNm.1
      have hTm := tM_J hfm hTa
      refine x_aload_n dX7_readItem_192 rfl rfl ?_
      refine x_bipush (v := 44) dX7_readItem_193 (by decide) ?_
      refine kX7_101r dX7_readItem_195 rfl (by assumption) (c_readMark (c := 44) hm hTm hatm (by omega) hirm (by decide)) (by decide) (Nat.le_of_ble_eq_true rfl) (fun S6 hq => ?_)
      obtain ⟨-, hatb, hirb, htob, hfb⟩ := hq
      have hTb := tM_J hfb hTm
      refine x_aload_n dX7_readItem_198 rfl rfl ?_
      refine x_iconst (v := 2) dX7_readItem_199 (by decide) ?_
      refine x_iconst (v := 0) dX7_readItem_200 (by decide) ?_
      refine x_bipush (v := 99) dX7_readItem_201 (by decide) ?_
      refine kX7_97r dX7_readItem_203 rfl (by assumption) (cm_readNumber (k0 := 2) (lo := 0) (hi := 99) hm hTb hatb (by omega) hirb (by decide) (by decide) (by decide)) (by decide) (Nat.le_of_ble_eq_true rfl) (fun S7 hq => ?_)
      obtain ⟨-, z, hNz, hatz, htoz, hirz, hotz, hfz⟩ := hq
      have hbz := hNz.1
      have hTz := tM_J hfz hTb
      have hfJ : frJ S S7 := frJ_trans hf1 (frJ_trans hf2 (frJ_trans hfn (frJ_trans hfa (frJ_trans hfm (frJ_trans hfb hfz)))))
      have hd7 : dM S7 d := dM_J hfJ hd
      have t0 : S7 112 0 = nI (vN t (p + 1) n) := by rw [hotz 0 (by decide), htob, hotm 0 (by decide), htoa]; exact hton
      have t1 : S7 112 1 = nI (vN t (p + 1 + n + 1) m) := by rw [hotz 1 (by decide), htob]; exact htom
      refine x_aload_n dX7_readItem_206 rfl rfl ?_
      refine gX7_93 dX7_readItem_207 rfl (by assumption) rfl ?_
      rw [hirz]
      refine x_ifeq_b (tgt := 259) dX7_readItem_210 (by decide) (fun c_210 => ?_) (fun c_210 => ?_)
      · have hno := c_210
        have hatq := hatz
        have hirq := hirz
        have hTq := hTz
        have hfIq : frI S S7 := frI_J hfJ
        refine x_aload_n dX7_readItem_259 rfl rfl ?_
        refine x_bipush (v := 59) dX7_readItem_260 (by decide) ?_
        first
        | refine kX7_101r dX7_readItem_262 rfl (by assumption) (c_readMark (c := 59) hm hT3 hat3 (by omega) hir3 (by decide)) (by decide) (Nat.le_of_ble_eq_true rfl) (fun S9 hq => ?_)
        | refine kX7_101r dX7_readItem_262 rfl (by assumption) (c_readMark (c := 59) hm hTq hatq (by omega) hirq (by decide)) (by decide) (Nat.le_of_ble_eq_true rfl) (fun S9 hq => ?_)
        | refine kX7_101r dX7_readItem_262 rfl (by assumption) (c_readMark (c := 59) hm hT2 hat2 (by omega) hir2 (by decide)) (by decide) (Nat.le_of_ble_eq_true rfl) (fun S9 hq => ?_)
        obtain ⟨-, hat9, hir9, hto9, hf9⟩ := hq
        refine x_return dX7_readItem_265 rfl ?_
        first
        | (have hfI9 : frI S S9 := frI_trans hfI3 (frI_J hf9)
           have hd2 : dM S2 d := dM_J hfn hd1
           by_cases hall : fok t L (p + 1) 59 = true ∧ 2 ≤ vlu t L (p + 1) ∧ vlu t L (p + 1) ≤ 40
           · have hns := (NR_fok hNn (Or.inr rfl)).mpr hall.1
             obtain ⟨u1, u2⟩ := num_1 hNn hns.1
             refine qit_some (by rw [itm_l hc, if_pos hall]) hfI9 ?_ ?_ ?_
             · rw [hir9, bI_lit1]; exact ⟨⟨trivial, hns.1, by rw [← u1]; exact hall.2⟩, hns.2⟩
             · rw [hat9, u2]
             · rw [u1]
               refine dM_J hf9 ?_
               obtain ⟨g1, g2, g3, g4, g5, g6, g7⟩ := hd2
               refine ⟨g1, ?_, ?_, ?_, ?_, ?_, fun i hi => ?_⟩
               · rw [H3.2.2 104 (by omega)]; exact g2
               · first | exact H3.1 | (rw [H3.2.2 105 (by omega)]; exact g3)
               · first | exact H3.1 | (rw [H3.2.2 106 (by omega)]; exact g4)
               · rw [H3.2.2 107 (by omega)]; exact g5
               · rw [H3.2.2 108 (by omega)]; exact g6
               · rw [H3.2.2 109 (by omega), H3.2.2 110 (by omega), H3.2.2 111 (by omega)]; exact g7 i hi
           · refine qit_none (by rw [itm_l hc, if_neg hall]) hfI9 ?_
             rw [hir9, bI_lit0]
             rintro ⟨⟨-, h12, hv⟩, hs⟩
             obtain ⟨u1, u2⟩ := num_1 hNn h12
             exact hall ⟨(NR_fok hNn (Or.inr rfl)).mp ⟨h12, hs⟩, by rw [u1]; exact hv⟩)
        | (have hfI9 : frI S S9 := frI_trans hfI3 (frI_J hf9)
           have hd2 : dM S2 d := dM_J hfn hd1
           by_cases hall : fok t L (p + 1) 59 = true ∧ 1 ≤ vlu t L (p + 1) ∧ vlu t L (p + 1) ≤ 9
           · have hns := (NR_fok hNn (Or.inr rfl)).mpr hall.1
             obtain ⟨u1, u2⟩ := num_1 hNn hns.1
             refine qit_some (by rw [itm_k hc, if_pos hall]) hfI9 ?_ ?_ ?_
             · rw [hir9, bI_lit1]; exact ⟨⟨trivial, hns.1, by rw [← u1]; exact hall.2⟩, hns.2⟩
             · rw [hat9, u2]
             · rw [u1]
               refine dM_J hf9 ?_
               obtain ⟨g1, g2, g3, g4, g5, g6, g7⟩ := hd2
               refine ⟨g1, ?_, ?_, ?_, ?_, ?_, fun i hi => ?_⟩
               · rw [H3.2.2 104 (by omega)]; exact g2
               · first | exact H3.1 | (rw [H3.2.2 105 (by omega)]; exact g3)
               · first | exact H3.1 | (rw [H3.2.2 106 (by omega)]; exact g4)
               · rw [H3.2.2 107 (by omega)]; exact g5
               · rw [H3.2.2 108 (by omega)]; exact g6
               · rw [H3.2.2 109 (by omega), H3.2.2 110 (by omega), H3.2.2 111 (by omega)]; exact g7 i hi
           · refine qit_none (by rw [itm_k hc, if_neg hall]) hfI9 ?_
             rw [hir9, bI_lit0]
             rintro ⟨⟨-, h12, hv⟩, hs⟩
             obtain ⟨u1, u2⟩ := num_1 hNn h12
             exact hall ⟨(NR_fok hNn (Or.inr rfl)).mp ⟨h12, hs⟩, by rw [u1]; exact hv⟩)
        | (have hfI9 : frI S S9 := frI_trans hfI3 (frI_J hf9)
           have hd4 : dM S4 d := dM_J (frJ_trans hfn (frJ_trans hfa hfm)) hd1
           by_cases hall : fok t L (p + 1) 44 = true ∧ fok t L (nxt t L (p + 1)) 59 = true ∧ vlu t L (p + 1) ≤ 30 ∧ vlu t L (nxt t L (p + 1)) ≤ 30
           · have hns := (NR_fok hNn (Or.inl rfl)).mpr hall.1
             obtain ⟨u1, u2⟩ := num_1 hNn hns.1
             have hal2 := hall.2
             rw [u2] at hal2
             have hms := (NR_fok hNm (Or.inr rfl)).mpr hal2.1
             obtain ⟨u3, u4⟩ := num_1 hNm hms.1
             refine qit_some (by rw [itm_h hc, if_pos hall]) hfI9 ?_ ?_ ?_
             · rw [hir9, bI_lit1]; exact ⟨⟨⟨⟨trivial, hns.1, Nat.zero_le _, by rw [← u1]; exact hal2.2.1⟩, hns.2⟩, hms.1, Nat.zero_le _, by rw [← u3]; exact hal2.2.2⟩, hms.2⟩
             · rw [hat9, u2, u4]
             · rw [u2, u1, u3]
               refine dM_J hf9 ?_
               obtain ⟨g1, g2, g3, g4, g5, g6, g7⟩ := hd4
               refine ⟨g1, ?_, ?_, ?_, ?_, H3.1, fun i hi => ?_⟩
               · rw [H3.2.2 104 (by omega), H5.2.2 104 (by omega)]; exact g2
               · rw [H3.2.2 105 (by omega), H5.2.2 105 (by omega)]; exact g3
               · rw [H3.2.2 106 (by omega), H5.2.2 106 (by omega)]; exact g4
               · rw [H3.2.2 107 (by omega)]; exact H5.1
               · rw [H3.2.2 109 (by omega), H3.2.2 110 (by omega), H3.2.2 111 (by omega), H5.2.2 109 (by omega), H5.2.2 110 (by omega), H5.2.2 111 (by omega)]; exact g7 i hi
           · refine qit_none (by rw [itm_h hc, if_neg hall]) hfI9 ?_
             rw [hir9, bI_lit0]
             rintro ⟨⟨⟨⟨-, h12, hv⟩, hs⟩, h34, hv2⟩, hs2⟩
             obtain ⟨u1, u2⟩ := num_1 hNn h12
             obtain ⟨u3, u4⟩ := num_1 hNm h34
             exact hall ⟨(NR_fok hNn (Or.inl rfl)).mp ⟨h12, hs⟩, by rw [u2]; exact (NR_fok hNm (Or.inr rfl)).mp ⟨h34, hs2⟩, by rw [u1]; exact hv.2, by rw [u2, u3]; exact hv2.2⟩)
        | (have hfI9 : frI S S9 := frI_trans hfIq (frI_J hf9)
           have hall : ¬ (fok t L (p + 1) 44 = true ∧ fok t L (nxt t L (p + 1)) 44 = true ∧ fok t L (nxt t L (nxt t L (p + 1))) 59 = true ∧ d.1 < 9 ∧ vlu t L (p + 1) ≤ 3) := by
             intro hall
             have hns := (NR_fok hNn (Or.inl rfl)).mpr hall.1
             obtain ⟨u1, u2⟩ := num_1 hNn hns.1
             have hal2 := hall.2
             rw [u2] at hal2
             have hms := (NR_fok hNm (Or.inl rfl)).mpr hal2.1
             obtain ⟨u3, u4⟩ := num_1 hNm hms.1
             rw [u4] at hal2
             have hzs := (NR_fok hNz (Or.inr rfl)).mpr hal2.2.1
             obtain ⟨u5, u6⟩ := num_1 hNz hzs.1
             have l1 := vlu_le t L (p + 1 + n + 1)
             have l2 := vlu_le t L (p + 1 + n + 1 + m + 1)
             exact hno ⟨⟨⟨⟨⟨hal2.2.2.1, hns.1, Nat.zero_le _, by rw [← u1]; exact hal2.2.2.2⟩, hns.2⟩, hms.1, Nat.zero_le _, by rw [← u3]; exact l1⟩, hms.2⟩, hzs.1, Nat.zero_le _, by rw [← u5]; exact l2⟩
           refine qit_none (by rw [itm_g hc, if_neg hall]) hfI9 ?_
           rw [hir9, bI_lit0]
           exact fun z => hno z.1)
        | (have hfI9 : frI S S9 := frI_trans hfIq (frI_J hf9)
           obtain ⟨⟨⟨⟨⟨k1, k2, k3⟩, k4⟩, k5, k6⟩, k7⟩, k8, k9⟩ := id hyes
           obtain ⟨u1, u2⟩ := num_1 hNn k2
           obtain ⟨u3, u4⟩ := num_1 hNm k5
           obtain ⟨u5, u6⟩ := num_1 hNz k8
           by_cases hs : sgn t L (p + 1 + n + 1 + m + 1 + z) 59 = true
           · have hall : fok t L (p + 1) 44 = true ∧ fok t L (nxt t L (p + 1)) 44 = true ∧ fok t L (nxt t L (nxt t L (p + 1))) 59 = true ∧ d.1 < 9 ∧ vlu t L (p + 1) ≤ 3 := ⟨(NR_fok hNn (Or.inl rfl)).mp ⟨k2, k4⟩, by rw [u2]; exact (NR_fok hNm (Or.inl rfl)).mp ⟨k5, k7⟩, by rw [u2, u4]; exact (NR_fok hNz (Or.inr rfl)).mp ⟨k8, hs⟩, k1, by rw [u1]; exact k3.2⟩
             refine qit_some (by rw [itm_g hc, if_pos hall]) hfI9 ?_ ?_ ?_
             · rw [hir9, bI_lit1]; exact ⟨hyes, hs⟩
             · rw [hat9, u2, u4, u6]
             · rw [u2, u4, u1, u3, u5]; exact dM_J hf9 hd8
           · have hall : ¬ (fok t L (p + 1) 44 = true ∧ fok t L (nxt t L (p + 1)) 44 = true ∧ fok t L (nxt t L (nxt t L (p + 1))) 59 = true ∧ d.1 < 9 ∧ vlu t L (p + 1) ≤ 3) := by
               intro hall
               have h3 := hall.2.2.1
               rw [u2, u4] at h3
               exact hs ((NR_fok hNz (Or.inr rfl)).mpr h3).2
             refine qit_none (by rw [itm_g hc, if_neg hall]) hfI9 ?_
             rw [hir9, bI_lit0]
             exact fun z => hs z.2)
        | (have hfI9 : frI S S9 := frI_trans (frI_J (frJ_trans hf1 hf2)) (frI_J hf9)
           refine qit_none ?_ hfI9 (by rw [hir9, bI_lit0]; exact fun z => z.1)
           first
           | (have hc : t p = 105 := (nI_eq (b := 105) (by omega) (by decide)).mp w_105
              exact itm_n (by omega) (by omega) (by omega) (by omega))
           | (have hc : t p = 106 := (nI_eq (b := 106) (by omega) (by decide)).mp w_106
              exact itm_n (by omega) (by omega) (by omega) (by omega))
           | exact itm_n (fun q => by rw [q] at w_103; exact absurd rfl w_103) (fun q => by rw [q] at w_104; exact absurd rfl w_104) (fun q => by rw [q] at w_107; exact absurd rfl w_107) (fun q => by rw [q] at w_108; exact absurd rfl w_108))
      · have hyes := c_210
        have hg9' : d.1 < 9 := hyes.1.1.1.1.1
        refine x_aload_n dX7_readItem_213 rfl rfl ?_
        refine x_aload_n dX7_readItem_214 rfl rfl ?_
        refine gX7_13 dX7_readItem_215 rfl (by assumption) rfl ?_
        refine x_iconst (v := 1) dX7_readItem_218 (by decide) ?_
        refine x_ialdN (j := 1) (by assumption) dX7_readItem_219 (by decide) (by decide) ?_
        rw [hd7.2.1]
        refine x_aload_n dX7_readItem_220 rfl rfl ?_
        refine gX7_38 dX7_readItem_221 rfl (by assumption) rfl ?_
        refine x_iconst (v := 0) dX7_readItem_224 (by decide) ?_
        refine x_ialdN (j := 0) (by assumption) dX7_readItem_225 (by decide) (by decide) ?_
        rw [t0]
        refine x_aload_n dX7_readItem_226 rfl rfl ?_
        refine gX7_38 dX7_readItem_227 rfl (by assumption) rfl ?_
        refine x_iconst (v := 1) dX7_readItem_230 (by decide) ?_
        refine x_ialdN (j := 1) (by assumption) dX7_readItem_231 (by decide) (by decide) ?_
        rw [t1]
        refine x_aload_n dX7_readItem_232 rfl rfl ?_
        refine gX7_38 dX7_readItem_233 rfl (by assumption) rfl ?_
        refine x_iconst (v := 2) dX7_readItem_236 (by decide) ?_
        refine x_ialdN (j := 2) (by assumption) dX7_readItem_237 (by decide) (by decide) ?_
        rw [htoz]
        refine kX7_71 dX7_readItem_238 rfl (by assumption) (c_invite hm hg9') (by decide) (Nat.le_of_ble_eq_true rfl) ?_
        refine x_aload_n dX7_readItem_241 rfl rfl ?_
        refine gX7_13 dX7_readItem_242 rfl (by assumption) rfl ?_
        refine x_iconst (v := 1) dX7_readItem_245 (by decide) ?_
        refine x_dup2 dX7_readItem_246 rfl rfl ?_
        refine x_ialdN (j := 1) (by assumption) dX7_readItem_247 (by decide) (by decide) ?_
        rw [s_put_ne (by omega), s_put_ne (by omega), s_put_ne (by omega), hd7.2.1]
        refine x_iconst (v := 1) dX7_readItem_248 (by decide) ?_
        refine x_iadd dX7_readItem_249 ?_
        refine x_re (nI_1 d.1) ?_
        refine x_iastN (j := 1) (by assumption) dX7_readItem_250 (by decide) (by decide) ?_
        refine x_gen (Pz := fun S' => S' 102 = S7 102 ∧ frI S7 S' ∧ dM S' (d.1 + 1, d.2.1, d.2.2.1, d.2.2.2.1, d.2.2.2.2.1, upd d.2.2.2.2.2.1 d.1 (nI (vN t (p + 1) n)), upd d.2.2.2.2.2.2.1 d.1 (nI (vN t (p + 1 + n + 1) m)), upd d.2.2.2.2.2.2.2 d.1 (nI (vN t (p + 1 + n + 1 + m + 1) z)))) (by
          obtain ⟨g1, g2, g3, g4, g5, g6, g7⟩ := hd7
          refine ⟨by rw [s_put_ne (by omega), s_put_ne (by omega), s_put_ne (by omega), s_put_ne (by omega)], ⟨fun b x y => by rw [s_put_ne (by omega), s_put_ne (by omega), s_put_ne (by omega), s_put_ne (by omega)], fun j _ _ => by rw [s_put_ne (by omega), s_put_ne (by omega), s_put_ne (by omega), s_put_ne (by omega)], ?_, ?_, ?_, fun i hi => ?_⟩, ⟨hg9', ?_, ?_, ?_, ?_, ?_, fun i hi => ?_⟩⟩
          · rw [s_put_eq, if_neg (by decide), s_put_ne (by omega), s_put_ne (by omega), s_put_ne (by omega)]
          · rw [s_put_ne (by omega), s_put_ne (by omega), s_put_ne (by omega), s_put_ne (by omega)]
          · rw [s_put_ne (by omega), s_put_ne (by omega), s_put_ne (by omega), s_put_ne (by omega)]
          · have hne : ¬ i = 9 + d.1 := by omega
            simp [s_put, hne]
          · rw [s_put_eq, if_pos rfl]
          · rw [s_put_ne (by omega), s_put_ne (by omega), s_put_ne (by omega), s_put_ne (by omega)]; exact g3
          · rw [s_put_ne (by omega), s_put_ne (by omega), s_put_ne (by omega), s_put_ne (by omega)]; exact g4
          · rw [s_put_ne (by omega), s_put_ne (by omega), s_put_ne (by omega), s_put_ne (by omega)]; exact g5
          · rw [s_put_ne (by omega), s_put_ne (by omega), s_put_ne (by omega), s_put_ne (by omega)]; exact g6
          · have hi : i < d.1 + 1 := hi
            by_cases hid : i = d.1
            · subst hid; simp [s_put, upd]
            · have h7 := g7 i (by omega)
              have hne : ¬ 9 + i = 9 + d.1 := by omega
              simp [s_put, upd, hid, hne, h7]) (fun S8 H8 => ?_)
        obtain ⟨e102, hf8, hd8⟩ := H8
        have hatq : S8 102 10 = nI (p + 1 + n + 1 + m + 1 + z) := by rw [e102]; exact hatz
        have hirq := hirz
        rw [← e102] at hirq
        have hTq : tM S8 t L := tM_I hf8 hTz
        have hfIq : frI S S8 := frI_trans (frI_J hfJ) hf8
        refine x_goto (tgt := 259) dX7_readItem_251 (by decide) ?_
        refine x_aload_n dX7_readItem_259 rfl rfl ?_
        refine x_bipush (v := 59) dX7_readItem_260 (by decide) ?_
        first
        | refine kX7_101r dX7_readItem_262 rfl (by assumption) (c_readMark (c := 59) hm hT3 hat3 (by omega) hir3 (by decide)) (by decide) (Nat.le_of_ble_eq_true rfl) (fun S9 hq => ?_)
        | refine kX7_101r dX7_readItem_262 rfl (by assumption) (c_readMark (c := 59) hm hTq hatq (by omega) hirq (by decide)) (by decide) (Nat.le_of_ble_eq_true rfl) (fun S9 hq => ?_)
        | refine kX7_101r dX7_readItem_262 rfl (by assumption) (c_readMark (c := 59) hm hT2 hat2 (by omega) hir2 (by decide)) (by decide) (Nat.le_of_ble_eq_true rfl) (fun S9 hq => ?_)
        obtain ⟨-, hat9, hir9, hto9, hf9⟩ := hq
        refine x_return dX7_readItem_265 rfl ?_
        first
        | (have hfI9 : frI S S9 := frI_trans hfI3 (frI_J hf9)
           have hd2 : dM S2 d := dM_J hfn hd1
           by_cases hall : fok t L (p + 1) 59 = true ∧ 2 ≤ vlu t L (p + 1) ∧ vlu t L (p + 1) ≤ 40
           · have hns := (NR_fok hNn (Or.inr rfl)).mpr hall.1
             obtain ⟨u1, u2⟩ := num_1 hNn hns.1
             refine qit_some (by rw [itm_l hc, if_pos hall]) hfI9 ?_ ?_ ?_
             · rw [hir9, bI_lit1]; exact ⟨⟨trivial, hns.1, by rw [← u1]; exact hall.2⟩, hns.2⟩
             · rw [hat9, u2]
             · rw [u1]
               refine dM_J hf9 ?_
               obtain ⟨g1, g2, g3, g4, g5, g6, g7⟩ := hd2
               refine ⟨g1, ?_, ?_, ?_, ?_, ?_, fun i hi => ?_⟩
               · rw [H3.2.2 104 (by omega)]; exact g2
               · first | exact H3.1 | (rw [H3.2.2 105 (by omega)]; exact g3)
               · first | exact H3.1 | (rw [H3.2.2 106 (by omega)]; exact g4)
               · rw [H3.2.2 107 (by omega)]; exact g5
               · rw [H3.2.2 108 (by omega)]; exact g6
               · rw [H3.2.2 109 (by omega), H3.2.2 110 (by omega), H3.2.2 111 (by omega)]; exact g7 i hi
           · refine qit_none (by rw [itm_l hc, if_neg hall]) hfI9 ?_
             rw [hir9, bI_lit0]
             rintro ⟨⟨-, h12, hv⟩, hs⟩
             obtain ⟨u1, u2⟩ := num_1 hNn h12
             exact hall ⟨(NR_fok hNn (Or.inr rfl)).mp ⟨h12, hs⟩, by rw [u1]; exact hv⟩)
        | (have hfI9 : frI S S9 := frI_trans hfI3 (frI_J hf9)
           have hd2 : dM S2 d := dM_J hfn hd1
           by_cases hall : fok t L (p + 1) 59 = true ∧ 1 ≤ vlu t L (p + 1) ∧ vlu t L (p + 1) ≤ 9
           · have hns := (NR_fok hNn (Or.inr rfl)).mpr hall.1
             obtain ⟨u1, u2⟩ := num_1 hNn hns.1
             refine qit_some (by rw [itm_k hc, if_pos hall]) hfI9 ?_ ?_ ?_
             · rw [hir9, bI_lit1]; exact ⟨⟨trivial, hns.1, by rw [← u1]; exact hall.2⟩, hns.2⟩
             · rw [hat9, u2]
             · rw [u1]
               refine dM_J hf9 ?_
               obtain ⟨g1, g2, g3, g4, g5, g6, g7⟩ := hd2
               refine ⟨g1, ?_, ?_, ?_, ?_, ?_, fun i hi => ?_⟩
               · rw [H3.2.2 104 (by omega)]; exact g2
               · first | exact H3.1 | (rw [H3.2.2 105 (by omega)]; exact g3)
               · first | exact H3.1 | (rw [H3.2.2 106 (by omega)]; exact g4)
               · rw [H3.2.2 107 (by omega)]; exact g5
               · rw [H3.2.2 108 (by omega)]; exact g6
               · rw [H3.2.2 109 (by omega), H3.2.2 110 (by omega), H3.2.2 111 (by omega)]; exact g7 i hi
           · refine qit_none (by rw [itm_k hc, if_neg hall]) hfI9 ?_
             rw [hir9, bI_lit0]
             rintro ⟨⟨-, h12, hv⟩, hs⟩
             obtain ⟨u1, u2⟩ := num_1 hNn h12
             exact hall ⟨(NR_fok hNn (Or.inr rfl)).mp ⟨h12, hs⟩, by rw [u1]; exact hv⟩)
        | (have hfI9 : frI S S9 := frI_trans hfI3 (frI_J hf9)
           have hd4 : dM S4 d := dM_J (frJ_trans hfn (frJ_trans hfa hfm)) hd1
           by_cases hall : fok t L (p + 1) 44 = true ∧ fok t L (nxt t L (p + 1)) 59 = true ∧ vlu t L (p + 1) ≤ 30 ∧ vlu t L (nxt t L (p + 1)) ≤ 30
           · have hns := (NR_fok hNn (Or.inl rfl)).mpr hall.1
             obtain ⟨u1, u2⟩ := num_1 hNn hns.1
             have hal2 := hall.2
             rw [u2] at hal2
             have hms := (NR_fok hNm (Or.inr rfl)).mpr hal2.1
             obtain ⟨u3, u4⟩ := num_1 hNm hms.1
             refine qit_some (by rw [itm_h hc, if_pos hall]) hfI9 ?_ ?_ ?_
             · rw [hir9, bI_lit1]; exact ⟨⟨⟨⟨trivial, hns.1, Nat.zero_le _, by rw [← u1]; exact hal2.2.1⟩, hns.2⟩, hms.1, Nat.zero_le _, by rw [← u3]; exact hal2.2.2⟩, hms.2⟩
             · rw [hat9, u2, u4]
             · rw [u2, u1, u3]
               refine dM_J hf9 ?_
               obtain ⟨g1, g2, g3, g4, g5, g6, g7⟩ := hd4
               refine ⟨g1, ?_, ?_, ?_, ?_, H3.1, fun i hi => ?_⟩
               · rw [H3.2.2 104 (by omega), H5.2.2 104 (by omega)]; exact g2
               · rw [H3.2.2 105 (by omega), H5.2.2 105 (by omega)]; exact g3
               · rw [H3.2.2 106 (by omega), H5.2.2 106 (by omega)]; exact g4
               · rw [H3.2.2 107 (by omega)]; exact H5.1
               · rw [H3.2.2 109 (by omega), H3.2.2 110 (by omega), H3.2.2 111 (by omega), H5.2.2 109 (by omega), H5.2.2 110 (by omega), H5.2.2 111 (by omega)]; exact g7 i hi
           · refine qit_none (by rw [itm_h hc, if_neg hall]) hfI9 ?_
             rw [hir9, bI_lit0]
             rintro ⟨⟨⟨⟨-, h12, hv⟩, hs⟩, h34, hv2⟩, hs2⟩
             obtain ⟨u1, u2⟩ := num_1 hNn h12
             obtain ⟨u3, u4⟩ := num_1 hNm h34
             exact hall ⟨(NR_fok hNn (Or.inl rfl)).mp ⟨h12, hs⟩, by rw [u2]; exact (NR_fok hNm (Or.inr rfl)).mp ⟨h34, hs2⟩, by rw [u1]; exact hv.2, by rw [u2, u3]; exact hv2.2⟩)
        | (have hfI9 : frI S S9 := frI_trans hfIq (frI_J hf9)
           have hall : ¬ (fok t L (p + 1) 44 = true ∧ fok t L (nxt t L (p + 1)) 44 = true ∧ fok t L (nxt t L (nxt t L (p + 1))) 59 = true ∧ d.1 < 9 ∧ vlu t L (p + 1) ≤ 3) := by
             intro hall
             have hns := (NR_fok hNn (Or.inl rfl)).mpr hall.1
             obtain ⟨u1, u2⟩ := num_1 hNn hns.1
             have hal2 := hall.2
             rw [u2] at hal2
             have hms := (NR_fok hNm (Or.inl rfl)).mpr hal2.1
             obtain ⟨u3, u4⟩ := num_1 hNm hms.1
             rw [u4] at hal2
             have hzs := (NR_fok hNz (Or.inr rfl)).mpr hal2.2.1
             obtain ⟨u5, u6⟩ := num_1 hNz hzs.1
             have l1 := vlu_le t L (p + 1 + n + 1)
             have l2 := vlu_le t L (p + 1 + n + 1 + m + 1)
             exact hno ⟨⟨⟨⟨⟨hal2.2.2.1, hns.1, Nat.zero_le _, by rw [← u1]; exact hal2.2.2.2⟩, hns.2⟩, hms.1, Nat.zero_le _, by rw [← u3]; exact l1⟩, hms.2⟩, hzs.1, Nat.zero_le _, by rw [← u5]; exact l2⟩
           refine qit_none (by rw [itm_g hc, if_neg hall]) hfI9 ?_
           rw [hir9, bI_lit0]
           exact fun z => hno z.1)
        | (have hfI9 : frI S S9 := frI_trans hfIq (frI_J hf9)
           obtain ⟨⟨⟨⟨⟨k1, k2, k3⟩, k4⟩, k5, k6⟩, k7⟩, k8, k9⟩ := id hyes
           obtain ⟨u1, u2⟩ := num_1 hNn k2
           obtain ⟨u3, u4⟩ := num_1 hNm k5
           obtain ⟨u5, u6⟩ := num_1 hNz k8
           by_cases hs : sgn t L (p + 1 + n + 1 + m + 1 + z) 59 = true
           · have hall : fok t L (p + 1) 44 = true ∧ fok t L (nxt t L (p + 1)) 44 = true ∧ fok t L (nxt t L (nxt t L (p + 1))) 59 = true ∧ d.1 < 9 ∧ vlu t L (p + 1) ≤ 3 := ⟨(NR_fok hNn (Or.inl rfl)).mp ⟨k2, k4⟩, by rw [u2]; exact (NR_fok hNm (Or.inl rfl)).mp ⟨k5, k7⟩, by rw [u2, u4]; exact (NR_fok hNz (Or.inr rfl)).mp ⟨k8, hs⟩, k1, by rw [u1]; exact k3.2⟩
             refine qit_some (by rw [itm_g hc, if_pos hall]) hfI9 ?_ ?_ ?_
             · rw [hir9, bI_lit1]; exact ⟨hyes, hs⟩
             · rw [hat9, u2, u4, u6]
             · rw [u2, u4, u1, u3, u5]; exact dM_J hf9 hd8
           · have hall : ¬ (fok t L (p + 1) 44 = true ∧ fok t L (nxt t L (p + 1)) 44 = true ∧ fok t L (nxt t L (nxt t L (p + 1))) 59 = true ∧ d.1 < 9 ∧ vlu t L (p + 1) ≤ 3) := by
               intro hall
               have h3 := hall.2.2.1
               rw [u2, u4] at h3
               exact hs ((NR_fok hNz (Or.inr rfl)).mpr h3).2
             refine qit_none (by rw [itm_g hc, if_neg hall]) hfI9 ?_
             rw [hir9, bI_lit0]
             exact fun z => hs z.2)
        | (have hfI9 : frI S S9 := frI_trans (frI_J (frJ_trans hf1 hf2)) (frI_J hf9)
           refine qit_none ?_ hfI9 (by rw [hir9, bI_lit0]; exact fun z => z.1)
           first
           | (have hc : t p = 105 := (nI_eq (b := 105) (by omega) (by decide)).mp w_105
              exact itm_n (by omega) (by omega) (by omega) (by omega))
           | (have hc : t p = 106 := (nI_eq (b := 106) (by omega) (by decide)).mp w_106
              exact itm_n (by omega) (by omega) (by omega) (by omega))
           | exact itm_n (fun q => by rw [q] at w_103; exact absurd rfl w_103) (fun q => by rw [q] at w_104; exact absurd rfl w_104) (fun q => by rw [q] at w_107; exact absurd rfl w_107) (fun q => by rw [q] at w_108; exact absurd rfl w_108))
    · have hg9 : d.1 < 9 := by
        rcases Nat.lt_or_ge d.1 9 with h | h
        · exact h
        · exact absurd (nI_le (a := 9) h (by have := hd1.1; omega)) c_160
      refine x_iconst (v := 1) dX7_readItem_163 (by decide) ?_
      refine x_goto (tgt := 168) dX7_readItem_164 (by decide) ?_
      refine pX7_93 dX7_readItem_168 rfl (by assumption) rfl rfl rfl ?_
      refine x_gen (Pz := fun S' => S' 102 10 = nI (p + 1) ∧ S' 102 11 = bI (d.1 < 9) ∧ frJ S1 S') ⟨by rw [s_put_eq, if_neg (by decide)]; exact hat1, by rw [s_put_eq, if_pos rfl]; first | exact (bI_lit0 hg9).symm | exact (bI_lit1 hg9).symm, ⟨fun b x y => s_put_ne x, fun j x y => by rw [s_put_eq, if_neg y]⟩⟩ (fun S2 H2 => ?_)
      obtain ⟨hat2, hir2, hf2⟩ := H2
      have hT2 := tM_J hf2 hT1
      have hd2 := dM_J hf2 hd1
      refine x_aload_n dX7_readItem_171 rfl rfl ?_
      refine x_iconst (v := 0) dX7_readItem_172 (by decide) ?_
      refine x_iconst (v := 0) dX7_readItem_173 (by decide) ?_
      refine x_iconst (v := 3) dX7_readItem_174 (by decide) ?_
      refine kX7_97r dX7_readItem_175 rfl (by assumption) (cm_readNumber (k0 := 0) (lo := 0) (hi := 3) hm hT2 hat2 (by omega) hir2 (by decide) (by decide) (by decide)) (by decide) (Nat.le_of_ble_eq_true rfl) (fun S3 hq => ?_)
      obtain ⟨-, n, hNn, hatn, hton, hirn, hotn, hfn⟩ := hq
      have hbn := hNn.1
      have hTn := tM_J hfn hT2
      refine x_aload_n dX7_readItem_178 rfl rfl ?_
      refine x_bipush (v := 44) dX7_readItem_179 (by decide) ?_
      refine kX7_101r dX7_readItem_181 rfl (by assumption) (c_readMark (c := 44) hm hTn hatn (by omega) hirn (by decide)) (by decide) (Nat.le_of_ble_eq_true rfl) (fun S4 hq => ?_)
      obtain ⟨-, hata, hira, htoa, hfa⟩ := hq
      have hTa := tM_J hfa hTn
      refine x_aload_n dX7_readItem_184 rfl rfl ?_
      refine x_iconst (v := 1) dX7_readItem_185 (by decide) ?_
      refine x_iconst (v := 0) dX7_readItem_186 (by decide) ?_
      refine x_bipush (v := 99) dX7_readItem_187 (by decide) ?_
      refine kX7_97r dX7_readItem_189 rfl (by assumption) (cm_readNumber (k0 := 1) (lo := 0) (hi := 99) hm hTa hata (by omega) hira (by decide) (by decide) (by decide)) (by decide) (Nat.le_of_ble_eq_true rfl) (fun S5 hq => ?_)
      obtain ⟨-, m, hNm, hatm, htom, hirm, hotm, hfm⟩ := hq
      have hbm := hNm.1
      have hTm := tM_J hfm hTa
      refine x_aload_n dX7_readItem_192 rfl rfl ?_
      refine x_bipush (v := 44) dX7_readItem_193 (by decide) ?_
      refine kX7_101r dX7_readItem_195 rfl (by assumption) (c_readMark (c := 44) hm hTm hatm (by omega) hirm (by decide)) (by decide) (Nat.le_of_ble_eq_true rfl) (fun S6 hq => ?_)
      obtain ⟨-, hatb, hirb, htob, hfb⟩ := hq
      have hTb := tM_J hfb hTm
      refine x_aload_n dX7_readItem_198 rfl rfl ?_
      refine x_iconst (v := 2) dX7_readItem_199 (by decide) ?_
      refine x_iconst (v := 0) dX7_readItem_200 (by decide) ?_
      refine x_bipush (v := 99) dX7_readItem_201 (by decide) ?_
      refine kX7_97r dX7_readItem_203 rfl (by assumption) (cm_readNumber (k0 := 2) (lo := 0) (hi := 99) hm hTb hatb (by omega) hirb (by decide) (by decide) (by decide)) (by decide) (Nat.le_of_ble_eq_true rfl) (fun S7 hq => ?_)
      obtain ⟨-, z, hNz, hatz, htoz, hirz, hotz, hfz⟩ := hq
      have hbz := hNz.1
      have hTz := tM_J hfz hTb
      have hfJ : frJ S S7 := frJ_trans hf1 (frJ_trans hf2 (frJ_trans hfn (frJ_trans hfa (frJ_trans hfm (frJ_trans hfb hfz)))))
      have hd7 : dM S7 d := dM_J hfJ hd
      have t0 : S7 112 0 = nI (vN t (p + 1) n) := by rw [hotz 0 (by decide), htob, hotm 0 (by decide), htoa]; exact hton
      have t1 : S7 112 1 = nI (vN t (p + 1 + n + 1) m) := by rw [hotz 1 (by decide), htob]; exact htom
      refine x_aload_n dX7_readItem_206 rfl rfl ?_
      refine gX7_93 dX7_readItem_207 rfl (by assumption) rfl ?_
      rw [hirz]
      refine x_ifeq_b (tgt := 259) dX7_readItem_210 (by decide) (fun c_210 => ?_) (fun c_210 => ?_)
      · have hno := c_210
        have hatq := hatz
        have hirq := hirz
        have hTq := hTz
        have hfIq : frI S S7 := frI_J hfJ
        refine x_aload_n dX7_readItem_259 rfl rfl ?_
        refine x_bipush (v := 59) dX7_readItem_260 (by decide) ?_
        first
        | refine kX7_101r dX7_readItem_262 rfl (by assumption) (c_readMark (c := 59) hm hT3 hat3 (by omega) hir3 (by decide)) (by decide) (Nat.le_of_ble_eq_true rfl) (fun S9 hq => ?_)
        | refine kX7_101r dX7_readItem_262 rfl (by assumption) (c_readMark (c := 59) hm hTq hatq (by omega) hirq (by decide)) (by decide) (Nat.le_of_ble_eq_true rfl) (fun S9 hq => ?_)
        | refine kX7_101r dX7_readItem_262 rfl (by assumption) (c_readMark (c := 59) hm hT2 hat2 (by omega) hir2 (by decide)) (by decide) (Nat.le_of_ble_eq_true rfl) (fun S9 hq => ?_)
        obtain ⟨-, hat9, hir9, hto9, hf9⟩ := hq
        refine x_return dX7_readItem_265 rfl ?_
        first
        | (have hfI9 : frI S S9 := frI_trans hfI3 (frI_J hf9)
           have hd2 : dM S2 d := dM_J hfn hd1
           by_cases hall : fok t L (p + 1) 59 = true ∧ 2 ≤ vlu t L (p + 1) ∧ vlu t L (p + 1) ≤ 40
           · have hns := (NR_fok hNn (Or.inr rfl)).mpr hall.1
             obtain ⟨u1, u2⟩ := num_1 hNn hns.1
             refine qit_some (by rw [itm_l hc, if_pos hall]) hfI9 ?_ ?_ ?_
             · rw [hir9, bI_lit1]; exact ⟨⟨trivial, hns.1, by rw [← u1]; exact hall.2⟩, hns.2⟩
             · rw [hat9, u2]
             · rw [u1]
               refine dM_J hf9 ?_
               obtain ⟨g1, g2, g3, g4, g5, g6, g7⟩ := hd2
               refine ⟨g1, ?_, ?_, ?_, ?_, ?_, fun i hi => ?_⟩
               · rw [H3.2.2 104 (by omega)]; exact g2
               · first | exact H3.1 | (rw [H3.2.2 105 (by omega)]; exact g3)
               · first | exact H3.1 | (rw [H3.2.2 106 (by omega)]; exact g4)
               · rw [H3.2.2 107 (by omega)]; exact g5
               · rw [H3.2.2 108 (by omega)]; exact g6
               · rw [H3.2.2 109 (by omega), H3.2.2 110 (by omega), H3.2.2 111 (by omega)]; exact g7 i hi
           · refine qit_none (by rw [itm_l hc, if_neg hall]) hfI9 ?_
             rw [hir9, bI_lit0]
             rintro ⟨⟨-, h12, hv⟩, hs⟩
             obtain ⟨u1, u2⟩ := num_1 hNn h12
             exact hall ⟨(NR_fok hNn (Or.inr rfl)).mp ⟨h12, hs⟩, by rw [u1]; exact hv⟩)
        | (have hfI9 : frI S S9 := frI_trans hfI3 (frI_J hf9)
           have hd2 : dM S2 d := dM_J hfn hd1
           by_cases hall : fok t L (p + 1) 59 = true ∧ 1 ≤ vlu t L (p + 1) ∧ vlu t L (p + 1) ≤ 9
           · have hns := (NR_fok hNn (Or.inr rfl)).mpr hall.1
             obtain ⟨u1, u2⟩ := num_1 hNn hns.1
             refine qit_some (by rw [itm_k hc, if_pos hall]) hfI9 ?_ ?_ ?_
             · rw [hir9, bI_lit1]; exact ⟨⟨trivial, hns.1, by rw [← u1]; exact hall.2⟩, hns.2⟩
             · rw [hat9, u2]
             · rw [u1]
               refine dM_J hf9 ?_
               obtain ⟨g1, g2, g3, g4, g5, g6, g7⟩ := hd2
               refine ⟨g1, ?_, ?_, ?_, ?_, ?_, fun i hi => ?_⟩
               · rw [H3.2.2 104 (by omega)]; exact g2
               · first | exact H3.1 | (rw [H3.2.2 105 (by omega)]; exact g3)
               · first | exact H3.1 | (rw [H3.2.2 106 (by omega)]; exact g4)
               · rw [H3.2.2 107 (by omega)]; exact g5
               · rw [H3.2.2 108 (by omega)]; exact g6
               · rw [H3.2.2 109 (by omega), H3.2.2 110 (by omega), H3.2.2 111 (by omega)]; exact g7 i hi
           · refine qit_none (by rw [itm_k hc, if_neg hall]) hfI9 ?_
             rw [hir9, bI_lit0]
             rintro ⟨⟨-, h12, hv⟩, hs⟩
             obtain ⟨u1, u2⟩ := num_1 hNn h12
             exact hall ⟨(NR_fok hNn (Or.inr rfl)).mp ⟨h12, hs⟩, by rw [u1]; exact hv⟩)
        | (have hfI9 : frI S S9 := frI_trans hfI3 (frI_J hf9)
           have hd4 : dM S4 d := dM_J (frJ_trans hfn (frJ_trans hfa hfm)) hd1
           by_cases hall : fok t L (p + 1) 44 = true ∧ fok t L (nxt t L (p + 1)) 59 = true ∧ vlu t L (p + 1) ≤ 30 ∧ vlu t L (nxt t L (p + 1)) ≤ 30
           · have hns := (NR_fok hNn (Or.inl rfl)).mpr hall.1
             obtain ⟨u1, u2⟩ := num_1 hNn hns.1
             have hal2 := hall.2
             rw [u2] at hal2
             have hms := (NR_fok hNm (Or.inr rfl)).mpr hal2.1
             obtain ⟨u3, u4⟩ := num_1 hNm hms.1
             refine qit_some (by rw [itm_h hc, if_pos hall]) hfI9 ?_ ?_ ?_
             · rw [hir9, bI_lit1]; exact ⟨⟨⟨⟨trivial, hns.1, Nat.zero_le _, by rw [← u1]; exact hal2.2.1⟩, hns.2⟩, hms.1, Nat.zero_le _, by rw [← u3]; exact hal2.2.2⟩, hms.2⟩
             · rw [hat9, u2, u4]
             · rw [u2, u1, u3]
               refine dM_J hf9 ?_
               obtain ⟨g1, g2, g3, g4, g5, g6, g7⟩ := hd4
               refine ⟨g1, ?_, ?_, ?_, ?_, H3.1, fun i hi => ?_⟩
               · rw [H3.2.2 104 (by omega), H5.2.2 104 (by omega)]; exact g2
               · rw [H3.2.2 105 (by omega), H5.2.2 105 (by omega)]; exact g3
               · rw [H3.2.2 106 (by omega), H5.2.2 106 (by omega)]; exact g4
               · rw [H3.2.2 107 (by omega)]; exact H5.1
               · rw [H3.2.2 109 (by omega), H3.2.2 110 (by omega), H3.2.2 111 (by omega), H5.2.2 109 (by omega), H5.2.2 110 (by omega), H5.2.2 111 (by omega)]; exact g7 i hi
           · refine qit_none (by rw [itm_h hc, if_neg hall]) hfI9 ?_
             rw [hir9, bI_lit0]
             rintro ⟨⟨⟨⟨-, h12, hv⟩, hs⟩, h34, hv2⟩, hs2⟩
             obtain ⟨u1, u2⟩ := num_1 hNn h12
             obtain ⟨u3, u4⟩ := num_1 hNm h34
             exact hall ⟨(NR_fok hNn (Or.inl rfl)).mp ⟨h12, hs⟩, by rw [u2]; exact (NR_fok hNm (Or.inr rfl)).mp ⟨h34, hs2⟩, by rw [u1]; exact hv.2, by rw [u2, u3]; exact hv2.2⟩)
        | (have hfI9 : frI S S9 := frI_trans hfIq (frI_J hf9)
           have hall : ¬ (fok t L (p + 1) 44 = true ∧ fok t L (nxt t L (p + 1)) 44 = true ∧ fok t L (nxt t L (nxt t L (p + 1))) 59 = true ∧ d.1 < 9 ∧ vlu t L (p + 1) ≤ 3) := by
             intro hall
             have hns := (NR_fok hNn (Or.inl rfl)).mpr hall.1
             obtain ⟨u1, u2⟩ := num_1 hNn hns.1
             have hal2 := hall.2
             rw [u2] at hal2
             have hms := (NR_fok hNm (Or.inl rfl)).mpr hal2.1
             obtain ⟨u3, u4⟩ := num_1 hNm hms.1
             rw [u4] at hal2
             have hzs := (NR_fok hNz (Or.inr rfl)).mpr hal2.2.1
             obtain ⟨u5, u6⟩ := num_1 hNz hzs.1
             have l1 := vlu_le t L (p + 1 + n + 1)
             have l2 := vlu_le t L (p + 1 + n + 1 + m + 1)
             exact hno ⟨⟨⟨⟨⟨hal2.2.2.1, hns.1, Nat.zero_le _, by rw [← u1]; exact hal2.2.2.2⟩, hns.2⟩, hms.1, Nat.zero_le _, by rw [← u3]; exact l1⟩, hms.2⟩, hzs.1, Nat.zero_le _, by rw [← u5]; exact l2⟩
           refine qit_none (by rw [itm_g hc, if_neg hall]) hfI9 ?_
           rw [hir9, bI_lit0]
           exact fun z => hno z.1)
        | (have hfI9 : frI S S9 := frI_trans hfIq (frI_J hf9)
           obtain ⟨⟨⟨⟨⟨k1, k2, k3⟩, k4⟩, k5, k6⟩, k7⟩, k8, k9⟩ := id hyes
           obtain ⟨u1, u2⟩ := num_1 hNn k2
           obtain ⟨u3, u4⟩ := num_1 hNm k5
           obtain ⟨u5, u6⟩ := num_1 hNz k8
           by_cases hs : sgn t L (p + 1 + n + 1 + m + 1 + z) 59 = true
           · have hall : fok t L (p + 1) 44 = true ∧ fok t L (nxt t L (p + 1)) 44 = true ∧ fok t L (nxt t L (nxt t L (p + 1))) 59 = true ∧ d.1 < 9 ∧ vlu t L (p + 1) ≤ 3 := ⟨(NR_fok hNn (Or.inl rfl)).mp ⟨k2, k4⟩, by rw [u2]; exact (NR_fok hNm (Or.inl rfl)).mp ⟨k5, k7⟩, by rw [u2, u4]; exact (NR_fok hNz (Or.inr rfl)).mp ⟨k8, hs⟩, k1, by rw [u1]; exact k3.2⟩
             refine qit_some (by rw [itm_g hc, if_pos hall]) hfI9 ?_ ?_ ?_
             · rw [hir9, bI_lit1]; exact ⟨hyes, hs⟩
             · rw [hat9, u2, u4, u6]
             · rw [u2, u4, u1, u3, u5]; exact dM_J hf9 hd8
           · have hall : ¬ (fok t L (p + 1) 44 = true ∧ fok t L (nxt t L (p + 1)) 44 = true ∧ fok t L (nxt t L (nxt t L (p + 1))) 59 = true ∧ d.1 < 9 ∧ vlu t L (p + 1) ≤ 3) := by
               intro hall
               have h3 := hall.2.2.1
               rw [u2, u4] at h3
               exact hs ((NR_fok hNz (Or.inr rfl)).mpr h3).2
             refine qit_none (by rw [itm_g hc, if_neg hall]) hfI9 ?_
             rw [hir9, bI_lit0]
             exact fun z => hs z.2)
        | (have hfI9 : frI S S9 := frI_trans (frI_J (frJ_trans hf1 hf2)) (frI_J hf9)
           refine qit_none ?_ hfI9 (by rw [hir9, bI_lit0]; exact fun z => z.1)
           first
           | (have hc : t p = 105 := (nI_eq (b := 105) (by omega) (by decide)).mp w_105
              exact itm_n (by omega) (by omega) (by omega) (by omega))
           | (have hc : t p = 106 := (nI_eq (b := 106) (by omega) (by decide)).mp w_106
              exact itm_n (by omega) (by omega) (by omega) (by omega))
           | exact itm_n (fun q => by rw [q] at w_103; exact absurd rfl w_103) (fun q => by rw [q] at w_104; exact absurd rfl w_104) (fun q => by rw [q] at w_107; exact absurd rfl w_107) (fun q => by rw [q] at w_108; exact absurd rfl w_108))
      · have hyes := c_210
        have hg9' : d.1 < 9 := hyes.1.1.1.1.1
        refine x_aload_n dX7_readItem_213 rfl rfl ?_
        refine x_aload_n dX7_readItem_214 rfl rfl ?_
        refine gX7_13 dX7_readItem_215 rfl (by assumption) rfl ?_
        refine x_iconst (v := 1) dX7_readItem_218 (by decide) ?_
        refine x_ialdN (j := 1) (by assumption) dX7_readItem_219 (by decide) (by decide) ?_
        rw [hd7.2.1]
        refine x_aload_n dX7_readItem_220 rfl rfl ?_
        refine gX7_38 dX7_readItem_221 rfl (by assumption) rfl ?_
        refine x_iconst (v := 0) dX7_readItem_224 (by decide) ?_
        refine x_ialdN (j := 0) (by assumption) dX7_readItem_225 (by decide) (by decide) ?_
        rw [t0]
        refine x_aload_n dX7_readItem_226 rfl rfl ?_
        refine gX7_38 dX7_readItem_227 rfl (by assumption) rfl ?_
        refine x_iconst (v := 1) dX7_readItem_230 (by decide) ?_
        refine x_ialdN (j := 1) (by assumption) dX7_readItem_231 (by decide) (by decide) ?_
        rw [t1]
        refine x_aload_n dX7_readItem_232 rfl rfl ?_
        refine gX7_38 dX7_readItem_233 rfl (by assumption) rfl ?_
        refine x_iconst (v := 2) dX7_readItem_236 (by decide) ?_
        refine x_ialdN (j := 2) (by assumption) dX7_readItem_237 (by decide) (by decide) ?_
        rw [htoz]
        refine kX7_71 dX7_readItem_238 rfl (by assumption) (c_invite hm hg9') (by decide) (Nat.le_of_ble_eq_true rfl) ?_
        refine x_aload_n dX7_readItem_241 rfl rfl ?_
        refine gX7_13 dX7_readItem_242 rfl (by assumption) rfl ?_
        refine x_iconst (v := 1) dX7_readItem_245 (by decide) ?_
        refine x_dup2 dX7_readItem_246 rfl rfl ?_
        refine x_ialdN (j := 1) (by assumption) dX7_readItem_247 (by decide) (by decide) ?_
        rw [s_put_ne (by omega), s_put_ne (by omega), s_put_ne (by omega), hd7.2.1]
        refine x_iconst (v := 1) dX7_readItem_248 (by decide) ?_
        refine x_iadd dX7_readItem_249 ?_
        refine x_re (nI_1 d.1) ?_
        refine x_iastN (j := 1) (by assumption) dX7_readItem_250 (by decide) (by decide) ?_
        refine x_gen (Pz := fun S' => S' 102 = S7 102 ∧ frI S7 S' ∧ dM S' (d.1 + 1, d.2.1, d.2.2.1, d.2.2.2.1, d.2.2.2.2.1, upd d.2.2.2.2.2.1 d.1 (nI (vN t (p + 1) n)), upd d.2.2.2.2.2.2.1 d.1 (nI (vN t (p + 1 + n + 1) m)), upd d.2.2.2.2.2.2.2 d.1 (nI (vN t (p + 1 + n + 1 + m + 1) z)))) (by
          obtain ⟨g1, g2, g3, g4, g5, g6, g7⟩ := hd7
          refine ⟨by rw [s_put_ne (by omega), s_put_ne (by omega), s_put_ne (by omega), s_put_ne (by omega)], ⟨fun b x y => by rw [s_put_ne (by omega), s_put_ne (by omega), s_put_ne (by omega), s_put_ne (by omega)], fun j _ _ => by rw [s_put_ne (by omega), s_put_ne (by omega), s_put_ne (by omega), s_put_ne (by omega)], ?_, ?_, ?_, fun i hi => ?_⟩, ⟨hg9', ?_, ?_, ?_, ?_, ?_, fun i hi => ?_⟩⟩
          · rw [s_put_eq, if_neg (by decide), s_put_ne (by omega), s_put_ne (by omega), s_put_ne (by omega)]
          · rw [s_put_ne (by omega), s_put_ne (by omega), s_put_ne (by omega), s_put_ne (by omega)]
          · rw [s_put_ne (by omega), s_put_ne (by omega), s_put_ne (by omega), s_put_ne (by omega)]
          · have hne : ¬ i = 9 + d.1 := by omega
            simp [s_put, hne]
          · rw [s_put_eq, if_pos rfl]
          · rw [s_put_ne (by omega), s_put_ne (by omega), s_put_ne (by omega), s_put_ne (by omega)]; exact g3
          · rw [s_put_ne (by omega), s_put_ne (by omega), s_put_ne (by omega), s_put_ne (by omega)]; exact g4
          · rw [s_put_ne (by omega), s_put_ne (by omega), s_put_ne (by omega), s_put_ne (by omega)]; exact g5
          · rw [s_put_ne (by omega), s_put_ne (by omega), s_put_ne (by omega), s_put_ne (by omega)]; exact g6
          · have hi : i < d.1 + 1 := hi
            by_cases hid : i = d.1
            · subst hid; simp [s_put, upd]
            · have h7 := g7 i (by omega)
              have hne : ¬ 9 + i = 9 + d.1 := by omega
              simp [s_put, upd, hid, hne, h7]) (fun S8 H8 => ?_)
        obtain ⟨e102, hf8, hd8⟩ := H8
        have hatq : S8 102 10 = nI (p + 1 + n + 1 + m + 1 + z) := by rw [e102]; exact hatz
        have hirq := hirz
        rw [← e102] at hirq
        have hTq : tM S8 t L := tM_I hf8 hTz
        have hfIq : frI S S8 := frI_trans (frI_J hfJ) hf8
        refine x_goto (tgt := 259) dX7_readItem_251 (by decide) ?_
        refine x_aload_n dX7_readItem_259 rfl rfl ?_
        refine x_bipush (v := 59) dX7_readItem_260 (by decide) ?_
        first
        | refine kX7_101r dX7_readItem_262 rfl (by assumption) (c_readMark (c := 59) hm hT3 hat3 (by omega) hir3 (by decide)) (by decide) (Nat.le_of_ble_eq_true rfl) (fun S9 hq => ?_)
        | refine kX7_101r dX7_readItem_262 rfl (by assumption) (c_readMark (c := 59) hm hTq hatq (by omega) hirq (by decide)) (by decide) (Nat.le_of_ble_eq_true rfl) (fun S9 hq => ?_)
        | refine kX7_101r dX7_readItem_262 rfl (by assumption) (c_readMark (c := 59) hm hT2 hat2 (by omega) hir2 (by decide)) (by decide) (Nat.le_of_ble_eq_true rfl) (fun S9 hq => ?_)
        obtain ⟨-, hat9, hir9, hto9, hf9⟩ := hq
        refine x_return dX7_readItem_265 rfl ?_
        first
        | (have hfI9 : frI S S9 := frI_trans hfI3 (frI_J hf9)
           have hd2 : dM S2 d := dM_J hfn hd1
           by_cases hall : fok t L (p + 1) 59 = true ∧ 2 ≤ vlu t L (p + 1) ∧ vlu t L (p + 1) ≤ 40
           · have hns := (NR_fok hNn (Or.inr rfl)).mpr hall.1
             obtain ⟨u1, u2⟩ := num_1 hNn hns.1
             refine qit_some (by rw [itm_l hc, if_pos hall]) hfI9 ?_ ?_ ?_
             · rw [hir9, bI_lit1]; exact ⟨⟨trivial, hns.1, by rw [← u1]; exact hall.2⟩, hns.2⟩
             · rw [hat9, u2]
             · rw [u1]
               refine dM_J hf9 ?_
               obtain ⟨g1, g2, g3, g4, g5, g6, g7⟩ := hd2
               refine ⟨g1, ?_, ?_, ?_, ?_, ?_, fun i hi => ?_⟩
               · rw [H3.2.2 104 (by omega)]; exact g2
               · first | exact H3.1 | (rw [H3.2.2 105 (by omega)]; exact g3)
               · first | exact H3.1 | (rw [H3.2.2 106 (by omega)]; exact g4)
               · rw [H3.2.2 107 (by omega)]; exact g5
               · rw [H3.2.2 108 (by omega)]; exact g6
               · rw [H3.2.2 109 (by omega), H3.2.2 110 (by omega), H3.2.2 111 (by omega)]; exact g7 i hi
           · refine qit_none (by rw [itm_l hc, if_neg hall]) hfI9 ?_
             rw [hir9, bI_lit0]
             rintro ⟨⟨-, h12, hv⟩, hs⟩
             obtain ⟨u1, u2⟩ := num_1 hNn h12
             exact hall ⟨(NR_fok hNn (Or.inr rfl)).mp ⟨h12, hs⟩, by rw [u1]; exact hv⟩)
        | (have hfI9 : frI S S9 := frI_trans hfI3 (frI_J hf9)
           have hd2 : dM S2 d := dM_J hfn hd1
           by_cases hall : fok t L (p + 1) 59 = true ∧ 1 ≤ vlu t L (p + 1) ∧ vlu t L (p + 1) ≤ 9
           · have hns := (NR_fok hNn (Or.inr rfl)).mpr hall.1
             obtain ⟨u1, u2⟩ := num_1 hNn hns.1
             refine qit_some (by rw [itm_k hc, if_pos hall]) hfI9 ?_ ?_ ?_
             · rw [hir9, bI_lit1]; exact ⟨⟨trivial, hns.1, by rw [← u1]; exact hall.2⟩, hns.2⟩
             · rw [hat9, u2]
             · rw [u1]
               refine dM_J hf9 ?_
               obtain ⟨g1, g2, g3, g4, g5, g6, g7⟩ := hd2
               refine ⟨g1, ?_, ?_, ?_, ?_, ?_, fun i hi => ?_⟩
               · rw [H3.2.2 104 (by omega)]; exact g2
               · first | exact H3.1 | (rw [H3.2.2 105 (by omega)]; exact g3)
               · first | exact H3.1 | (rw [H3.2.2 106 (by omega)]; exact g4)
               · rw [H3.2.2 107 (by omega)]; exact g5
               · rw [H3.2.2 108 (by omega)]; exact g6
               · rw [H3.2.2 109 (by omega), H3.2.2 110 (by omega), H3.2.2 111 (by omega)]; exact g7 i hi
           · refine qit_none (by rw [itm_k hc, if_neg hall]) hfI9 ?_
             rw [hir9, bI_lit0]
             rintro ⟨⟨-, h12, hv⟩, hs⟩
             obtain ⟨u1, u2⟩ := num_1 hNn h12
             exact hall ⟨(NR_fok hNn (Or.inr rfl)).mp ⟨h12, hs⟩, by rw [u1]; exact hv⟩)
        | (have hfI9 : frI S S9 := frI_trans hfI3 (frI_J hf9)
           have hd4 : dM S4 d := dM_J (frJ_trans hfn (frJ_trans hfa hfm)) hd1
           by_cases hall : fok t L (p + 1) 44 = true ∧ fok t L (nxt t L (p + 1)) 59 = true ∧ vlu t L (p + 1) ≤ 30 ∧ vlu t L (nxt t L (p + 1)) ≤ 30
           · have hns := (NR_fok hNn (Or.inl rfl)).mpr hall.1
             obtain ⟨u1, u2⟩ := num_1 hNn hns.1
             have hal2 := hall.2
             rw [u2] at hal2
             have hms := (NR_fok hNm (Or.inr rfl)).mpr hal2.1
             obtain ⟨u3, u4⟩ := num_1 hNm hms.1
             refine qit_some (by rw [itm_h hc, if_pos hall]) hfI9 ?_ ?_ ?_
             · rw [hir9, bI_lit1]; exact ⟨⟨⟨⟨trivial, hns.1, Nat.zero_le _, by rw [← u1]; exact hal2.2.1⟩, hns.2⟩, hms.1, Nat.zero_le _, by rw [← u3]; exact hal2.2.2⟩, hms.2⟩
             · rw [hat9, u2, u4]
             · rw [u2, u1, u3]
               refine dM_J hf9 ?_
               obtain ⟨g1, g2, g3, g4, g5, g6, g7⟩ := hd4
               refine ⟨g1, ?_, ?_, ?_, ?_, H3.1, fun i hi => ?_⟩
               · rw [H3.2.2 104 (by omega), H5.2.2 104 (by omega)]; exact g2
               · rw [H3.2.2 105 (by omega), H5.2.2 105 (by omega)]; exact g3
               · rw [H3.2.2 106 (by omega), H5.2.2 106 (by omega)]; exact g4
               · rw [H3.2.2 107 (by omega)]; exact H5.1
               · rw [H3.2.2 109 (by omega), H3.2.2 110 (by omega), H3.2.2 111 (by omega), H5.2.2 109 (by omega), H5.2.2 110 (by omega), H5.2.2 111 (by omega)]; exact g7 i hi
           · refine qit_none (by rw [itm_h hc, if_neg hall]) hfI9 ?_
             rw [hir9, bI_lit0]
             rintro ⟨⟨⟨⟨-, h12, hv⟩, hs⟩, h34, hv2⟩, hs2⟩
             obtain ⟨u1, u2⟩ := num_1 hNn h12
             obtain ⟨u3, u4⟩ := num_1 hNm h34
             exact hall ⟨(NR_fok hNn (Or.inl rfl)).mp ⟨h12, hs⟩, by rw [u2]; exact (NR_fok hNm (Or.inr rfl)).mp ⟨h34, hs2⟩, by rw [u1]; exact hv.2, by rw [u2, u3]; exact hv2.2⟩)
        | (have hfI9 : frI S S9 := frI_trans hfIq (frI_J hf9)
           have hall : ¬ (fok t L (p + 1) 44 = true ∧ fok t L (nxt t L (p + 1)) 44 = true ∧ fok t L (nxt t L (nxt t L (p + 1))) 59 = true ∧ d.1 < 9 ∧ vlu t L (p + 1) ≤ 3) := by
             intro hall
             have hns := (NR_fok hNn (Or.inl rfl)).mpr hall.1
             obtain ⟨u1, u2⟩ := num_1 hNn hns.1
             have hal2 := hall.2
             rw [u2] at hal2
             have hms := (NR_fok hNm (Or.inl rfl)).mpr hal2.1
             obtain ⟨u3, u4⟩ := num_1 hNm hms.1
             rw [u4] at hal2
             have hzs := (NR_fok hNz (Or.inr rfl)).mpr hal2.2.1
             obtain ⟨u5, u6⟩ := num_1 hNz hzs.1
             have l1 := vlu_le t L (p + 1 + n + 1)
             have l2 := vlu_le t L (p + 1 + n + 1 + m + 1)
             exact hno ⟨⟨⟨⟨⟨hal2.2.2.1, hns.1, Nat.zero_le _, by rw [← u1]; exact hal2.2.2.2⟩, hns.2⟩, hms.1, Nat.zero_le _, by rw [← u3]; exact l1⟩, hms.2⟩, hzs.1, Nat.zero_le _, by rw [← u5]; exact l2⟩
           refine qit_none (by rw [itm_g hc, if_neg hall]) hfI9 ?_
           rw [hir9, bI_lit0]
           exact fun z => hno z.1)
        | (have hfI9 : frI S S9 := frI_trans hfIq (frI_J hf9)
           obtain ⟨⟨⟨⟨⟨k1, k2, k3⟩, k4⟩, k5, k6⟩, k7⟩, k8, k9⟩ := id hyes
           obtain ⟨u1, u2⟩ := num_1 hNn k2
           obtain ⟨u3, u4⟩ := num_1 hNm k5
           obtain ⟨u5, u6⟩ := num_1 hNz k8
           by_cases hs : sgn t L (p + 1 + n + 1 + m + 1 + z) 59 = true
           · have hall : fok t L (p + 1) 44 = true ∧ fok t L (nxt t L (p + 1)) 44 = true ∧ fok t L (nxt t L (nxt t L (p + 1))) 59 = true ∧ d.1 < 9 ∧ vlu t L (p + 1) ≤ 3 := ⟨(NR_fok hNn (Or.inl rfl)).mp ⟨k2, k4⟩, by rw [u2]; exact (NR_fok hNm (Or.inl rfl)).mp ⟨k5, k7⟩, by rw [u2, u4]; exact (NR_fok hNz (Or.inr rfl)).mp ⟨k8, hs⟩, k1, by rw [u1]; exact k3.2⟩
             refine qit_some (by rw [itm_g hc, if_pos hall]) hfI9 ?_ ?_ ?_
             · rw [hir9, bI_lit1]; exact ⟨hyes, hs⟩
             · rw [hat9, u2, u4, u6]
             · rw [u2, u4, u1, u3, u5]; exact dM_J hf9 hd8
           · have hall : ¬ (fok t L (p + 1) 44 = true ∧ fok t L (nxt t L (p + 1)) 44 = true ∧ fok t L (nxt t L (nxt t L (p + 1))) 59 = true ∧ d.1 < 9 ∧ vlu t L (p + 1) ≤ 3) := by
               intro hall
               have h3 := hall.2.2.1
               rw [u2, u4] at h3
               exact hs ((NR_fok hNz (Or.inr rfl)).mpr h3).2
             refine qit_none (by rw [itm_g hc, if_neg hall]) hfI9 ?_
             rw [hir9, bI_lit0]
             exact fun z => hs z.2)
        | (have hfI9 : frI S S9 := frI_trans (frI_J (frJ_trans hf1 hf2)) (frI_J hf9)
           refine qit_none ?_ hfI9 (by rw [hir9, bI_lit0]; exact fun z => z.1)
           first
           | (have hc : t p = 105 := (nI_eq (b := 105) (by omega) (by decide)).mp w_105
              exact itm_n (by omega) (by omega) (by omega) (by omega))
           | (have hc : t p = 106 := (nI_eq (b := 106) (by omega) (by decide)).mp w_106
              exact itm_n (by omega) (by omega) (by omega) (by omega))
           | exact itm_n (fun q => by rw [q] at w_103; exact absurd rfl w_103) (fun q => by rw [q] at w_104; exact absurd rfl w_104) (fun q => by rw [q] at w_107; exact absurd rfl w_107) (fun q => by rw [q] at w_108; exact absurd rfl w_108))
  by_cases w_104 : nI (t p) = 104
  · refine x_tableIn (tgt := 102) dX7_readItem_16 (by rw [w_104]; decide) (by rw [w_104]; decide) (by rw [w_104]; rfl) (by decide) ?_
    have hc : t p = 104 := (nI_eq (b := 104) (by omega) (by decide)).mp w_104
    refine x_aload_n dX7_readItem_102 rfl rfl ?_
    refine x_iconst (v := 0) dX7_readItem_103 (by decide) ?_
    refine x_iconst (v := 0) dX7_readItem_104 (by decide) ?_
    refine x_bipush (v := 30) dX7_readItem_105 (by decide) ?_
    refine kX7_97r dX7_readItem_107 rfl (by assumption) (cm_readNumber (k0 := 0) (lo := 0) (hi := 30) hm hT1 hat1 (by omega) hir1 (by decide) (by decide) (by decide)) (by decide) (Nat.le_of_ble_eq_true rfl) (fun S2 hq => ?_)
    obtain ⟨-, n, hNn, hatn, hton, hirn, hotn, hfn⟩ := hq
    have hbn := hNn.1
    have hTn := tM_J hfn hT1
    refine x_aload_n dX7_readItem_110 rfl rfl ?_
    refine x_bipush (v := 44) dX7_readItem_111 (by decide) ?_
    refine kX7_101r dX7_readItem_113 rfl (by assumption) (c_readMark (c := 44) hm hTn hatn (by omega) hirn (by decide)) (by decide) (Nat.le_of_ble_eq_true rfl) (fun S3 hq => ?_)
    obtain ⟨-, hata, hira, htoa, hfa⟩ := hq
    have hTa := tM_J hfa hTn
    refine x_aload_n dX7_readItem_116 rfl rfl ?_
    refine x_iconst (v := 1) dX7_readItem_117 (by decide) ?_
    refine x_iconst (v := 0) dX7_readItem_118 (by decide) ?_
    refine x_bipush (v := 30) dX7_readItem_119 (by decide) ?_
    refine kX7_97r dX7_readItem_121 rfl (by assumption) (cm_readNumber (k0 := 1) (lo := 0) (hi := 30) hm hTa hata (by omega) hira (by decide) (by decide) (by decide)) (by decide) (Nat.le_of_ble_eq_true rfl) (fun S4 hq => ?_)
    obtain ⟨-, m, hNm, hatm, htom, hirm, hotm, hfm⟩ := hq
    have hbm := hNm.1
    have hTm := tM_J hfm hTa
    refine x_aload_n dX7_readItem_124 rfl rfl ?_
    refine gX7_23 dX7_readItem_125 rfl (by assumption) rfl ?_
    refine x_iconst (v := 1) dX7_readItem_128 (by decide) ?_
    refine x_aload_n dX7_readItem_129 rfl rfl ?_
    refine gX7_38 dX7_readItem_130 rfl (by assumption) rfl ?_
    refine x_iconst (v := 0) dX7_readItem_133 (by decide) ?_
    refine x_ialdN (j := 0) (by assumption) dX7_readItem_134 (by decide) (by decide) ?_
    rw [hotm 0 (by decide), htoa, hton]
    refine x_iastN (j := 1) (by assumption) dX7_readItem_135 (by decide) (by decide) ?_
    refine x_gen (Pz := fun S' => wr1 S4 S' 107 (nI (vN t (p + 1) n))) wr1_put (fun S5 H5 => ?_)
    have f5 : S5 112 1 = nI (vN t (p + 1 + n + 1) m) := by rw [H5.2.2 112 (by omega)]; exact htom
    refine x_aload_n dX7_readItem_136 rfl rfl ?_
    refine gX7_26 dX7_readItem_137 rfl (by assumption) rfl ?_
    refine x_iconst (v := 1) dX7_readItem_140 (by decide) ?_
    refine x_aload_n dX7_readItem_141 rfl rfl ?_
    refine gX7_38 dX7_readItem_142 rfl (by assumption) rfl ?_
    refine x_iconst (v := 1) dX7_readItem_145 (by decide) ?_
    refine x_ialdN (j := 1) (by assumption) dX7_readItem_146 (by decide) (by decide) ?_
    rw [f5]
    refine x_iastN (j := 1) (by assumption) dX7_readItem_147 (by decide) (by decide) ?_
    refine x_gen (Pz := fun S' => wr1 S5 S' 108 (nI (vN t (p + 1 + n + 1) m))) wr1_put (fun S3 H3 => ?_)
    have e102 : S3 102 = S4 102 := by rw [H3.2.2 102 (by omega), H5.2.2 102 (by omega)]
    have hT3 : tM S3 t L := tM_I (frI_trans (wr1_I H5 (by omega)) (wr1_I H3 (by omega))) hTm
    have hat3 : S3 102 10 = nI (p + 1 + n + 1 + m) := by rw [e102]; exact hatm
    have hir3 := hirm
    rw [← e102] at hir3
    have hfI3 : frI S S3 := frI_trans (frI_J (frJ_trans hf1 (frJ_trans hfn (frJ_trans hfa hfm)))) (frI_trans (wr1_I H5 (by omega)) (wr1_I H3 (by omega)))
    refine x_goto (tgt := 259) dX7_readItem_148 (by decide) ?_
    refine x_aload_n dX7_readItem_259 rfl rfl ?_
    refine x_bipush (v := 59) dX7_readItem_260 (by decide) ?_
    first
    | refine kX7_101r dX7_readItem_262 rfl (by assumption) (c_readMark (c := 59) hm hT3 hat3 (by omega) hir3 (by decide)) (by decide) (Nat.le_of_ble_eq_true rfl) (fun S9 hq => ?_)
    | refine kX7_101r dX7_readItem_262 rfl (by assumption) (c_readMark (c := 59) hm hTq hatq (by omega) hirq (by decide)) (by decide) (Nat.le_of_ble_eq_true rfl) (fun S9 hq => ?_)
    | refine kX7_101r dX7_readItem_262 rfl (by assumption) (c_readMark (c := 59) hm hT2 hat2 (by omega) hir2 (by decide)) (by decide) (Nat.le_of_ble_eq_true rfl) (fun S9 hq => ?_)
    obtain ⟨-, hat9, hir9, hto9, hf9⟩ := hq
    refine x_return dX7_readItem_265 rfl ?_
    first
    | (have hfI9 : frI S S9 := frI_trans hfI3 (frI_J hf9)
       have hd2 : dM S2 d := dM_J hfn hd1
       by_cases hall : fok t L (p + 1) 59 = true ∧ 2 ≤ vlu t L (p + 1) ∧ vlu t L (p + 1) ≤ 40
       · have hns := (NR_fok hNn (Or.inr rfl)).mpr hall.1
         obtain ⟨u1, u2⟩ := num_1 hNn hns.1
         refine qit_some (by rw [itm_l hc, if_pos hall]) hfI9 ?_ ?_ ?_
         · rw [hir9, bI_lit1]; exact ⟨⟨trivial, hns.1, by rw [← u1]; exact hall.2⟩, hns.2⟩
         · rw [hat9, u2]
         · rw [u1]
           refine dM_J hf9 ?_
           obtain ⟨g1, g2, g3, g4, g5, g6, g7⟩ := hd2
           refine ⟨g1, ?_, ?_, ?_, ?_, ?_, fun i hi => ?_⟩
           · rw [H3.2.2 104 (by omega)]; exact g2
           · first | exact H3.1 | (rw [H3.2.2 105 (by omega)]; exact g3)
           · first | exact H3.1 | (rw [H3.2.2 106 (by omega)]; exact g4)
           · rw [H3.2.2 107 (by omega)]; exact g5
           · rw [H3.2.2 108 (by omega)]; exact g6
           · rw [H3.2.2 109 (by omega), H3.2.2 110 (by omega), H3.2.2 111 (by omega)]; exact g7 i hi
       · refine qit_none (by rw [itm_l hc, if_neg hall]) hfI9 ?_
         rw [hir9, bI_lit0]
         rintro ⟨⟨-, h12, hv⟩, hs⟩
         obtain ⟨u1, u2⟩ := num_1 hNn h12
         exact hall ⟨(NR_fok hNn (Or.inr rfl)).mp ⟨h12, hs⟩, by rw [u1]; exact hv⟩)
    | (have hfI9 : frI S S9 := frI_trans hfI3 (frI_J hf9)
       have hd2 : dM S2 d := dM_J hfn hd1
       by_cases hall : fok t L (p + 1) 59 = true ∧ 1 ≤ vlu t L (p + 1) ∧ vlu t L (p + 1) ≤ 9
       · have hns := (NR_fok hNn (Or.inr rfl)).mpr hall.1
         obtain ⟨u1, u2⟩ := num_1 hNn hns.1
         refine qit_some (by rw [itm_k hc, if_pos hall]) hfI9 ?_ ?_ ?_
         · rw [hir9, bI_lit1]; exact ⟨⟨trivial, hns.1, by rw [← u1]; exact hall.2⟩, hns.2⟩
         · rw [hat9, u2]
         · rw [u1]
           refine dM_J hf9 ?_
           obtain ⟨g1, g2, g3, g4, g5, g6, g7⟩ := hd2
           refine ⟨g1, ?_, ?_, ?_, ?_, ?_, fun i hi => ?_⟩
           · rw [H3.2.2 104 (by omega)]; exact g2
           · first | exact H3.1 | (rw [H3.2.2 105 (by omega)]; exact g3)
           · first | exact H3.1 | (rw [H3.2.2 106 (by omega)]; exact g4)
           · rw [H3.2.2 107 (by omega)]; exact g5
           · rw [H3.2.2 108 (by omega)]; exact g6
           · rw [H3.2.2 109 (by omega), H3.2.2 110 (by omega), H3.2.2 111 (by omega)]; exact g7 i hi
       · refine qit_none (by rw [itm_k hc, if_neg hall]) hfI9 ?_
         rw [hir9, bI_lit0]
         rintro ⟨⟨-, h12, hv⟩, hs⟩
         obtain ⟨u1, u2⟩ := num_1 hNn h12
         exact hall ⟨(NR_fok hNn (Or.inr rfl)).mp ⟨h12, hs⟩, by rw [u1]; exact hv⟩)
    | (have hfI9 : frI S S9 := frI_trans hfI3 (frI_J hf9)
       have hd4 : dM S4 d := dM_J (frJ_trans hfn (frJ_trans hfa hfm)) hd1
       by_cases hall : fok t L (p + 1) 44 = true ∧ fok t L (nxt t L (p + 1)) 59 = true ∧ vlu t L (p + 1) ≤ 30 ∧ vlu t L (nxt t L (p + 1)) ≤ 30
       · have hns := (NR_fok hNn (Or.inl rfl)).mpr hall.1
         obtain ⟨u1, u2⟩ := num_1 hNn hns.1
         have hal2 := hall.2
         rw [u2] at hal2
         have hms := (NR_fok hNm (Or.inr rfl)).mpr hal2.1
         obtain ⟨u3, u4⟩ := num_1 hNm hms.1
         refine qit_some (by rw [itm_h hc, if_pos hall]) hfI9 ?_ ?_ ?_
         · rw [hir9, bI_lit1]; exact ⟨⟨⟨⟨trivial, hns.1, Nat.zero_le _, by rw [← u1]; exact hal2.2.1⟩, hns.2⟩, hms.1, Nat.zero_le _, by rw [← u3]; exact hal2.2.2⟩, hms.2⟩
         · rw [hat9, u2, u4]
         · rw [u2, u1, u3]
           refine dM_J hf9 ?_
           obtain ⟨g1, g2, g3, g4, g5, g6, g7⟩ := hd4
           refine ⟨g1, ?_, ?_, ?_, ?_, H3.1, fun i hi => ?_⟩
           · rw [H3.2.2 104 (by omega), H5.2.2 104 (by omega)]; exact g2
           · rw [H3.2.2 105 (by omega), H5.2.2 105 (by omega)]; exact g3
           · rw [H3.2.2 106 (by omega), H5.2.2 106 (by omega)]; exact g4
           · rw [H3.2.2 107 (by omega)]; exact H5.1
           · rw [H3.2.2 109 (by omega), H3.2.2 110 (by omega), H3.2.2 111 (by omega), H5.2.2 109 (by omega), H5.2.2 110 (by omega), H5.2.2 111 (by omega)]; exact g7 i hi
       · refine qit_none (by rw [itm_h hc, if_neg hall]) hfI9 ?_
         rw [hir9, bI_lit0]
         rintro ⟨⟨⟨⟨-, h12, hv⟩, hs⟩, h34, hv2⟩, hs2⟩
         obtain ⟨u1, u2⟩ := num_1 hNn h12
         obtain ⟨u3, u4⟩ := num_1 hNm h34
         exact hall ⟨(NR_fok hNn (Or.inl rfl)).mp ⟨h12, hs⟩, by rw [u2]; exact (NR_fok hNm (Or.inr rfl)).mp ⟨h34, hs2⟩, by rw [u1]; exact hv.2, by rw [u2, u3]; exact hv2.2⟩)
    | (have hfI9 : frI S S9 := frI_trans hfIq (frI_J hf9)
       have hall : ¬ (fok t L (p + 1) 44 = true ∧ fok t L (nxt t L (p + 1)) 44 = true ∧ fok t L (nxt t L (nxt t L (p + 1))) 59 = true ∧ d.1 < 9 ∧ vlu t L (p + 1) ≤ 3) := by
         intro hall
         have hns := (NR_fok hNn (Or.inl rfl)).mpr hall.1
         obtain ⟨u1, u2⟩ := num_1 hNn hns.1
         have hal2 := hall.2
         rw [u2] at hal2
         have hms := (NR_fok hNm (Or.inl rfl)).mpr hal2.1
         obtain ⟨u3, u4⟩ := num_1 hNm hms.1
         rw [u4] at hal2
         have hzs := (NR_fok hNz (Or.inr rfl)).mpr hal2.2.1
         obtain ⟨u5, u6⟩ := num_1 hNz hzs.1
         have l1 := vlu_le t L (p + 1 + n + 1)
         have l2 := vlu_le t L (p + 1 + n + 1 + m + 1)
         exact hno ⟨⟨⟨⟨⟨hal2.2.2.1, hns.1, Nat.zero_le _, by rw [← u1]; exact hal2.2.2.2⟩, hns.2⟩, hms.1, Nat.zero_le _, by rw [← u3]; exact l1⟩, hms.2⟩, hzs.1, Nat.zero_le _, by rw [← u5]; exact l2⟩
       refine qit_none (by rw [itm_g hc, if_neg hall]) hfI9 ?_
       rw [hir9, bI_lit0]
       exact fun z => hno z.1)
    | (have hfI9 : frI S S9 := frI_trans hfIq (frI_J hf9)
       obtain ⟨⟨⟨⟨⟨k1, k2, k3⟩, k4⟩, k5, k6⟩, k7⟩, k8, k9⟩ := id hyes
       obtain ⟨u1, u2⟩ := num_1 hNn k2
       obtain ⟨u3, u4⟩ := num_1 hNm k5
       obtain ⟨u5, u6⟩ := num_1 hNz k8
       by_cases hs : sgn t L (p + 1 + n + 1 + m + 1 + z) 59 = true
       · have hall : fok t L (p + 1) 44 = true ∧ fok t L (nxt t L (p + 1)) 44 = true ∧ fok t L (nxt t L (nxt t L (p + 1))) 59 = true ∧ d.1 < 9 ∧ vlu t L (p + 1) ≤ 3 := ⟨(NR_fok hNn (Or.inl rfl)).mp ⟨k2, k4⟩, by rw [u2]; exact (NR_fok hNm (Or.inl rfl)).mp ⟨k5, k7⟩, by rw [u2, u4]; exact (NR_fok hNz (Or.inr rfl)).mp ⟨k8, hs⟩, k1, by rw [u1]; exact k3.2⟩
         refine qit_some (by rw [itm_g hc, if_pos hall]) hfI9 ?_ ?_ ?_
         · rw [hir9, bI_lit1]; exact ⟨hyes, hs⟩
         · rw [hat9, u2, u4, u6]
         · rw [u2, u4, u1, u3, u5]; exact dM_J hf9 hd8
       · have hall : ¬ (fok t L (p + 1) 44 = true ∧ fok t L (nxt t L (p + 1)) 44 = true ∧ fok t L (nxt t L (nxt t L (p + 1))) 59 = true ∧ d.1 < 9 ∧ vlu t L (p + 1) ≤ 3) := by
           intro hall
           have h3 := hall.2.2.1
           rw [u2, u4] at h3
           exact hs ((NR_fok hNz (Or.inr rfl)).mpr h3).2
         refine qit_none (by rw [itm_g hc, if_neg hall]) hfI9 ?_
         rw [hir9, bI_lit0]
         exact fun z => hs z.2)
    | (have hfI9 : frI S S9 := frI_trans (frI_J (frJ_trans hf1 hf2)) (frI_J hf9)
       refine qit_none ?_ hfI9 (by rw [hir9, bI_lit0]; exact fun z => z.1)
       first
       | (have hc : t p = 105 := (nI_eq (b := 105) (by omega) (by decide)).mp w_105
          exact itm_n (by omega) (by omega) (by omega) (by omega))
       | (have hc : t p = 106 := (nI_eq (b := 106) (by omega) (by decide)).mp w_106
          exact itm_n (by omega) (by omega) (by omega) (by omega))
       | exact itm_n (fun q => by rw [q] at w_103; exact absurd rfl w_103) (fun q => by rw [q] at w_104; exact absurd rfl w_104) (fun q => by rw [q] at w_107; exact absurd rfl w_107) (fun q => by rw [q] at w_108; exact absurd rfl w_108))
  by_cases w_105 : nI (t p) = 105
  · refine x_tableIn (tgt := 254) dX7_readItem_16 (by rw [w_105]; decide) (by rw [w_105]; decide) (by rw [w_105]; rfl) (by decide) ?_
    refine x_aload_n dX7_readItem_254 rfl rfl ?_
    refine x_iconst (v := 0) dX7_readItem_255 (by decide) ?_
    refine pX7_93 dX7_readItem_256 rfl (by assumption) rfl rfl rfl ?_
    refine x_gen (Pz := fun S' => S' 102 10 = nI (p + 1) ∧ S' 102 11 = bI False ∧ frJ S1 S') ⟨by rw [s_put_eq, if_neg (by decide)]; exact hat1, by rw [s_put_eq, if_pos rfl]; rfl, ⟨fun b x y => s_put_ne x, fun j x y => by rw [s_put_eq, if_neg y]⟩⟩ (fun S2 H2 => ?_)
    obtain ⟨hat2, hir2, hf2⟩ := H2
    have hT2 := tM_J hf2 hT1
    refine x_aload_n dX7_readItem_259 rfl rfl ?_
    refine x_bipush (v := 59) dX7_readItem_260 (by decide) ?_
    first
    | refine kX7_101r dX7_readItem_262 rfl (by assumption) (c_readMark (c := 59) hm hT3 hat3 (by omega) hir3 (by decide)) (by decide) (Nat.le_of_ble_eq_true rfl) (fun S9 hq => ?_)
    | refine kX7_101r dX7_readItem_262 rfl (by assumption) (c_readMark (c := 59) hm hTq hatq (by omega) hirq (by decide)) (by decide) (Nat.le_of_ble_eq_true rfl) (fun S9 hq => ?_)
    | refine kX7_101r dX7_readItem_262 rfl (by assumption) (c_readMark (c := 59) hm hT2 hat2 (by omega) hir2 (by decide)) (by decide) (Nat.le_of_ble_eq_true rfl) (fun S9 hq => ?_)
    obtain ⟨-, hat9, hir9, hto9, hf9⟩ := hq
    refine x_return dX7_readItem_265 rfl ?_
    first
    | (have hfI9 : frI S S9 := frI_trans hfI3 (frI_J hf9)
       have hd2 : dM S2 d := dM_J hfn hd1
       by_cases hall : fok t L (p + 1) 59 = true ∧ 2 ≤ vlu t L (p + 1) ∧ vlu t L (p + 1) ≤ 40
       · have hns := (NR_fok hNn (Or.inr rfl)).mpr hall.1
         obtain ⟨u1, u2⟩ := num_1 hNn hns.1
         refine qit_some (by rw [itm_l hc, if_pos hall]) hfI9 ?_ ?_ ?_
         · rw [hir9, bI_lit1]; exact ⟨⟨trivial, hns.1, by rw [← u1]; exact hall.2⟩, hns.2⟩
         · rw [hat9, u2]
         · rw [u1]
           refine dM_J hf9 ?_
           obtain ⟨g1, g2, g3, g4, g5, g6, g7⟩ := hd2
           refine ⟨g1, ?_, ?_, ?_, ?_, ?_, fun i hi => ?_⟩
           · rw [H3.2.2 104 (by omega)]; exact g2
           · first | exact H3.1 | (rw [H3.2.2 105 (by omega)]; exact g3)
           · first | exact H3.1 | (rw [H3.2.2 106 (by omega)]; exact g4)
           · rw [H3.2.2 107 (by omega)]; exact g5
           · rw [H3.2.2 108 (by omega)]; exact g6
           · rw [H3.2.2 109 (by omega), H3.2.2 110 (by omega), H3.2.2 111 (by omega)]; exact g7 i hi
       · refine qit_none (by rw [itm_l hc, if_neg hall]) hfI9 ?_
         rw [hir9, bI_lit0]
         rintro ⟨⟨-, h12, hv⟩, hs⟩
         obtain ⟨u1, u2⟩ := num_1 hNn h12
         exact hall ⟨(NR_fok hNn (Or.inr rfl)).mp ⟨h12, hs⟩, by rw [u1]; exact hv⟩)
    | (have hfI9 : frI S S9 := frI_trans hfI3 (frI_J hf9)
       have hd2 : dM S2 d := dM_J hfn hd1
       by_cases hall : fok t L (p + 1) 59 = true ∧ 1 ≤ vlu t L (p + 1) ∧ vlu t L (p + 1) ≤ 9
       · have hns := (NR_fok hNn (Or.inr rfl)).mpr hall.1
         obtain ⟨u1, u2⟩ := num_1 hNn hns.1
         refine qit_some (by rw [itm_k hc, if_pos hall]) hfI9 ?_ ?_ ?_
         · rw [hir9, bI_lit1]; exact ⟨⟨trivial, hns.1, by rw [← u1]; exact hall.2⟩, hns.2⟩
         · rw [hat9, u2]
         · rw [u1]
           refine dM_J hf9 ?_
           obtain ⟨g1, g2, g3, g4, g5, g6, g7⟩ := hd2
           refine ⟨g1, ?_, ?_, ?_, ?_, ?_, fun i hi => ?_⟩
           · rw [H3.2.2 104 (by omega)]; exact g2
           · first | exact H3.1 | (rw [H3.2.2 105 (by omega)]; exact g3)
           · first | exact H3.1 | (rw [H3.2.2 106 (by omega)]; exact g4)
           · rw [H3.2.2 107 (by omega)]; exact g5
           · rw [H3.2.2 108 (by omega)]; exact g6
           · rw [H3.2.2 109 (by omega), H3.2.2 110 (by omega), H3.2.2 111 (by omega)]; exact g7 i hi
       · refine qit_none (by rw [itm_k hc, if_neg hall]) hfI9 ?_
         rw [hir9, bI_lit0]
         rintro ⟨⟨-, h12, hv⟩, hs⟩
         obtain ⟨u1, u2⟩ := num_1 hNn h12
         exact hall ⟨(NR_fok hNn (Or.inr rfl)).mp ⟨h12, hs⟩, by rw [u1]; exact hv⟩)
    | (have hfI9 : frI S S9 := frI_trans hfI3 (frI_J hf9)
       have hd4 : dM S4 d := dM_J (frJ_trans hfn (frJ_trans hfa hfm)) hd1
       by_cases hall : fok t L (p + 1) 44 = true ∧ fok t L (nxt t L (p + 1)) 59 = true ∧ vlu t L (p + 1) ≤ 30 ∧ vlu t L (nxt t L (p + 1)) ≤ 30
       · have hns := (NR_fok hNn (Or.inl rfl)).mpr hall.1
         obtain ⟨u1, u2⟩ := num_1 hNn hns.1
         have hal2 := hall.2
         rw [u2] at hal2
         have hms := (NR_fok hNm (Or.inr rfl)).mpr hal2.1
         obtain ⟨u3, u4⟩ := num_1 hNm hms.1
         refine qit_some (by rw [itm_h hc, if_pos hall]) hfI9 ?_ ?_ ?_
         · rw [hir9, bI_lit1]; exact ⟨⟨⟨⟨trivial, hns.1, Nat.zero_le _, by rw [← u1]; exact hal2.2.1⟩, hns.2⟩, hms.1, Nat.zero_le _, by rw [← u3]; exact hal2.2.2⟩, hms.2⟩
         · rw [hat9, u2, u4]
         · rw [u2, u1, u3]
           refine dM_J hf9 ?_
           obtain ⟨g1, g2, g3, g4, g5, g6, g7⟩ := hd4
           refine ⟨g1, ?_, ?_, ?_, ?_, H3.1, fun i hi => ?_⟩
           · rw [H3.2.2 104 (by omega), H5.2.2 104 (by omega)]; exact g2
           · rw [H3.2.2 105 (by omega), H5.2.2 105 (by omega)]; exact g3
           · rw [H3.2.2 106 (by omega), H5.2.2 106 (by omega)]; exact g4
           · rw [H3.2.2 107 (by omega)]; exact H5.1
           · rw [H3.2.2 109 (by omega), H3.2.2 110 (by omega), H3.2.2 111 (by omega), H5.2.2 109 (by omega), H5.2.2 110 (by omega), H5.2.2 111 (by omega)]; exact g7 i hi
       · refine qit_none (by rw [itm_h hc, if_neg hall]) hfI9 ?_
         rw [hir9, bI_lit0]
         rintro ⟨⟨⟨⟨-, h12, hv⟩, hs⟩, h34, hv2⟩, hs2⟩
         obtain ⟨u1, u2⟩ := num_1 hNn h12
         obtain ⟨u3, u4⟩ := num_1 hNm h34
         exact hall ⟨(NR_fok hNn (Or.inl rfl)).mp ⟨h12, hs⟩, by rw [u2]; exact (NR_fok hNm (Or.inr rfl)).mp ⟨h34, hs2⟩, by rw [u1]; exact hv.2, by rw [u2, u3]; exact hv2.2⟩)
    | (have hfI9 : frI S S9 := frI_trans hfIq (frI_J hf9)
       have hall : ¬ (fok t L (p + 1) 44 = true ∧ fok t L (nxt t L (p + 1)) 44 = true ∧ fok t L (nxt t L (nxt t L (p + 1))) 59 = true ∧ d.1 < 9 ∧ vlu t L (p + 1) ≤ 3) := by
         intro hall
         have hns := (NR_fok hNn (Or.inl rfl)).mpr hall.1
         obtain ⟨u1, u2⟩ := num_1 hNn hns.1
         have hal2 := hall.2
         rw [u2] at hal2
         have hms := (NR_fok hNm (Or.inl rfl)).mpr hal2.1
         obtain ⟨u3, u4⟩ := num_1 hNm hms.1
         rw [u4] at hal2
         have hzs := (NR_fok hNz (Or.inr rfl)).mpr hal2.2.1
         obtain ⟨u5, u6⟩ := num_1 hNz hzs.1
         have l1 := vlu_le t L (p + 1 + n + 1)
         have l2 := vlu_le t L (p + 1 + n + 1 + m + 1)
         exact hno ⟨⟨⟨⟨⟨hal2.2.2.1, hns.1, Nat.zero_le _, by rw [← u1]; exact hal2.2.2.2⟩, hns.2⟩, hms.1, Nat.zero_le _, by rw [← u3]; exact l1⟩, hms.2⟩, hzs.1, Nat.zero_le _, by rw [← u5]; exact l2⟩
       refine qit_none (by rw [itm_g hc, if_neg hall]) hfI9 ?_
       rw [hir9, bI_lit0]
       exact fun z => hno z.1)
    | (have hfI9 : frI S S9 := frI_trans hfIq (frI_J hf9)
       obtain ⟨⟨⟨⟨⟨k1, k2, k3⟩, k4⟩, k5, k6⟩, k7⟩, k8, k9⟩ := id hyes
       obtain ⟨u1, u2⟩ := num_1 hNn k2
       obtain ⟨u3, u4⟩ := num_1 hNm k5
       obtain ⟨u5, u6⟩ := num_1 hNz k8
       by_cases hs : sgn t L (p + 1 + n + 1 + m + 1 + z) 59 = true
       · have hall : fok t L (p + 1) 44 = true ∧ fok t L (nxt t L (p + 1)) 44 = true ∧ fok t L (nxt t L (nxt t L (p + 1))) 59 = true ∧ d.1 < 9 ∧ vlu t L (p + 1) ≤ 3 := ⟨(NR_fok hNn (Or.inl rfl)).mp ⟨k2, k4⟩, by rw [u2]; exact (NR_fok hNm (Or.inl rfl)).mp ⟨k5, k7⟩, by rw [u2, u4]; exact (NR_fok hNz (Or.inr rfl)).mp ⟨k8, hs⟩, k1, by rw [u1]; exact k3.2⟩
         refine qit_some (by rw [itm_g hc, if_pos hall]) hfI9 ?_ ?_ ?_
         · rw [hir9, bI_lit1]; exact ⟨hyes, hs⟩
         · rw [hat9, u2, u4, u6]
         · rw [u2, u4, u1, u3, u5]; exact dM_J hf9 hd8
       · have hall : ¬ (fok t L (p + 1) 44 = true ∧ fok t L (nxt t L (p + 1)) 44 = true ∧ fok t L (nxt t L (nxt t L (p + 1))) 59 = true ∧ d.1 < 9 ∧ vlu t L (p + 1) ≤ 3) := by
           intro hall
           have h3 := hall.2.2.1
           rw [u2, u4] at h3
           exact hs ((NR_fok hNz (Or.inr rfl)).mpr h3).2
         refine qit_none (by rw [itm_g hc, if_neg hall]) hfI9 ?_
         rw [hir9, bI_lit0]
         exact fun z => hs z.2)
    | (have hfI9 : frI S S9 := frI_trans (frI_J (frJ_trans hf1 hf2)) (frI_J hf9)
       refine qit_none ?_ hfI9 (by rw [hir9, bI_lit0]; exact fun z => z.1)
       first
       | (have hc : t p = 105 := (nI_eq (b := 105) (by omega) (by decide)).mp w_105
          exact itm_n (by omega) (by omega) (by omega) (by omega))
       | (have hc : t p = 106 := (nI_eq (b := 106) (by omega) (by decide)).mp w_106
          exact itm_n (by omega) (by omega) (by omega) (by omega))
       | exact itm_n (fun q => by rw [q] at w_103; exact absurd rfl w_103) (fun q => by rw [q] at w_104; exact absurd rfl w_104) (fun q => by rw [q] at w_107; exact absurd rfl w_107) (fun q => by rw [q] at w_108; exact absurd rfl w_108))
  by_cases w_106 : nI (t p) = 106
  · refine x_tableIn (tgt := 254) dX7_readItem_16 (by rw [w_106]; decide) (by rw [w_106]; decide) (by rw [w_106]; rfl) (by decide) ?_
    refine x_aload_n dX7_readItem_254 rfl rfl ?_
    refine x_iconst (v := 0) dX7_readItem_255 (by decide) ?_
    refine pX7_93 dX7_readItem_256 rfl (by assumption) rfl rfl rfl ?_
    refine x_gen (Pz := fun S' => S' 102 10 = nI (p + 1) ∧ S' 102 11 = bI False ∧ frJ S1 S') ⟨by rw [s_put_eq, if_neg (by decide)]; exact hat1, by rw [s_put_eq, if_pos rfl]; rfl, ⟨fun b x y => s_put_ne x, fun j x y => by rw [s_put_eq, if_neg y]⟩⟩ (fun S2 H2 => ?_)
    obtain ⟨hat2, hir2, hf2⟩ := H2
    have hT2 := tM_J hf2 hT1
    refine x_aload_n dX7_readItem_259 rfl rfl ?_
    refine x_bipush (v := 59) dX7_readItem_260 (by decide) ?_
    first
    | refine kX7_101r dX7_readItem_262 rfl (by assumption) (c_readMark (c := 59) hm hT3 hat3 (by omega) hir3 (by decide)) (by decide) (Nat.le_of_ble_eq_true rfl) (fun S9 hq => ?_)
    | refine kX7_101r dX7_readItem_262 rfl (by assumption) (c_readMark (c := 59) hm hTq hatq (by omega) hirq (by decide)) (by decide) (Nat.le_of_ble_eq_true rfl) (fun S9 hq => ?_)
    | refine kX7_101r dX7_readItem_262 rfl (by assumption) (c_readMark (c := 59) hm hT2 hat2 (by omega) hir2 (by decide)) (by decide) (Nat.le_of_ble_eq_true rfl) (fun S9 hq => ?_)
    obtain ⟨-, hat9, hir9, hto9, hf9⟩ := hq
    refine x_return dX7_readItem_265 rfl ?_
    first
    | (have hfI9 : frI S S9 := frI_trans hfI3 (frI_J hf9)
       have hd2 : dM S2 d := dM_J hfn hd1
       by_cases hall : fok t L (p + 1) 59 = true ∧ 2 ≤ vlu t L (p + 1) ∧ vlu t L (p + 1) ≤ 40
       · have hns := (NR_fok hNn (Or.inr rfl)).mpr hall.1
         obtain ⟨u1, u2⟩ := num_1 hNn hns.1
         refine qit_some (by rw [itm_l hc, if_pos hall]) hfI9 ?_ ?_ ?_
         · rw [hir9, bI_lit1]; exact ⟨⟨trivial, hns.1, by rw [← u1]; exact hall.2⟩, hns.2⟩
         · rw [hat9, u2]
         · rw [u1]
           refine dM_J hf9 ?_
           obtain ⟨g1, g2, g3, g4, g5, g6, g7⟩ := hd2
           refine ⟨g1, ?_, ?_, ?_, ?_, ?_, fun i hi => ?_⟩
           · rw [H3.2.2 104 (by omega)]; exact g2
           · first | exact H3.1 | (rw [H3.2.2 105 (by omega)]; exact g3)
           · first | exact H3.1 | (rw [H3.2.2 106 (by omega)]; exact g4)
           · rw [H3.2.2 107 (by omega)]; exact g5
           · rw [H3.2.2 108 (by omega)]; exact g6
           · rw [H3.2.2 109 (by omega), H3.2.2 110 (by omega), H3.2.2 111 (by omega)]; exact g7 i hi
       · refine qit_none (by rw [itm_l hc, if_neg hall]) hfI9 ?_
         rw [hir9, bI_lit0]
         rintro ⟨⟨-, h12, hv⟩, hs⟩
         obtain ⟨u1, u2⟩ := num_1 hNn h12
         exact hall ⟨(NR_fok hNn (Or.inr rfl)).mp ⟨h12, hs⟩, by rw [u1]; exact hv⟩)
    | (have hfI9 : frI S S9 := frI_trans hfI3 (frI_J hf9)
       have hd2 : dM S2 d := dM_J hfn hd1
       by_cases hall : fok t L (p + 1) 59 = true ∧ 1 ≤ vlu t L (p + 1) ∧ vlu t L (p + 1) ≤ 9
       · have hns := (NR_fok hNn (Or.inr rfl)).mpr hall.1
         obtain ⟨u1, u2⟩ := num_1 hNn hns.1
         refine qit_some (by rw [itm_k hc, if_pos hall]) hfI9 ?_ ?_ ?_
         · rw [hir9, bI_lit1]; exact ⟨⟨trivial, hns.1, by rw [← u1]; exact hall.2⟩, hns.2⟩
         · rw [hat9, u2]
         · rw [u1]
           refine dM_J hf9 ?_
           obtain ⟨g1, g2, g3, g4, g5, g6, g7⟩ := hd2
           refine ⟨g1, ?_, ?_, ?_, ?_, ?_, fun i hi => ?_⟩
           · rw [H3.2.2 104 (by omega)]; exact g2
           · first | exact H3.1 | (rw [H3.2.2 105 (by omega)]; exact g3)
           · first | exact H3.1 | (rw [H3.2.2 106 (by omega)]; exact g4)
           · rw [H3.2.2 107 (by omega)]; exact g5
           · rw [H3.2.2 108 (by omega)]; exact g6
           · rw [H3.2.2 109 (by omega), H3.2.2 110 (by omega), H3.2.2 111 (by omega)]; exact g7 i hi
       · refine qit_none (by rw [itm_k hc, if_neg hall]) hfI9 ?_
         rw [hir9, bI_lit0]
         rintro ⟨⟨-, h12, hv⟩, hs⟩
         obtain ⟨u1, u2⟩ := num_1 hNn h12
         exact hall ⟨(NR_fok hNn (Or.inr rfl)).mp ⟨h12, hs⟩, by rw [u1]; exact hv⟩)
    | (have hfI9 : frI S S9 := frI_trans hfI3 (frI_J hf9)
       have hd4 : dM S4 d := dM_J (frJ_trans hfn (frJ_trans hfa hfm)) hd1
       by_cases hall : fok t L (p + 1) 44 = true ∧ fok t L (nxt t L (p + 1)) 59 = true ∧ vlu t L (p + 1) ≤ 30 ∧ vlu t L (nxt t L (p + 1)) ≤ 30
       · have hns := (NR_fok hNn (Or.inl rfl)).mpr hall.1
         obtain ⟨u1, u2⟩ := num_1 hNn hns.1
         have hal2 := hall.2
         rw [u2] at hal2
         have hms := (NR_fok hNm (Or.inr rfl)).mpr hal2.1
         obtain ⟨u3, u4⟩ := num_1 hNm hms.1
         refine qit_some (by rw [itm_h hc, if_pos hall]) hfI9 ?_ ?_ ?_
         · rw [hir9, bI_lit1]; exact ⟨⟨⟨⟨trivial, hns.1, Nat.zero_le _, by rw [← u1]; exact hal2.2.1⟩, hns.2⟩, hms.1, Nat.zero_le _, by rw [← u3]; exact hal2.2.2⟩, hms.2⟩
         · rw [hat9, u2, u4]
         · rw [u2, u1, u3]
           refine dM_J hf9 ?_
           obtain ⟨g1, g2, g3, g4, g5, g6, g7⟩ := hd4
           refine ⟨g1, ?_, ?_, ?_, ?_, H3.1, fun i hi => ?_⟩
           · rw [H3.2.2 104 (by omega), H5.2.2 104 (by omega)]; exact g2
           · rw [H3.2.2 105 (by omega), H5.2.2 105 (by omega)]; exact g3
           · rw [H3.2.2 106 (by omega), H5.2.2 106 (by omega)]; exact g4
           · rw [H3.2.2 107 (by omega)]; exact H5.1
           · rw [H3.2.2 109 (by omega), H3.2.2 110 (by omega), H3.2.2 111 (by omega), H5.2.2 109 (by omega), H5.2.2 110 (by omega), H5.2.2 111 (by omega)]; exact g7 i hi
       · refine qit_none (by rw [itm_h hc, if_neg hall]) hfI9 ?_
         rw [hir9, bI_lit0]
         rintro ⟨⟨⟨⟨-, h12, hv⟩, hs⟩, h34, hv2⟩, hs2⟩
         obtain ⟨u1, u2⟩ := num_1 hNn h12
         obtain ⟨u3, u4⟩ := num_1 hNm h34
         exact hall ⟨(NR_fok hNn (Or.inl rfl)).mp ⟨h12, hs⟩, by rw [u2]; exact (NR_fok hNm (Or.inr rfl)).mp ⟨h34, hs2⟩, by rw [u1]; exact hv.2, by rw [u2, u3]; exact hv2.2⟩)
    | (have hfI9 : frI S S9 := frI_trans hfIq (frI_J hf9)
       have hall : ¬ (fok t L (p + 1) 44 = true ∧ fok t L (nxt t L (p + 1)) 44 = true ∧ fok t L (nxt t L (nxt t L (p + 1))) 59 = true ∧ d.1 < 9 ∧ vlu t L (p + 1) ≤ 3) := by
         intro hall
         have hns := (NR_fok hNn (Or.inl rfl)).mpr hall.1
         obtain ⟨u1, u2⟩ := num_1 hNn hns.1
         have hal2 := hall.2
         rw [u2] at hal2
         have hms := (NR_fok hNm (Or.inl rfl)).mpr hal2.1
         obtain ⟨u3, u4⟩ := num_1 hNm hms.1
         rw [u4] at hal2
         have hzs := (NR_fok hNz (Or.inr rfl)).mpr hal2.2.1
         obtain ⟨u5, u6⟩ := num_1 hNz hzs.1
         have l1 := vlu_le t L (p + 1 + n + 1)
         have l2 := vlu_le t L (p + 1 + n + 1 + m + 1)
         exact hno ⟨⟨⟨⟨⟨hal2.2.2.1, hns.1, Nat.zero_le _, by rw [← u1]; exact hal2.2.2.2⟩, hns.2⟩, hms.1, Nat.zero_le _, by rw [← u3]; exact l1⟩, hms.2⟩, hzs.1, Nat.zero_le _, by rw [← u5]; exact l2⟩
       refine qit_none (by rw [itm_g hc, if_neg hall]) hfI9 ?_
       rw [hir9, bI_lit0]
       exact fun z => hno z.1)
    | (have hfI9 : frI S S9 := frI_trans hfIq (frI_J hf9)
       obtain ⟨⟨⟨⟨⟨k1, k2, k3⟩, k4⟩, k5, k6⟩, k7⟩, k8, k9⟩ := id hyes
       obtain ⟨u1, u2⟩ := num_1 hNn k2
       obtain ⟨u3, u4⟩ := num_1 hNm k5
       obtain ⟨u5, u6⟩ := num_1 hNz k8
       by_cases hs : sgn t L (p + 1 + n + 1 + m + 1 + z) 59 = true
       · have hall : fok t L (p + 1) 44 = true ∧ fok t L (nxt t L (p + 1)) 44 = true ∧ fok t L (nxt t L (nxt t L (p + 1))) 59 = true ∧ d.1 < 9 ∧ vlu t L (p + 1) ≤ 3 := ⟨(NR_fok hNn (Or.inl rfl)).mp ⟨k2, k4⟩, by rw [u2]; exact (NR_fok hNm (Or.inl rfl)).mp ⟨k5, k7⟩, by rw [u2, u4]; exact (NR_fok hNz (Or.inr rfl)).mp ⟨k8, hs⟩, k1, by rw [u1]; exact k3.2⟩
         refine qit_some (by rw [itm_g hc, if_pos hall]) hfI9 ?_ ?_ ?_
         · rw [hir9, bI_lit1]; exact ⟨hyes, hs⟩
         · rw [hat9, u2, u4, u6]
         · rw [u2, u4, u1, u3, u5]; exact dM_J hf9 hd8
       · have hall : ¬ (fok t L (p + 1) 44 = true ∧ fok t L (nxt t L (p + 1)) 44 = true ∧ fok t L (nxt t L (nxt t L (p + 1))) 59 = true ∧ d.1 < 9 ∧ vlu t L (p + 1) ≤ 3) := by
           intro hall
           have h3 := hall.2.2.1
           rw [u2, u4] at h3
           exact hs ((NR_fok hNz (Or.inr rfl)).mpr h3).2
         refine qit_none (by rw [itm_g hc, if_neg hall]) hfI9 ?_
         rw [hir9, bI_lit0]
         exact fun z => hs z.2)
    | (have hfI9 : frI S S9 := frI_trans (frI_J (frJ_trans hf1 hf2)) (frI_J hf9)
       refine qit_none ?_ hfI9 (by rw [hir9, bI_lit0]; exact fun z => z.1)
       first
       | (have hc : t p = 105 := (nI_eq (b := 105) (by omega) (by decide)).mp w_105
          exact itm_n (by omega) (by omega) (by omega) (by omega))
       | (have hc : t p = 106 := (nI_eq (b := 106) (by omega) (by decide)).mp w_106
          exact itm_n (by omega) (by omega) (by omega) (by omega))
       | exact itm_n (fun q => by rw [q] at w_103; exact absurd rfl w_103) (fun q => by rw [q] at w_104; exact absurd rfl w_104) (fun q => by rw [q] at w_107; exact absurd rfl w_107) (fun q => by rw [q] at w_108; exact absurd rfl w_108))
  by_cases w_107 : nI (t p) = 107
  · refine x_tableIn (tgt := 79) dX7_readItem_16 (by rw [w_107]; decide) (by rw [w_107]; decide) (by rw [w_107]; rfl) (by decide) ?_
    have hc : t p = 107 := (nI_eq (b := 107) (by omega) (by decide)).mp w_107
    refine x_aload_n dX7_readItem_79 rfl rfl ?_
    refine x_iconst (v := 0) dX7_readItem_80 (by decide) ?_
    refine x_iconst (v := 1) dX7_readItem_81 (by decide) ?_
    refine x_bipush (v := 9) dX7_readItem_82 (by decide) ?_
    refine kX7_97r dX7_readItem_84 rfl (by assumption) (cm_readNumber (k0 := 0) (lo := 1) (hi := 9) hm hT1 hat1 (by omega) hir1 (by decide) (by decide) (by decide)) (by decide) (Nat.le_of_ble_eq_true rfl) (fun S2 hq => ?_)
    obtain ⟨-, n, hNn, hatn, hton, hirn, hotn, hfn⟩ := hq
    have hbn := hNn.1
    have hTn := tM_J hfn hT1
    refine x_aload_n dX7_readItem_87 rfl rfl ?_
    refine gX7_20 dX7_readItem_88 rfl (by assumption) rfl ?_
    refine x_iconst (v := 1) dX7_readItem_91 (by decide) ?_
    refine x_aload_n dX7_readItem_92 rfl rfl ?_
    refine gX7_38 dX7_readItem_93 rfl (by assumption) rfl ?_
    refine x_iconst (v := 0) dX7_readItem_96 (by decide) ?_
    refine x_ialdN (j := 0) (by assumption) dX7_readItem_97 (by decide) (by decide) ?_
    rw [hton]
    refine x_iastN (j := 1) (by assumption) dX7_readItem_98 (by decide) (by decide) ?_
    refine x_gen (Pz := fun S' => wr1 S2 S' 106 (nI (vN t (p + 1) n))) wr1_put (fun S3 H3 => ?_)
    have e102 : S3 102 = S2 102 := H3.2.2 102 (by omega)
    have hT3 : tM S3 t L := tM_I (wr1_I H3 (by omega)) hTn
    have hat3 : S3 102 10 = nI (p + 1 + n) := by rw [e102]; exact hatn
    have hir3 := hirn
    rw [← e102] at hir3
    have hfI3 : frI S S3 := frI_trans (frI_J (frJ_trans hf1 hfn)) (wr1_I H3 (by omega))
    refine x_goto (tgt := 259) dX7_readItem_99 (by decide) ?_
    refine x_aload_n dX7_readItem_259 rfl rfl ?_
    refine x_bipush (v := 59) dX7_readItem_260 (by decide) ?_
    first
    | refine kX7_101r dX7_readItem_262 rfl (by assumption) (c_readMark (c := 59) hm hT3 hat3 (by omega) hir3 (by decide)) (by decide) (Nat.le_of_ble_eq_true rfl) (fun S9 hq => ?_)
    | refine kX7_101r dX7_readItem_262 rfl (by assumption) (c_readMark (c := 59) hm hTq hatq (by omega) hirq (by decide)) (by decide) (Nat.le_of_ble_eq_true rfl) (fun S9 hq => ?_)
    | refine kX7_101r dX7_readItem_262 rfl (by assumption) (c_readMark (c := 59) hm hT2 hat2 (by omega) hir2 (by decide)) (by decide) (Nat.le_of_ble_eq_true rfl) (fun S9 hq => ?_)
    obtain ⟨-, hat9, hir9, hto9, hf9⟩ := hq
    refine x_return dX7_readItem_265 rfl ?_
    first
    | (have hfI9 : frI S S9 := frI_trans hfI3 (frI_J hf9)
       have hd2 : dM S2 d := dM_J hfn hd1
       by_cases hall : fok t L (p + 1) 59 = true ∧ 2 ≤ vlu t L (p + 1) ∧ vlu t L (p + 1) ≤ 40
       · have hns := (NR_fok hNn (Or.inr rfl)).mpr hall.1
         obtain ⟨u1, u2⟩ := num_1 hNn hns.1
         refine qit_some (by rw [itm_l hc, if_pos hall]) hfI9 ?_ ?_ ?_
         · rw [hir9, bI_lit1]; exact ⟨⟨trivial, hns.1, by rw [← u1]; exact hall.2⟩, hns.2⟩
         · rw [hat9, u2]
         · rw [u1]
           refine dM_J hf9 ?_
           obtain ⟨g1, g2, g3, g4, g5, g6, g7⟩ := hd2
           refine ⟨g1, ?_, ?_, ?_, ?_, ?_, fun i hi => ?_⟩
           · rw [H3.2.2 104 (by omega)]; exact g2
           · first | exact H3.1 | (rw [H3.2.2 105 (by omega)]; exact g3)
           · first | exact H3.1 | (rw [H3.2.2 106 (by omega)]; exact g4)
           · rw [H3.2.2 107 (by omega)]; exact g5
           · rw [H3.2.2 108 (by omega)]; exact g6
           · rw [H3.2.2 109 (by omega), H3.2.2 110 (by omega), H3.2.2 111 (by omega)]; exact g7 i hi
       · refine qit_none (by rw [itm_l hc, if_neg hall]) hfI9 ?_
         rw [hir9, bI_lit0]
         rintro ⟨⟨-, h12, hv⟩, hs⟩
         obtain ⟨u1, u2⟩ := num_1 hNn h12
         exact hall ⟨(NR_fok hNn (Or.inr rfl)).mp ⟨h12, hs⟩, by rw [u1]; exact hv⟩)
    | (have hfI9 : frI S S9 := frI_trans hfI3 (frI_J hf9)
       have hd2 : dM S2 d := dM_J hfn hd1
       by_cases hall : fok t L (p + 1) 59 = true ∧ 1 ≤ vlu t L (p + 1) ∧ vlu t L (p + 1) ≤ 9
       · have hns := (NR_fok hNn (Or.inr rfl)).mpr hall.1
         obtain ⟨u1, u2⟩ := num_1 hNn hns.1
         refine qit_some (by rw [itm_k hc, if_pos hall]) hfI9 ?_ ?_ ?_
         · rw [hir9, bI_lit1]; exact ⟨⟨trivial, hns.1, by rw [← u1]; exact hall.2⟩, hns.2⟩
         · rw [hat9, u2]
         · rw [u1]
           refine dM_J hf9 ?_
           obtain ⟨g1, g2, g3, g4, g5, g6, g7⟩ := hd2
           refine ⟨g1, ?_, ?_, ?_, ?_, ?_, fun i hi => ?_⟩
           · rw [H3.2.2 104 (by omega)]; exact g2
           · first | exact H3.1 | (rw [H3.2.2 105 (by omega)]; exact g3)
           · first | exact H3.1 | (rw [H3.2.2 106 (by omega)]; exact g4)
           · rw [H3.2.2 107 (by omega)]; exact g5
           · rw [H3.2.2 108 (by omega)]; exact g6
           · rw [H3.2.2 109 (by omega), H3.2.2 110 (by omega), H3.2.2 111 (by omega)]; exact g7 i hi
       · refine qit_none (by rw [itm_k hc, if_neg hall]) hfI9 ?_
         rw [hir9, bI_lit0]
         rintro ⟨⟨-, h12, hv⟩, hs⟩
         obtain ⟨u1, u2⟩ := num_1 hNn h12
         exact hall ⟨(NR_fok hNn (Or.inr rfl)).mp ⟨h12, hs⟩, by rw [u1]; exact hv⟩)
    | (have hfI9 : frI S S9 := frI_trans hfI3 (frI_J hf9)
       have hd4 : dM S4 d := dM_J (frJ_trans hfn (frJ_trans hfa hfm)) hd1
       by_cases hall : fok t L (p + 1) 44 = true ∧ fok t L (nxt t L (p + 1)) 59 = true ∧ vlu t L (p + 1) ≤ 30 ∧ vlu t L (nxt t L (p + 1)) ≤ 30
       · have hns := (NR_fok hNn (Or.inl rfl)).mpr hall.1
         obtain ⟨u1, u2⟩ := num_1 hNn hns.1
         have hal2 := hall.2
         rw [u2] at hal2
         have hms := (NR_fok hNm (Or.inr rfl)).mpr hal2.1
         obtain ⟨u3, u4⟩ := num_1 hNm hms.1
         refine qit_some (by rw [itm_h hc, if_pos hall]) hfI9 ?_ ?_ ?_
         · rw [hir9, bI_lit1]; exact ⟨⟨⟨⟨trivial, hns.1, Nat.zero_le _, by rw [← u1]; exact hal2.2.1⟩, hns.2⟩, hms.1, Nat.zero_le _, by rw [← u3]; exact hal2.2.2⟩, hms.2⟩
         · rw [hat9, u2, u4]
         · rw [u2, u1, u3]
           refine dM_J hf9 ?_
           obtain ⟨g1, g2, g3, g4, g5, g6, g7⟩ := hd4
           refine ⟨g1, ?_, ?_, ?_, ?_, H3.1, fun i hi => ?_⟩
           · rw [H3.2.2 104 (by omega), H5.2.2 104 (by omega)]; exact g2
           · rw [H3.2.2 105 (by omega), H5.2.2 105 (by omega)]; exact g3
           · rw [H3.2.2 106 (by omega), H5.2.2 106 (by omega)]; exact g4
           · rw [H3.2.2 107 (by omega)]; exact H5.1
           · rw [H3.2.2 109 (by omega), H3.2.2 110 (by omega), H3.2.2 111 (by omega), H5.2.2 109 (by omega), H5.2.2 110 (by omega), H5.2.2 111 (by omega)]; exact g7 i hi
       · refine qit_none (by rw [itm_h hc, if_neg hall]) hfI9 ?_
         rw [hir9, bI_lit0]
         rintro ⟨⟨⟨⟨-, h12, hv⟩, hs⟩, h34, hv2⟩, hs2⟩
         obtain ⟨u1, u2⟩ := num_1 hNn h12
         obtain ⟨u3, u4⟩ := num_1 hNm h34
         exact hall ⟨(NR_fok hNn (Or.inl rfl)).mp ⟨h12, hs⟩, by rw [u2]; exact (NR_fok hNm (Or.inr rfl)).mp ⟨h34, hs2⟩, by rw [u1]; exact hv.2, by rw [u2, u3]; exact hv2.2⟩)
    | (have hfI9 : frI S S9 := frI_trans hfIq (frI_J hf9)
       have hall : ¬ (fok t L (p + 1) 44 = true ∧ fok t L (nxt t L (p + 1)) 44 = true ∧ fok t L (nxt t L (nxt t L (p + 1))) 59 = true ∧ d.1 < 9 ∧ vlu t L (p + 1) ≤ 3) := by
         intro hall
         have hns := (NR_fok hNn (Or.inl rfl)).mpr hall.1
         obtain ⟨u1, u2⟩ := num_1 hNn hns.1
         have hal2 := hall.2
         rw [u2] at hal2
         have hms := (NR_fok hNm (Or.inl rfl)).mpr hal2.1
         obtain ⟨u3, u4⟩ := num_1 hNm hms.1
         rw [u4] at hal2
         have hzs := (NR_fok hNz (Or.inr rfl)).mpr hal2.2.1
         obtain ⟨u5, u6⟩ := num_1 hNz hzs.1
         have l1 := vlu_le t L (p + 1 + n + 1)
         have l2 := vlu_le t L (p + 1 + n + 1 + m + 1)
         exact hno ⟨⟨⟨⟨⟨hal2.2.2.1, hns.1, Nat.zero_le _, by rw [← u1]; exact hal2.2.2.2⟩, hns.2⟩, hms.1, Nat.zero_le _, by rw [← u3]; exact l1⟩, hms.2⟩, hzs.1, Nat.zero_le _, by rw [← u5]; exact l2⟩
       refine qit_none (by rw [itm_g hc, if_neg hall]) hfI9 ?_
       rw [hir9, bI_lit0]
       exact fun z => hno z.1)
    | (have hfI9 : frI S S9 := frI_trans hfIq (frI_J hf9)
       obtain ⟨⟨⟨⟨⟨k1, k2, k3⟩, k4⟩, k5, k6⟩, k7⟩, k8, k9⟩ := id hyes
       obtain ⟨u1, u2⟩ := num_1 hNn k2
       obtain ⟨u3, u4⟩ := num_1 hNm k5
       obtain ⟨u5, u6⟩ := num_1 hNz k8
       by_cases hs : sgn t L (p + 1 + n + 1 + m + 1 + z) 59 = true
       · have hall : fok t L (p + 1) 44 = true ∧ fok t L (nxt t L (p + 1)) 44 = true ∧ fok t L (nxt t L (nxt t L (p + 1))) 59 = true ∧ d.1 < 9 ∧ vlu t L (p + 1) ≤ 3 := ⟨(NR_fok hNn (Or.inl rfl)).mp ⟨k2, k4⟩, by rw [u2]; exact (NR_fok hNm (Or.inl rfl)).mp ⟨k5, k7⟩, by rw [u2, u4]; exact (NR_fok hNz (Or.inr rfl)).mp ⟨k8, hs⟩, k1, by rw [u1]; exact k3.2⟩
         refine qit_some (by rw [itm_g hc, if_pos hall]) hfI9 ?_ ?_ ?_
         · rw [hir9, bI_lit1]; exact ⟨hyes, hs⟩
         · rw [hat9, u2, u4, u6]
         · rw [u2, u4, u1, u3, u5]; exact dM_J hf9 hd8
       · have hall : ¬ (fok t L (p + 1) 44 = true ∧ fok t L (nxt t L (p + 1)) 44 = true ∧ fok t L (nxt t L (nxt t L (p + 1))) 59 = true ∧ d.1 < 9 ∧ vlu t L (p + 1) ≤ 3) := by
           intro hall
           have h3 := hall.2.2.1
           rw [u2, u4] at h3
           exact hs ((NR_fok hNz (Or.inr rfl)).mpr h3).2
         refine qit_none (by rw [itm_g hc, if_neg hall]) hfI9 ?_
         rw [hir9, bI_lit0]
         exact fun z => hs z.2)
    | (have hfI9 : frI S S9 := frI_trans (frI_J (frJ_trans hf1 hf2)) (frI_J hf9)
       refine qit_none ?_ hfI9 (by rw [hir9, bI_lit0]; exact fun z => z.1)
       first
       | (have hc : t p = 105 := (nI_eq (b := 105) (by omega) (by decide)).mp w_105
          exact itm_n (by omega) (by omega) (by omega) (by omega))
       | (have hc : t p = 106 := (nI_eq (b := 106) (by omega) (by decide)).mp w_106
          exact itm_n (by omega) (by omega) (by omega) (by omega))
       | exact itm_n (fun q => by rw [q] at w_103; exact absurd rfl w_103) (fun q => by rw [q] at w_104; exact absurd rfl w_104) (fun q => by rw [q] at w_107; exact absurd rfl w_107) (fun q => by rw [q] at w_108; exact absurd rfl w_108))
  by_cases w_108 : nI (t p) = 108
  · refine x_tableIn (tgt := 56) dX7_readItem_16 (by rw [w_108]; decide) (by rw [w_108]; decide) (by rw [w_108]; rfl) (by decide) ?_
    have hc : t p = 108 := (nI_eq (b := 108) (by omega) (by decide)).mp w_108
    refine x_aload_n dX7_readItem_56 rfl rfl ?_
    refine x_iconst (v := 0) dX7_readItem_57 (by decide) ?_
    refine x_iconst (v := 2) dX7_readItem_58 (by decide) ?_
    refine x_bipush (v := 40) dX7_readItem_59 (by decide) ?_
    refine kX7_97r dX7_readItem_61 rfl (by assumption) (cm_readNumber (k0 := 0) (lo := 2) (hi := 40) hm hT1 hat1 (by omega) hir1 (by decide) (by decide) (by decide)) (by decide) (Nat.le_of_ble_eq_true rfl) (fun S2 hq => ?_)
    obtain ⟨-, n, hNn, hatn, hton, hirn, hotn, hfn⟩ := hq
    have hbn := hNn.1
    have hTn := tM_J hfn hT1
    refine x_aload_n dX7_readItem_64 rfl rfl ?_
    refine gX7_17 dX7_readItem_65 rfl (by assumption) rfl ?_
    refine x_iconst (v := 1) dX7_readItem_68 (by decide) ?_
    refine x_aload_n dX7_readItem_69 rfl rfl ?_
    refine gX7_38 dX7_readItem_70 rfl (by assumption) rfl ?_
    refine x_iconst (v := 0) dX7_readItem_73 (by decide) ?_
    refine x_ialdN (j := 0) (by assumption) dX7_readItem_74 (by decide) (by decide) ?_
    rw [hton]
    refine x_iastN (j := 1) (by assumption) dX7_readItem_75 (by decide) (by decide) ?_
    refine x_gen (Pz := fun S' => wr1 S2 S' 105 (nI (vN t (p + 1) n))) wr1_put (fun S3 H3 => ?_)
    have e102 : S3 102 = S2 102 := H3.2.2 102 (by omega)
    have hT3 : tM S3 t L := tM_I (wr1_I H3 (by omega)) hTn
    have hat3 : S3 102 10 = nI (p + 1 + n) := by rw [e102]; exact hatn
    have hir3 := hirn
    rw [← e102] at hir3
    have hfI3 : frI S S3 := frI_trans (frI_J (frJ_trans hf1 hfn)) (wr1_I H3 (by omega))
    refine x_goto (tgt := 259) dX7_readItem_76 (by decide) ?_
    refine x_aload_n dX7_readItem_259 rfl rfl ?_
    refine x_bipush (v := 59) dX7_readItem_260 (by decide) ?_
    first
    | refine kX7_101r dX7_readItem_262 rfl (by assumption) (c_readMark (c := 59) hm hT3 hat3 (by omega) hir3 (by decide)) (by decide) (Nat.le_of_ble_eq_true rfl) (fun S9 hq => ?_)
    | refine kX7_101r dX7_readItem_262 rfl (by assumption) (c_readMark (c := 59) hm hTq hatq (by omega) hirq (by decide)) (by decide) (Nat.le_of_ble_eq_true rfl) (fun S9 hq => ?_)
    | refine kX7_101r dX7_readItem_262 rfl (by assumption) (c_readMark (c := 59) hm hT2 hat2 (by omega) hir2 (by decide)) (by decide) (Nat.le_of_ble_eq_true rfl) (fun S9 hq => ?_)
    obtain ⟨-, hat9, hir9, hto9, hf9⟩ := hq
    refine x_return dX7_readItem_265 rfl ?_
    first
    | (have hfI9 : frI S S9 := frI_trans hfI3 (frI_J hf9)
       have hd2 : dM S2 d := dM_J hfn hd1
       by_cases hall : fok t L (p + 1) 59 = true ∧ 2 ≤ vlu t L (p + 1) ∧ vlu t L (p + 1) ≤ 40
       · have hns := (NR_fok hNn (Or.inr rfl)).mpr hall.1
         obtain ⟨u1, u2⟩ := num_1 hNn hns.1
         refine qit_some (by rw [itm_l hc, if_pos hall]) hfI9 ?_ ?_ ?_
         · rw [hir9, bI_lit1]; exact ⟨⟨trivial, hns.1, by rw [← u1]; exact hall.2⟩, hns.2⟩
         · rw [hat9, u2]
         · rw [u1]
           refine dM_J hf9 ?_
           obtain ⟨g1, g2, g3, g4, g5, g6, g7⟩ := hd2
           refine ⟨g1, ?_, ?_, ?_, ?_, ?_, fun i hi => ?_⟩
           · rw [H3.2.2 104 (by omega)]; exact g2
           · first | exact H3.1 | (rw [H3.2.2 105 (by omega)]; exact g3)
           · first | exact H3.1 | (rw [H3.2.2 106 (by omega)]; exact g4)
           · rw [H3.2.2 107 (by omega)]; exact g5
           · rw [H3.2.2 108 (by omega)]; exact g6
           · rw [H3.2.2 109 (by omega), H3.2.2 110 (by omega), H3.2.2 111 (by omega)]; exact g7 i hi
       · refine qit_none (by rw [itm_l hc, if_neg hall]) hfI9 ?_
         rw [hir9, bI_lit0]
         rintro ⟨⟨-, h12, hv⟩, hs⟩
         obtain ⟨u1, u2⟩ := num_1 hNn h12
         exact hall ⟨(NR_fok hNn (Or.inr rfl)).mp ⟨h12, hs⟩, by rw [u1]; exact hv⟩)
    | (have hfI9 : frI S S9 := frI_trans hfI3 (frI_J hf9)
       have hd2 : dM S2 d := dM_J hfn hd1
       by_cases hall : fok t L (p + 1) 59 = true ∧ 1 ≤ vlu t L (p + 1) ∧ vlu t L (p + 1) ≤ 9
       · have hns := (NR_fok hNn (Or.inr rfl)).mpr hall.1
         obtain ⟨u1, u2⟩ := num_1 hNn hns.1
         refine qit_some (by rw [itm_k hc, if_pos hall]) hfI9 ?_ ?_ ?_
         · rw [hir9, bI_lit1]; exact ⟨⟨trivial, hns.1, by rw [← u1]; exact hall.2⟩, hns.2⟩
         · rw [hat9, u2]
         · rw [u1]
           refine dM_J hf9 ?_
           obtain ⟨g1, g2, g3, g4, g5, g6, g7⟩ := hd2
           refine ⟨g1, ?_, ?_, ?_, ?_, ?_, fun i hi => ?_⟩
           · rw [H3.2.2 104 (by omega)]; exact g2
           · first | exact H3.1 | (rw [H3.2.2 105 (by omega)]; exact g3)
           · first | exact H3.1 | (rw [H3.2.2 106 (by omega)]; exact g4)
           · rw [H3.2.2 107 (by omega)]; exact g5
           · rw [H3.2.2 108 (by omega)]; exact g6
           · rw [H3.2.2 109 (by omega), H3.2.2 110 (by omega), H3.2.2 111 (by omega)]; exact g7 i hi
       · refine qit_none (by rw [itm_k hc, if_neg hall]) hfI9 ?_
         rw [hir9, bI_lit0]
         rintro ⟨⟨-, h12, hv⟩, hs⟩
         obtain ⟨u1, u2⟩ := num_1 hNn h12
         exact hall ⟨(NR_fok hNn (Or.inr rfl)).mp ⟨h12, hs⟩, by rw [u1]; exact hv⟩)
    | (have hfI9 : frI S S9 := frI_trans hfI3 (frI_J hf9)
       have hd4 : dM S4 d := dM_J (frJ_trans hfn (frJ_trans hfa hfm)) hd1
       by_cases hall : fok t L (p + 1) 44 = true ∧ fok t L (nxt t L (p + 1)) 59 = true ∧ vlu t L (p + 1) ≤ 30 ∧ vlu t L (nxt t L (p + 1)) ≤ 30
       · have hns := (NR_fok hNn (Or.inl rfl)).mpr hall.1
         obtain ⟨u1, u2⟩ := num_1 hNn hns.1
         have hal2 := hall.2
         rw [u2] at hal2
         have hms := (NR_fok hNm (Or.inr rfl)).mpr hal2.1
         obtain ⟨u3, u4⟩ := num_1 hNm hms.1
         refine qit_some (by rw [itm_h hc, if_pos hall]) hfI9 ?_ ?_ ?_
         · rw [hir9, bI_lit1]; exact ⟨⟨⟨⟨trivial, hns.1, Nat.zero_le _, by rw [← u1]; exact hal2.2.1⟩, hns.2⟩, hms.1, Nat.zero_le _, by rw [← u3]; exact hal2.2.2⟩, hms.2⟩
         · rw [hat9, u2, u4]
         · rw [u2, u1, u3]
           refine dM_J hf9 ?_
           obtain ⟨g1, g2, g3, g4, g5, g6, g7⟩ := hd4
           refine ⟨g1, ?_, ?_, ?_, ?_, H3.1, fun i hi => ?_⟩
           · rw [H3.2.2 104 (by omega), H5.2.2 104 (by omega)]; exact g2
           · rw [H3.2.2 105 (by omega), H5.2.2 105 (by omega)]; exact g3
           · rw [H3.2.2 106 (by omega), H5.2.2 106 (by omega)]; exact g4
           · rw [H3.2.2 107 (by omega)]; exact H5.1
           · rw [H3.2.2 109 (by omega), H3.2.2 110 (by omega), H3.2.2 111 (by omega), H5.2.2 109 (by omega), H5.2.2 110 (by omega), H5.2.2 111 (by omega)]; exact g7 i hi
       · refine qit_none (by rw [itm_h hc, if_neg hall]) hfI9 ?_
         rw [hir9, bI_lit0]
         rintro ⟨⟨⟨⟨-, h12, hv⟩, hs⟩, h34, hv2⟩, hs2⟩
         obtain ⟨u1, u2⟩ := num_1 hNn h12
         obtain ⟨u3, u4⟩ := num_1 hNm h34
         exact hall ⟨(NR_fok hNn (Or.inl rfl)).mp ⟨h12, hs⟩, by rw [u2]; exact (NR_fok hNm (Or.inr rfl)).mp ⟨h34, hs2⟩, by rw [u1]; exact hv.2, by rw [u2, u3]; exact hv2.2⟩)
    | (have hfI9 : frI S S9 := frI_trans hfIq (frI_J hf9)
       have hall : ¬ (fok t L (p + 1) 44 = true ∧ fok t L (nxt t L (p + 1)) 44 = true ∧ fok t L (nxt t L (nxt t L (p + 1))) 59 = true ∧ d.1 < 9 ∧ vlu t L (p + 1) ≤ 3) := by
         intro hall
         have hns := (NR_fok hNn (Or.inl rfl)).mpr hall.1
         obtain ⟨u1, u2⟩ := num_1 hNn hns.1
         have hal2 := hall.2
         rw [u2] at hal2
         have hms := (NR_fok hNm (Or.inl rfl)).mpr hal2.1
         obtain ⟨u3, u4⟩ := num_1 hNm hms.1
         rw [u4] at hal2
         have hzs := (NR_fok hNz (Or.inr rfl)).mpr hal2.2.1
         obtain ⟨u5, u6⟩ := num_1 hNz hzs.1
         have l1 := vlu_le t L (p + 1 + n + 1)
         have l2 := vlu_le t L (p + 1 + n + 1 + m + 1)
         exact hno ⟨⟨⟨⟨⟨hal2.2.2.1, hns.1, Nat.zero_le _, by rw [← u1]; exact hal2.2.2.2⟩, hns.2⟩, hms.1, Nat.zero_le _, by rw [← u3]; exact l1⟩, hms.2⟩, hzs.1, Nat.zero_le _, by rw [← u5]; exact l2⟩
       refine qit_none (by rw [itm_g hc, if_neg hall]) hfI9 ?_
       rw [hir9, bI_lit0]
       exact fun z => hno z.1)
    | (have hfI9 : frI S S9 := frI_trans hfIq (frI_J hf9)
       obtain ⟨⟨⟨⟨⟨k1, k2, k3⟩, k4⟩, k5, k6⟩, k7⟩, k8, k9⟩ := id hyes
       obtain ⟨u1, u2⟩ := num_1 hNn k2
       obtain ⟨u3, u4⟩ := num_1 hNm k5
       obtain ⟨u5, u6⟩ := num_1 hNz k8
       by_cases hs : sgn t L (p + 1 + n + 1 + m + 1 + z) 59 = true
       · have hall : fok t L (p + 1) 44 = true ∧ fok t L (nxt t L (p + 1)) 44 = true ∧ fok t L (nxt t L (nxt t L (p + 1))) 59 = true ∧ d.1 < 9 ∧ vlu t L (p + 1) ≤ 3 := ⟨(NR_fok hNn (Or.inl rfl)).mp ⟨k2, k4⟩, by rw [u2]; exact (NR_fok hNm (Or.inl rfl)).mp ⟨k5, k7⟩, by rw [u2, u4]; exact (NR_fok hNz (Or.inr rfl)).mp ⟨k8, hs⟩, k1, by rw [u1]; exact k3.2⟩
         refine qit_some (by rw [itm_g hc, if_pos hall]) hfI9 ?_ ?_ ?_
         · rw [hir9, bI_lit1]; exact ⟨hyes, hs⟩
         · rw [hat9, u2, u4, u6]
         · rw [u2, u4, u1, u3, u5]; exact dM_J hf9 hd8
       · have hall : ¬ (fok t L (p + 1) 44 = true ∧ fok t L (nxt t L (p + 1)) 44 = true ∧ fok t L (nxt t L (nxt t L (p + 1))) 59 = true ∧ d.1 < 9 ∧ vlu t L (p + 1) ≤ 3) := by
           intro hall
           have h3 := hall.2.2.1
           rw [u2, u4] at h3
           exact hs ((NR_fok hNz (Or.inr rfl)).mpr h3).2
         refine qit_none (by rw [itm_g hc, if_neg hall]) hfI9 ?_
         rw [hir9, bI_lit0]
         exact fun z => hs z.2)
    | (have hfI9 : frI S S9 := frI_trans (frI_J (frJ_trans hf1 hf2)) (frI_J hf9)
       refine qit_none ?_ hfI9 (by rw [hir9, bI_lit0]; exact fun z => z.1)
       first
       | (have hc : t p = 105 := (nI_eq (b := 105) (by omega) (by decide)).mp w_105
          exact itm_n (by omega) (by omega) (by omega) (by omega))
       | (have hc : t p = 106 := (nI_eq (b := 106) (by omega) (by decide)).mp w_106
          exact itm_n (by omega) (by omega) (by omega) (by omega))
       | exact itm_n (fun q => by rw [q] at w_103; exact absurd rfl w_103) (fun q => by rw [q] at w_104; exact absurd rfl w_104) (fun q => by rw [q] at w_107; exact absurd rfl w_107) (fun q => by rw [q] at w_108; exact absurd rfl w_108))
  refine x_tableOut (tgt := 254) dX7_readItem_16 (by have z0 := sw_ne (n := 103) (by decide) w_103; have z1 := sw_ne (n := 104) (by decide) w_104; have z2 := sw_ne (n := 105) (by decide) w_105; have z3 := sw_ne (n := 106) (by decide) w_106; have z4 := sw_ne (n := 107) (by decide) w_107; have z5 := sw_ne (n := 108) (by decide) w_108; omega) (by decide) ?_
  refine x_aload_n dX7_readItem_254 rfl rfl ?_
  refine x_iconst (v := 0) dX7_readItem_255 (by decide) ?_
  refine pX7_93 dX7_readItem_256 rfl (by assumption) rfl rfl rfl ?_
  refine x_gen (Pz := fun S' => S' 102 10 = nI (p + 1) ∧ S' 102 11 = bI False ∧ frJ S1 S') ⟨by rw [s_put_eq, if_neg (by decide)]; exact hat1, by rw [s_put_eq, if_pos rfl]; rfl, ⟨fun b x y => s_put_ne x, fun j x y => by rw [s_put_eq, if_neg y]⟩⟩ (fun S2 H2 => ?_)
  obtain ⟨hat2, hir2, hf2⟩ := H2
  have hT2 := tM_J hf2 hT1
  refine x_aload_n dX7_readItem_259 rfl rfl ?_
  refine x_bipush (v := 59) dX7_readItem_260 (by decide) ?_
  first
  | refine kX7_101r dX7_readItem_262 rfl (by assumption) (c_readMark (c := 59) hm hT3 hat3 (by omega) hir3 (by decide)) (by decide) (Nat.le_of_ble_eq_true rfl) (fun S9 hq => ?_)
  | refine kX7_101r dX7_readItem_262 rfl (by assumption) (c_readMark (c := 59) hm hTq hatq (by omega) hirq (by decide)) (by decide) (Nat.le_of_ble_eq_true rfl) (fun S9 hq => ?_)
  | refine kX7_101r dX7_readItem_262 rfl (by assumption) (c_readMark (c := 59) hm hT2 hat2 (by omega) hir2 (by decide)) (by decide) (Nat.le_of_ble_eq_true rfl) (fun S9 hq => ?_)
  obtain ⟨-, hat9, hir9, hto9, hf9⟩ := hq
  refine x_return dX7_readItem_265 rfl ?_
  first
  | (have hfI9 : frI S S9 := frI_trans hfI3 (frI_J hf9)
     have hd2 : dM S2 d := dM_J hfn hd1
     by_cases hall : fok t L (p + 1) 59 = true ∧ 2 ≤ vlu t L (p + 1) ∧ vlu t L (p + 1) ≤ 40
     · have hns := (NR_fok hNn (Or.inr rfl)).mpr hall.1
       obtain ⟨u1, u2⟩ := num_1 hNn hns.1
       refine qit_some (by rw [itm_l hc, if_pos hall]) hfI9 ?_ ?_ ?_
       · rw [hir9, bI_lit1]; exact ⟨⟨trivial, hns.1, by rw [← u1]; exact hall.2⟩, hns.2⟩
       · rw [hat9, u2]
       · rw [u1]
         refine dM_J hf9 ?_
         obtain ⟨g1, g2, g3, g4, g5, g6, g7⟩ := hd2
         refine ⟨g1, ?_, ?_, ?_, ?_, ?_, fun i hi => ?_⟩
         · rw [H3.2.2 104 (by omega)]; exact g2
         · first | exact H3.1 | (rw [H3.2.2 105 (by omega)]; exact g3)
         · first | exact H3.1 | (rw [H3.2.2 106 (by omega)]; exact g4)
         · rw [H3.2.2 107 (by omega)]; exact g5
         · rw [H3.2.2 108 (by omega)]; exact g6
         · rw [H3.2.2 109 (by omega), H3.2.2 110 (by omega), H3.2.2 111 (by omega)]; exact g7 i hi
     · refine qit_none (by rw [itm_l hc, if_neg hall]) hfI9 ?_
       rw [hir9, bI_lit0]
       rintro ⟨⟨-, h12, hv⟩, hs⟩
       obtain ⟨u1, u2⟩ := num_1 hNn h12
       exact hall ⟨(NR_fok hNn (Or.inr rfl)).mp ⟨h12, hs⟩, by rw [u1]; exact hv⟩)
  | (have hfI9 : frI S S9 := frI_trans hfI3 (frI_J hf9)
     have hd2 : dM S2 d := dM_J hfn hd1
     by_cases hall : fok t L (p + 1) 59 = true ∧ 1 ≤ vlu t L (p + 1) ∧ vlu t L (p + 1) ≤ 9
     · have hns := (NR_fok hNn (Or.inr rfl)).mpr hall.1
       obtain ⟨u1, u2⟩ := num_1 hNn hns.1
       refine qit_some (by rw [itm_k hc, if_pos hall]) hfI9 ?_ ?_ ?_
       · rw [hir9, bI_lit1]; exact ⟨⟨trivial, hns.1, by rw [← u1]; exact hall.2⟩, hns.2⟩
       · rw [hat9, u2]
       · rw [u1]
         refine dM_J hf9 ?_
         obtain ⟨g1, g2, g3, g4, g5, g6, g7⟩ := hd2
         refine ⟨g1, ?_, ?_, ?_, ?_, ?_, fun i hi => ?_⟩
         · rw [H3.2.2 104 (by omega)]; exact g2
         · first | exact H3.1 | (rw [H3.2.2 105 (by omega)]; exact g3)
         · first | exact H3.1 | (rw [H3.2.2 106 (by omega)]; exact g4)
         · rw [H3.2.2 107 (by omega)]; exact g5
         · rw [H3.2.2 108 (by omega)]; exact g6
         · rw [H3.2.2 109 (by omega), H3.2.2 110 (by omega), H3.2.2 111 (by omega)]; exact g7 i hi
     · refine qit_none (by rw [itm_k hc, if_neg hall]) hfI9 ?_
       rw [hir9, bI_lit0]
       rintro ⟨⟨-, h12, hv⟩, hs⟩
       obtain ⟨u1, u2⟩ := num_1 hNn h12
       exact hall ⟨(NR_fok hNn (Or.inr rfl)).mp ⟨h12, hs⟩, by rw [u1]; exact hv⟩)
  | (have hfI9 : frI S S9 := frI_trans hfI3 (frI_J hf9)
     have hd4 : dM S4 d := dM_J (frJ_trans hfn (frJ_trans hfa hfm)) hd1
     by_cases hall : fok t L (p + 1) 44 = true ∧ fok t L (nxt t L (p + 1)) 59 = true ∧ vlu t L (p + 1) ≤ 30 ∧ vlu t L (nxt t L (p + 1)) ≤ 30
     · have hns := (NR_fok hNn (Or.inl rfl)).mpr hall.1
       obtain ⟨u1, u2⟩ := num_1 hNn hns.1
       have hal2 := hall.2
       rw [u2] at hal2
       have hms := (NR_fok hNm (Or.inr rfl)).mpr hal2.1
       obtain ⟨u3, u4⟩ := num_1 hNm hms.1
       refine qit_some (by rw [itm_h hc, if_pos hall]) hfI9 ?_ ?_ ?_
       · rw [hir9, bI_lit1]; exact ⟨⟨⟨⟨trivial, hns.1, Nat.zero_le _, by rw [← u1]; exact hal2.2.1⟩, hns.2⟩, hms.1, Nat.zero_le _, by rw [← u3]; exact hal2.2.2⟩, hms.2⟩
       · rw [hat9, u2, u4]
       · rw [u2, u1, u3]
         refine dM_J hf9 ?_
         obtain ⟨g1, g2, g3, g4, g5, g6, g7⟩ := hd4
         refine ⟨g1, ?_, ?_, ?_, ?_, H3.1, fun i hi => ?_⟩
         · rw [H3.2.2 104 (by omega), H5.2.2 104 (by omega)]; exact g2
         · rw [H3.2.2 105 (by omega), H5.2.2 105 (by omega)]; exact g3
         · rw [H3.2.2 106 (by omega), H5.2.2 106 (by omega)]; exact g4
         · rw [H3.2.2 107 (by omega)]; exact H5.1
         · rw [H3.2.2 109 (by omega), H3.2.2 110 (by omega), H3.2.2 111 (by omega), H5.2.2 109 (by omega), H5.2.2 110 (by omega), H5.2.2 111 (by omega)]; exact g7 i hi
     · refine qit_none (by rw [itm_h hc, if_neg hall]) hfI9 ?_
       rw [hir9, bI_lit0]
       rintro ⟨⟨⟨⟨-, h12, hv⟩, hs⟩, h34, hv2⟩, hs2⟩
       obtain ⟨u1, u2⟩ := num_1 hNn h12
       obtain ⟨u3, u4⟩ := num_1 hNm h34
       exact hall ⟨(NR_fok hNn (Or.inl rfl)).mp ⟨h12, hs⟩, by rw [u2]; exact (NR_fok hNm (Or.inr rfl)).mp ⟨h34, hs2⟩, by rw [u1]; exact hv.2, by rw [u2, u3]; exact hv2.2⟩)
  | (have hfI9 : frI S S9 := frI_trans hfIq (frI_J hf9)
     have hall : ¬ (fok t L (p + 1) 44 = true ∧ fok t L (nxt t L (p + 1)) 44 = true ∧ fok t L (nxt t L (nxt t L (p + 1))) 59 = true ∧ d.1 < 9 ∧ vlu t L (p + 1) ≤ 3) := by
       intro hall
       have hns := (NR_fok hNn (Or.inl rfl)).mpr hall.1
       obtain ⟨u1, u2⟩ := num_1 hNn hns.1
       have hal2 := hall.2
       rw [u2] at hal2
       have hms := (NR_fok hNm (Or.inl rfl)).mpr hal2.1
       obtain ⟨u3, u4⟩ := num_1 hNm hms.1
       rw [u4] at hal2
       have hzs := (NR_fok hNz (Or.inr rfl)).mpr hal2.2.1
       obtain ⟨u5, u6⟩ := num_1 hNz hzs.1
       have l1 := vlu_le t L (p + 1 + n + 1)
       have l2 := vlu_le t L (p + 1 + n + 1 + m + 1)
       exact hno ⟨⟨⟨⟨⟨hal2.2.2.1, hns.1, Nat.zero_le _, by rw [← u1]; exact hal2.2.2.2⟩, hns.2⟩, hms.1, Nat.zero_le _, by rw [← u3]; exact l1⟩, hms.2⟩, hzs.1, Nat.zero_le _, by rw [← u5]; exact l2⟩
     refine qit_none (by rw [itm_g hc, if_neg hall]) hfI9 ?_
     rw [hir9, bI_lit0]
     exact fun z => hno z.1)
  | (have hfI9 : frI S S9 := frI_trans hfIq (frI_J hf9)
     obtain ⟨⟨⟨⟨⟨k1, k2, k3⟩, k4⟩, k5, k6⟩, k7⟩, k8, k9⟩ := id hyes
     obtain ⟨u1, u2⟩ := num_1 hNn k2
     obtain ⟨u3, u4⟩ := num_1 hNm k5
     obtain ⟨u5, u6⟩ := num_1 hNz k8
     by_cases hs : sgn t L (p + 1 + n + 1 + m + 1 + z) 59 = true
     · have hall : fok t L (p + 1) 44 = true ∧ fok t L (nxt t L (p + 1)) 44 = true ∧ fok t L (nxt t L (nxt t L (p + 1))) 59 = true ∧ d.1 < 9 ∧ vlu t L (p + 1) ≤ 3 := ⟨(NR_fok hNn (Or.inl rfl)).mp ⟨k2, k4⟩, by rw [u2]; exact (NR_fok hNm (Or.inl rfl)).mp ⟨k5, k7⟩, by rw [u2, u4]; exact (NR_fok hNz (Or.inr rfl)).mp ⟨k8, hs⟩, k1, by rw [u1]; exact k3.2⟩
       refine qit_some (by rw [itm_g hc, if_pos hall]) hfI9 ?_ ?_ ?_
       · rw [hir9, bI_lit1]; exact ⟨hyes, hs⟩
       · rw [hat9, u2, u4, u6]
       · rw [u2, u4, u1, u3, u5]; exact dM_J hf9 hd8
     · have hall : ¬ (fok t L (p + 1) 44 = true ∧ fok t L (nxt t L (p + 1)) 44 = true ∧ fok t L (nxt t L (nxt t L (p + 1))) 59 = true ∧ d.1 < 9 ∧ vlu t L (p + 1) ≤ 3) := by
         intro hall
         have h3 := hall.2.2.1
         rw [u2, u4] at h3
         exact hs ((NR_fok hNz (Or.inr rfl)).mpr h3).2
       refine qit_none (by rw [itm_g hc, if_neg hall]) hfI9 ?_
       rw [hir9, bI_lit0]
       exact fun z => hs z.2)
  | (have hfI9 : frI S S9 := frI_trans (frI_J (frJ_trans hf1 hf2)) (frI_J hf9)
     refine qit_none ?_ hfI9 (by rw [hir9, bI_lit0]; exact fun z => z.1)
     first
     | (have hc : t p = 105 := (nI_eq (b := 105) (by omega) (by decide)).mp w_105
        exact itm_n (by omega) (by omega) (by omega) (by omega))
     | (have hc : t p = 106 := (nI_eq (b := 106) (by omega) (by decide)).mp w_106
        exact itm_n (by omega) (by omega) (by omega) (by omega))
     | exact itm_n (fun q => by rw [q] at w_103; exact absurd rfl w_103) (fun q => by rw [q] at w_104; exact absurd rfl w_104) (fun q => by rw [q] at w_107; exact absurd rfl w_107) (fun q => by rw [q] at w_108; exact absurd rfl w_108))
