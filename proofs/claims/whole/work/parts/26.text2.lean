/-- what reading may change: the text's place and numbers, the draft -/
def frR (S S' : sSt) (tx pl : Nat) : Prop := (∀ a, a ≠ tx → a ≠ tx + 2 → (a < pl ∨ pl + 4 ≤ a) → S' a = S a) ∧ S' tx 2 = S tx 2
theorem frR_T {S S' : sSt} {tx pl : Nat} (h : frT S S' tx) : frR S S' tx pl := ⟨fun a h1 h2 _ => h.1 a h1 h2, h.2⟩
theorem frR_D {S S' : sSt} {tx pl : Nat} (h : frD S S' pl) (hlt : tx + 3 ≤ pl) : frR S S' tx pl := ⟨fun a _ _ h3 => h a h3, by rw [h tx (by omega)]⟩
theorem frR_trans {S S1 S2 : sSt} {tx pl : Nat} (h1 : frR S S1 tx pl) (h2 : frR S1 S2 tx pl) : frR S S2 tx pl := ⟨fun a x y z => (h2.1 a x y z).trans (h1.1 a x y z), h2.2.trans h1.2⟩
theorem rT_frR {S S' : sSt} {tx pl L : Nat} {t : Nat → Nat} (h : frR S S' tx pl) (hlt : tx + 3 ≤ pl) (hT : rT S tx t L) : rT S' tx t L := ⟨hT.1, by rw [h.2]; exact hT.2.1, fun i hi => by rw [h.1 (tx + 1) (by omega) (by omega) (by omega)]; exact hT.2.2 i hi⟩
theorem rD_frT {S S' : sSt} {tx pl : Nat} {d : aD} (h : frT S S' tx) (hlt : tx + 3 ≤ pl) (hd : rD S pl d) : rD S' pl d := by
  obtain ⟨g1, g2, g3, g4, g5, g6, g7⟩ := hd
  have e : ∀ a, tx + 3 ≤ a → S' a = S a := fun a ha => h.1 a (by omega) (by omega)
  exact ⟨g1, by rw [e pl hlt]; exact g2, by rw [e pl hlt]; exact g3, by rw [e pl hlt]; exact g4, by rw [e pl hlt]; exact g5, by rw [e pl hlt]; exact g6, fun i hi => by rw [e (pl + 1) (by omega), e (pl + 2) (by omega), e (pl + 3) (by omega)]; exact g7 i hi⟩
theorem nbh_le (c : Nat) : nbh c ≤ 3 := by unfold nbh; split <;> (try split) <;> (try split) <;> (try split) <;> omega

set_option maxHeartbeats 1000000 in
set_option maxRecDepth 20000 in
theorem l_readItem {B : sB} {S : sSt} {tx L : Nat} {t : Nat → Nat} {pl w c : Nat} {d : aD} (ht : shT B tx) (hp : shP B pl) (hlt : tx + 3 ≤ pl) (hT : rT S tx t L) (hd : rD S pl d) (hc : c ≤ 126) (hw : nbh c = w) :
    ∀ (k i p : Nat) (vs : Nat → Nat) (S0 : sSt), i + k = w → p ≤ L → frT S S0 tx → S0 tx 3 = nI p → (∀ j, j < i → S0 (tx + 2) j = nI (vs j)) → (∀ j, vs j ≤ 99) → WS B (fun _ => True) yX5_readItem cX5_readItem 5 (some .boolean) 5 28 [(4, .int (nI i)), (3, .int (nI w)), (2, .int (nI c)), (0, .ref (s_ad B tx)), (1, .ref (s_ad B pl))] [] S0 (fun v S1 => v = some (.int (bI ((itmK t L w c d k i p vs).isSome = true))) ∧ frR S S1 tx pl ∧ ∀ q d1, itmK t L w c d k i p vs = some (q, d1) → S1 tx 3 = nI q ∧ rD S1 pl d1) := by
  have htt := ht
  have hw3 : w ≤ 3 := hw ▸ nbh_le c
  obtain ⟨ht0, ht1, ht2⟩ := ht
  intro k
  induction k with
  | zero =>
    intro i p vs S0 hik hpL hf hat hnum hv9
    refine x_iload dX5_readItem_28 rfl ?_
    refine x_iload_n dX5_readItem_30 rfl rfl ?_
    refine x_icmp_ge (tgt := 73) dX5_readItem_31 (by decide) (fun c_31 => ?_) (fun c_31 => ?_)
    · refine x_aload_n dX5_readItem_73 rfl rfl ?_
      refine x_aload_n dX5_readItem_74 rfl rfl ?_
      refine x_iload_n dX5_readItem_75 rfl rfl ?_
      refine kX5_47r dX5_readItem_76 rfl (by assumption) (c_tell (t := t) (L := L) htt hp (rD_frT hf hlt hd) hc (fun j hj => ⟨hnum j (by omega), hv9 j⟩)) (by decide) (Nat.le_of_ble_eq_true rfl) (fun z S1 hq => ?_)
      refine x_ireturn dX5_readItem_79 rfl (by obtain ⟨h, -⟩ := hq; cases h; exact bI_nar _) ?_
      obtain ⟨q1, q2, q3⟩ := hq
      have e : itmK t L w c d 0 i p vs = (telF c vs d).map (fun d' => (p, d')) := rfl
      refine ⟨?_, frR_trans (frR_T hf) (frR_D q2 hlt), fun q d1 h => ?_⟩
      · rw [e, Option.isSome_map]; exact q1
      · rw [e] at h
        cases ht : telF c vs d with
        | none => rw [ht] at h; cases h
        | some d' =>
          rw [ht] at h
          cases h
          exact ⟨by rw [q2 tx (by omega)]; exact hat, q3 _ ht⟩
    · exact absurd (by rw [show i = w by omega]; exact Int32.le_refl _) c_31
  | succ k ih =>
    intro i p vs S0 hik hpL hf hat hnum hv9
    have hT0 := rT_fr hf hT
    have hL2 := hT0.1
    refine x_iload dX5_readItem_28 rfl ?_
    refine x_iload_n dX5_readItem_30 rfl rfl ?_
    refine x_icmp_ge (tgt := 73) dX5_readItem_31 (by decide) (fun c_31 => ?_) (fun c_31 => ?_)
    · exact absurd c_31 (by exact nI_ge (by omega) (by omega))
    · refine x_aload_n dX5_readItem_34 rfl rfl ?_
      refine x_iload dX5_readItem_35 rfl ?_
      refine kX5_39r dX5_readItem_37 rfl (by assumption) (c_readNumber htt hT0 hpL (by omega) hat) (by decide) (Nat.le_of_ble_eq_true rfl) (fun z S1 hq => ?_)
      obtain ⟨q1, q2, q3, q4, q5⟩ := hq
      cases q1
      have hT1 := rT_fr q2 hT0
      refine x_ifeq_b (tgt := 65) dX5_readItem_40 (by decide) (fun c_40 => ?_) (fun c_40 => ?_)
      · have hfig : fig t L p = 0 := by
          rcases Nat.eq_zero_or_pos (fig t L p) with h | h
          · exact h
          · exact absurd (by omega) c_40
        refine x_iconst (v := 0) dX5_readItem_65 (by decide) ?_
        refine x_ireturn dX5_readItem_66 rfl (by first | rfl | exact bI_nar _) ?_
        first
        | (have e : itmK t L w c d (k + 1) i p vs = none := by
             unfold itmK
             rw [rdU, if_pos hfig]
             rfl
           exact ⟨by rw [e]; rfl, frR_trans (frR_T hf) (frR_T q2), fun q d1 h => by rw [e] at h; cases h⟩)
        | (have e : itmK t L w c d (k + 1) i p vs = none := by
             unfold itmK
             rw [rdU, if_neg hfig, if_neg hsg]
             rfl
           exact ⟨by rw [e]; rfl, frR_trans (frR_T hf) (frR_trans (frR_T q2) (frR_T r2)), fun q d1 h => by rw [e] at h; cases h⟩)
      · have hfig : ¬ fig t L p = 0 := c_40
        refine x_aload_n dX5_readItem_43 rfl rfl ?_
        refine x_iload dX5_readItem_44 rfl ?_
        refine x_iload_n dX5_readItem_46 rfl rfl ?_
        refine x_iconst (v := 1) dX5_readItem_47 (by decide) ?_
        refine x_isub dX5_readItem_48 ?_
        refine x_re (b := nI (w - 1)) (by rw [show nI w = nI (w - 1 + 1) from by rw [show w - 1 + 1 = w by omega]]; exact nI_pred (w - 1)) ?_
        refine x_icmp_ne (tgt := 57) dX5_readItem_49 (by decide) (fun c_49 => ?_) (fun c_49 => ?_)
        · have hwi : ¬ i + 1 = w := fun h => c_49 (by rw [show w - 1 = i by omega])
          refine x_bipush (v := 44) dX5_readItem_57 (by decide) ?_
          first
          | refine kX5_43r dX5_readItem_59 rfl (by assumption) (c_readSign (c := 59) htt hT1 (fig_le hpL) (by decide) q3) (by decide) (Nat.le_of_ble_eq_true rfl) (fun z S2 hr => ?_)
          | refine kX5_43r dX5_readItem_59 rfl (by assumption) (c_readSign (c := 44) htt hT1 (fig_le hpL) (by decide) q3) (by decide) (Nat.le_of_ble_eq_true rfl) (fun z S2 hr => ?_)
          obtain ⟨r1, r2, r3, r4⟩ := hr
          cases r1
          refine x_ifne_b (tgt := 67) dX5_readItem_62 (by decide) (fun c_62 => ?_) (fun c_62 => ?_)
          · have hsg : sgn t L (p + fig t L p) (if i + 1 = w then 59 else 44) = true := by
              first | (rw [if_pos hwi]; exact c_62) | (rw [if_neg hwi]; exact c_62)
            have hsg' := c_62
            first | refine x_inc1N (lv' := [(4, _), (3, _), (2, _), (0, _), (1, _)]) dX5_readItem_67 rfl (by decide) rfl ?_ | refine x_iinc (v := _ + 1) (lv' := [(4, _), (3, _), (2, _), (0, _), (1, _)]) dX5_readItem_67 rfl rfl (by decide) rfl ?_
            refine x_goto (tgt := 28) dX5_readItem_70 (by decide) ?_
            have hw0 : itmK t L w c d (k + 1) i p vs = itmK t L w c d k (i + 1) (p + fig t L p + 1) (updN vs i (vlu t L p)) := by
              unfold itmK
              rw [rdU, if_neg hfig, if_pos hsg]
            rw [hw0]
            refine ih (i + 1) _ _ S2 (by omega) (by have := hsg; simp [sgn] at this; omega) (frT_trans (frT_trans hf q2) r2) (by rw [r3, if_pos hsg']) (fun j hj => ?_) (fun j => by unfold updN; split; exact vlu_le t L p; exact hv9 j)
            rw [r4]
            unfold updN
            by_cases hji : j = i
            · rw [if_pos hji, hji]; exact q4
            · rw [if_neg hji, q5 j hji]; exact hnum j (by omega)
          · have hsg : ¬ sgn t L (p + fig t L p) (if i + 1 = w then 59 else 44) = true := by
              first | (rw [if_pos hwi]; exact c_62) | (rw [if_neg hwi]; exact c_62)
            refine x_iconst (v := 0) dX5_readItem_65 (by decide) ?_
            refine x_ireturn dX5_readItem_66 rfl (by first | rfl | exact bI_nar _) ?_
            first
            | (have e : itmK t L w c d (k + 1) i p vs = none := by
                 unfold itmK
                 rw [rdU, if_pos hfig]
                 rfl
               exact ⟨by rw [e]; rfl, frR_trans (frR_T hf) (frR_T q2), fun q d1 h => by rw [e] at h; cases h⟩)
            | (have e : itmK t L w c d (k + 1) i p vs = none := by
                 unfold itmK
                 rw [rdU, if_neg hfig, if_neg hsg]
                 rfl
               exact ⟨by rw [e]; rfl, frR_trans (frR_T hf) (frR_trans (frR_T q2) (frR_T r2)), fun q d1 h => by rw [e] at h; cases h⟩)
        · have hwi : i + 1 = w := by
            have := (nI_eq (by omega) (by omega)).mp c_49
            omega
          refine x_bipush (v := 59) dX5_readItem_52 (by decide) ?_
          refine x_goto (tgt := 59) dX5_readItem_54 (by decide) ?_
          first
          | refine kX5_43r dX5_readItem_59 rfl (by assumption) (c_readSign (c := 59) htt hT1 (fig_le hpL) (by decide) q3) (by decide) (Nat.le_of_ble_eq_true rfl) (fun z S2 hr => ?_)
          | refine kX5_43r dX5_readItem_59 rfl (by assumption) (c_readSign (c := 44) htt hT1 (fig_le hpL) (by decide) q3) (by decide) (Nat.le_of_ble_eq_true rfl) (fun z S2 hr => ?_)
          obtain ⟨r1, r2, r3, r4⟩ := hr
          cases r1
          refine x_ifne_b (tgt := 67) dX5_readItem_62 (by decide) (fun c_62 => ?_) (fun c_62 => ?_)
          · have hsg : sgn t L (p + fig t L p) (if i + 1 = w then 59 else 44) = true := by
              first | (rw [if_pos hwi]; exact c_62) | (rw [if_neg hwi]; exact c_62)
            have hsg' := c_62
            first | refine x_inc1N (lv' := [(4, _), (3, _), (2, _), (0, _), (1, _)]) dX5_readItem_67 rfl (by decide) rfl ?_ | refine x_iinc (v := _ + 1) (lv' := [(4, _), (3, _), (2, _), (0, _), (1, _)]) dX5_readItem_67 rfl rfl (by decide) rfl ?_
            refine x_goto (tgt := 28) dX5_readItem_70 (by decide) ?_
            have hw0 : itmK t L w c d (k + 1) i p vs = itmK t L w c d k (i + 1) (p + fig t L p + 1) (updN vs i (vlu t L p)) := by
              unfold itmK
              rw [rdU, if_neg hfig, if_pos hsg]
            rw [hw0]
            refine ih (i + 1) _ _ S2 (by omega) (by have := hsg; simp [sgn] at this; omega) (frT_trans (frT_trans hf q2) r2) (by rw [r3, if_pos hsg']) (fun j hj => ?_) (fun j => by unfold updN; split; exact vlu_le t L p; exact hv9 j)
            rw [r4]
            unfold updN
            by_cases hji : j = i
            · rw [if_pos hji, hji]; exact q4
            · rw [if_neg hji, q5 j hji]; exact hnum j (by omega)
          · have hsg : ¬ sgn t L (p + fig t L p) (if i + 1 = w then 59 else 44) = true := by
              first | (rw [if_pos hwi]; exact c_62) | (rw [if_neg hwi]; exact c_62)
            refine x_iconst (v := 0) dX5_readItem_65 (by decide) ?_
            refine x_ireturn dX5_readItem_66 rfl (by first | rfl | exact bI_nar _) ?_
            first
            | (have e : itmK t L w c d (k + 1) i p vs = none := by
                 unfold itmK
                 rw [rdU, if_pos hfig]
                 rfl
               exact ⟨by rw [e]; rfl, frR_trans (frR_T hf) (frR_T q2), fun q d1 h => by rw [e] at h; cases h⟩)
            | (have e : itmK t L w c d (k + 1) i p vs = none := by
                 unfold itmK
                 rw [rdU, if_neg hfig, if_neg hsg]
                 rfl
               exact ⟨by rw [e]; rfl, frR_trans (frR_T hf) (frR_trans (frR_T q2) (frR_T r2)), fun q d1 h => by rw [e] at h; cases h⟩)

set_option maxHeartbeats 1000000 in
set_option maxRecDepth 20000 in
theorem c_readItem {B : sB} {S : sSt} {tx L : Nat} {t : Nat → Nat} {pl p : Nat} {d : aD} (ht : shT B tx) (hp : shP B pl) (hlt : tx + 3 ≤ pl) (hT : rT S tx t L) (hd : rD S pl d) (hpL : p < L) (hat : S tx 3 = nI p) : CS B yX5_readItem cX5_readItem 5 (some .boolean) 5 [.ref (s_ad B tx), .ref (s_ad B pl)] S (fun v S1 => v = some (.int (bI ((itmF t L p d).isSome = true))) ∧ frR S S1 tx pl ∧ ∀ q d1, itmF t L p d = some (q, d1) → S1 tx 3 = nI q ∧ rD S1 pl d1) := by
  refine cs_intro (lv := [(0, .ref (s_ad B tx)), (1, .ref (s_ad B pl))]) rfl ?_
  have htt := ht
  obtain ⟨ht0, ht1, ht2⟩ := ht
  obtain ⟨g1, g2, g3⟩ := id hT
  rw [itmF_K]
  refine x_aload_n dX5_readItem_0 rfl rfl ?_
  refine gX5_9 dX5_readItem_1 rfl (by assumption) rfl ?_
  refine x_aload_n dX5_readItem_4 rfl rfl ?_
  refine gX5_28 dX5_readItem_5 rfl (by assumption) rfl ?_
  rw [hat]
  refine x_caldN (by assumption) dX5_readItem_8 (by omega) (by decide) ?_
  rw [(g3 p hpL).1]
  refine x_istore_n (lv' := [(2, _), (0, _), (1, _)]) dX5_readItem_9 rfl (by decide) rfl ?_
  refine x_iload_n dX5_readItem_10 rfl rfl ?_
  refine kX5_35 dX5_readItem_11 rfl (c_numbersBehind (g3 p hpL).2) (by decide) (Nat.le_of_ble_eq_true rfl) ?_
  refine x_istore_n (lv' := [(3, _), (2, _), (0, _), (1, _)]) dX5_readItem_14 rfl (by decide) rfl ?_
  refine x_aload_n dX5_readItem_15 rfl rfl ?_
  refine x_dup dX5_readItem_16 rfl ?_
  refine gX5_28 dX5_readItem_17 rfl (by assumption) rfl ?_
  rw [hat]
  refine x_iconst (v := 1) dX5_readItem_20 (by decide) ?_
  refine x_iadd dX5_readItem_21 ?_
  refine pX5_28 dX5_readItem_22 rfl (by assumption) rfl ?_
  refine x_gen (Pz := fun S' => frT S S' tx ∧ S' tx 3 = nI (p + 1)) ⟨⟨fun a h1 _ => s_put_ne h1, by rw [s_put_eq, if_neg (by decide)]⟩, by rw [s_put_eq, if_pos rfl]; exact nI_1 p⟩ (fun S1 H1 => ?_)
  refine x_iconst (v := 0) dX5_readItem_25 (by decide) ?_
  refine x_istore (lv' := [(4, _), (3, _), (2, _), (0, _), (1, _)]) dX5_readItem_26 (by decide) rfl ?_
  exact l_readItem htt hp hlt hT hd (g3 p hpL).2 rfl (nbh (t p)) 0 (p + 1) (fun _ => 0) S1 (by omega) (by omega) H1.1 H1.2 (fun j hj => absurd hj (Nat.not_lt_zero j)) (fun _ => Nat.zero_le _)

theorem itmF_le {t : Nat → Nat} {L p q : Nat} {d d' : aD} (h : itmF t L p d = some (q, d')) (hp : p < L) : p < q ∧ q ≤ L := by
  rw [itmF_K] at h
  unfold itmK at h
  cases hr : rdU t L (nbh (t p)) (nbh (t p)) 0 (p + 1) (fun _ => 0) with
  | none => rw [hr] at h; cases h
  | some x =>
    rw [hr] at h
    obtain ⟨q', us⟩ := x
    have := rdU_le (by omega) (fun _ => Nat.zero_le _) hr
    simp only [Option.bind_some, Option.map_eq_some_iff] at h
    obtain ⟨d1, _, h2⟩ := h
    cases h2
    omega

set_option maxHeartbeats 1000000 in
set_option maxRecDepth 20000 in
theorem l_readInto {B : sB} {S : sSt} {tx L : Nat} {t : Nat → Nat} {pl : Nat} (ht : shT B tx) (hp : shP B pl) (hlt : tx + 3 ≤ pl) (hT : rT S tx t L) :
    ∀ (k i p : Nat) (d : aD) (S0 : sSt), i + k = 200 → p ≤ L → frR S S0 tx pl → S0 tx 3 = nI p → rD S0 pl d → WS B (fun _ => True) yX5_readInto cX5_readInto 4 (some .int) 6 11 [(2, .int (nI i)), (0, .ref (s_ad B tx)), (1, .ref (s_ad B pl))] [] S0 (fun v S1 => v = some (.int (oI (fltU t L k p d).1)) ∧ frR S S1 tx pl ∧ ((fltU t L k p d).1 = none → rD S1 pl (fltU t L k p d).2)) := by
  have htt := ht
  obtain ⟨ht0, ht1, ht2⟩ := ht
  intro k
  induction k with
  | zero =>
    intro i p d S0 hik hpL hf hat hd
    refine x_iload_n dX5_readInto_11 rfl rfl ?_
    refine x_sipush (v := 200) dX5_readInto_12 (by decide) ?_
    refine x_icmp_ge (tgt := 50) dX5_readInto_15 (by decide) (fun c_15 => ?_) (fun c_15 => ?_)
    · refine x_bipush (v := (-4)) dX5_readInto_50 (by decide) ?_
      refine x_ireturn dX5_readInto_52 rfl rfl ?_
      exact ⟨rfl, hf, fun _ => hd⟩
    · exact absurd (by rw [show i = 200 by omega]; decide) c_15
  | succ k ih =>
    intro i p d S0 hik hpL hf hat hd
    have hT0 := rT_frR hf hlt hT
    refine x_iload_n dX5_readInto_11 rfl rfl ?_
    refine x_sipush (v := 200) dX5_readInto_12 (by decide) ?_
    refine x_icmp_ge (tgt := 50) dX5_readInto_15 (by decide) (fun c_15 => ?_) (fun c_15 => ?_)
    · exact absurd c_15 (by exact nI_ge (b := 200) (by omega) (by decide))
    · refine x_aload_n dX5_readInto_18 rfl rfl ?_
      refine gX5_28 dX5_readInto_19 rfl (by assumption) rfl ?_
      refine x_aload_n dX5_readInto_22 rfl rfl ?_
      refine gX5_19 dX5_readInto_23 rfl (by assumption) rfl ?_
      rw [hat, hT0.2.1]
      refine x_icmp_ge (tgt := 50) dX5_readInto_26 (by decide) (fun c_26 => ?_) (fun c_26 => ?_)
      · have hlt2 : ¬ p < L := fun h => absurd c_26 (nI_ge h (by have := hT0.1; omega))
        refine x_bipush (v := (-4)) dX5_readInto_50 (by decide) ?_
        refine x_ireturn dX5_readInto_52 rfl rfl ?_
        rw [fltU, if_neg hlt2]
        exact ⟨rfl, hf, fun _ => hd⟩
      · have hlt2 : p < L := by
          rcases Nat.lt_or_ge p L with h | h
          · exact h
          · exact absurd (nI_le h (by have := hT0.1; omega)) c_26
        refine x_aload_n dX5_readInto_29 rfl rfl ?_
        refine gX5_28 dX5_readInto_30 rfl (by assumption) rfl ?_
        rw [hat]
        refine x_istore_n (lv' := [(3, _), (2, _), (0, _), (1, _)]) dX5_readInto_33 rfl (by decide) rfl ?_
        refine x_aload_n dX5_readInto_34 rfl rfl ?_
        refine x_aload_n dX5_readInto_35 rfl rfl ?_
        refine kX5_31r dX5_readInto_36 rfl (by assumption) (c_readItem htt hp hlt hT0 hd hlt2 hat) (by decide) (Nat.le_of_ble_eq_true rfl) (fun z S1 hq => ?_)
        obtain ⟨q1, q2, q3⟩ := hq
        cases q1
        refine x_ifne_b (tgt := 44) dX5_readInto_39 (by decide) (fun c_39 => ?_) (fun c_39 => ?_)
        · first | refine x_inc1N (lv' := [(2, _), (3, _), (0, _), (1, _)]) dX5_readInto_44 rfl (by decide) rfl ?_ | refine x_iinc (v := _ + 1) (lv' := [(2, _), (3, _), (0, _), (1, _)]) dX5_readInto_44 rfl rfl (by decide) rfl ?_
          refine x_goto (tgt := 11) dX5_readInto_47 (by decide) ?_
          refine x_wk [0, 2, 3] rfl ?_
          have hsm := c_39
          obtain ⟨x, hx⟩ := Option.isSome_iff_exists.mp hsm
          obtain ⟨q, d1⟩ := x
          rw [fltU, if_pos hlt2, hx]
          have hq9 := itmF_le hx hlt2
          have hq8 := q3 q d1 hx
          exact ih (i + 1) q d1 S1 (by omega) hq9.2 (frR_trans hf q2) hq8.1 hq8.2
        · refine x_iload_n dX5_readInto_42 rfl rfl ?_
          refine x_ireturn dX5_readInto_43 rfl rfl ?_
          have hn : itmF t L p d = none := by
            cases hx : itmF t L p d with
            | none => rfl
            | some x => rw [hx] at c_39; exact absurd rfl c_39
          rw [fltU, if_pos hlt2, hn]
          exact ⟨rfl, frR_trans hf q2, fun h => by cases h⟩

set_option maxHeartbeats 1000000 in
set_option maxRecDepth 20000 in
theorem c_readInto {B : sB} {S : sSt} {tx L : Nat} {t : Nat → Nat} {pl : Nat} (ht : shT B tx) (hp : shP B pl) (hlt : tx + 3 ≤ pl) (hT : rT S tx t L) : CS B yX5_readInto cX5_readInto 4 (some .int) 6 [.ref (s_ad B tx), .ref (s_ad B pl)] S (fun v S1 => v = some (.int (oI (fltF t L).1)) ∧ frR S S1 tx pl ∧ ((fltF t L).1 = none → rD S1 pl (fltF t L).2)) := by
  refine cs_intro (lv := [(0, .ref (s_ad B tx)), (1, .ref (s_ad B pl))]) rfl ?_
  have htt := ht
  have hps := hp.1
  obtain ⟨ht0, ht1, ht2⟩ := ht
  refine x_aload_n dX5_readInto_0 rfl rfl ?_
  refine kX5_23r dX5_readInto_1 rfl (by assumption) (c_Pbegin hp) (by decide) (Nat.le_of_ble_eq_true rfl) (fun S1 hq => ?_)
  obtain ⟨-, q1, q2⟩ := hq
  refine x_aload_n dX5_readInto_4 rfl rfl ?_
  refine x_iconst (v := 0) dX5_readInto_5 (by decide) ?_
  refine pX5_28 dX5_readInto_6 rfl (by assumption) rfl ?_
  refine x_gen (Pz := fun S' => frT S1 S' tx ∧ S' tx 3 = nI 0) ⟨⟨fun a h1 _ => s_put_ne h1, by rw [s_put_eq, if_neg (by decide)]⟩, by rw [s_put_eq, if_pos rfl]; rfl⟩ (fun S2 H2 => ?_)
  refine x_iconst (v := 0) dX5_readInto_9 (by decide) ?_
  refine x_istore_n (lv' := [(2, _), (0, _), (1, _)]) dX5_readInto_10 rfl (by decide) rfl ?_
  exact l_readInto htt hp hlt hT 200 0 0 d0 S2 (by omega) (Nat.zero_le _) (frR_trans (frR_D q2 hlt) (frR_T H2.1)) H2.2 (rD_frT H2.1 hlt q1)
