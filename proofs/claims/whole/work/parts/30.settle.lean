def frH (S S' : sSt) (sh : Nat) : Prop := ∀ a, (a < sh ∨ sh + 4 ≤ a) → S' a = S a
theorem frH_rfl {S : sSt} {sh : Nat} : frH S S sh := fun _ _ => rfl
theorem frH_trans {S S1 S2 : sSt} {sh : Nat} (h1 : frH S S1 sh) (h2 : frH S1 S2 sh) : frH S S2 sh := fun a x => (h2 a x).trans (h1 a x)
theorem frH_K {S S' : sSt} {sh : Nat} (h : frK S S' sh) : frH S S' sh := fun a x => h.1 a (by omega) (by omega)
theorem frH_P {S S' : sSt} {sh pl : Nat} {P : aP} (h : frH S S' sh) (hlt : pl + 4 ≤ sh) (hP : rP S pl P) : rP S' pl P := by
  obtain ⟨h1, h2, h3, h4, h5⟩ := hP
  have e : ∀ a, a < sh → S' a = S a := fun a ha => h a (Or.inl ha)
  exact ⟨h1, by rw [e pl (by omega)]; exact h2, by rw [e pl (by omega)]; exact h3, by rw [e pl (by omega)]; exact h4, fun i hi => by rw [e (pl + 1) (by omega), e (pl + 2) (by omega), e (pl + 3) (by omega)]; exact h5 i hi⟩
theorem frH_B {S S' : sSt} {sh c : Nat} {r : aR} (h : frH S S' sh) (hlt : c + 6 ≤ sh) (hB : rB S c r) : rB S' c r := rB_fr (fun a _ y => h a (by omega)) hB
theorem lowU_some {fit : Nat → Nat → Bool} {n g mi : Nat} {fr : Nat → Bool} : ∀ {k s j : Nat}, lowU fit n g fr mi k s = some j → s ≤ j ∧ j < s + k ∧ (fit g j && fr j) = true ∧ 1 + mosF fit n (updB fr j false) (g + 1) = mi := by
  intro k; induction k with
  | zero => intro s j h; cases h
  | succ k ih =>
    intro s j h
    rw [lowU] at h
    split at h
    · rename_i hc
      cases h
      rw [Bool.and_eq_true, beq_iff_eq] at hc
      exact ⟨Nat.le_refl _, by omega, hc.1, hc.2⟩
    · obtain ⟨a1, a2, a3⟩ := ih h
      exact ⟨by omega, by omega, a3⟩

set_option maxHeartbeats 1000000 in
set_option maxRecDepth 20000 in
theorem l_findFitting2 {B : sB} {S : sSt} {sh c pl : Nat} {P : aP} {r : aR} (hk : shK B sh) (hc : shB B c pl) (hp : shP B pl) (hP : rP S pl P) (hB : rB S c r) (hlt : c + 6 ≤ sh) (hlp : pl + 4 ≤ sh) {g : Nat} {Q : Option Value → sSt → Prop} (hg : g < P.1) (hex : ∀ S1, S1 sh 3 = nI P.1 → (∀ g', g' < g + 1 → mk (S1 (sh + 1) g') (fitF P r g')) → frH S S1 sh → WS B (fun _ => True) yX3_findFitting cX3_findFitting 4 none 3 74 [(3, .int (nI P.1)), (2, .int (nI g)), (0, .ref (s_ad B sh)), (1, .ref (s_ad B c))] [] S1 Q) :
    ∀ (k i : Nat) (S0 : sSt), i + k = P.1 → S0 sh 3 = nI P.1 → (∀ g', g' < g → mk (S0 (sh + 1) g') (fitF P r g')) → mk (S0 (sh + 1) g) (fun s => decide (s < i) && fitF P r g s) → frH S S0 sh → WS B (fun _ => True) yX3_findFitting cX3_findFitting 4 none 3 30 [(3, .int (nI i)), (2, .int (nI g)), (0, .ref (s_ad B sh)), (1, .ref (s_ad B c))] [] S0 Q := by
  have hcc := hc
  have hcs := hc.1
  have hn9 := hP.1
  obtain ⟨hk0, hk1, hk2, hk3⟩ := hk
  intro k
  induction k with
  | zero =>
    intro i S0 hi h3 hdone hcur hf
    refine x_iload_n dX3_findFitting_30 rfl rfl ?_
    refine x_aload_n dX3_findFitting_31 rfl rfl ?_
    refine gX3_33 dX3_findFitting_32 rfl (by assumption) rfl ?_
    refine x_icmp_ge (tgt := 74) dX3_findFitting_35 (by decide) (fun c_35 => ?_) (fun c_35 => ?_)
    · rw [show i = P.1 by omega] at hcur ⊢
      refine hex S0 h3 (fun g' hg' => ?_) hf
      by_cases hgg : g' = g
      · subst hgg
        intro s hs
        rw [show (S0 (sh + 1) g').toBitVec.getLsbD s = (decide (s < P.1) && fitF P r g' s) from hcur s hs]
        unfold fitF
        cases decide (s < P.1) <;> rfl
      · exact hdone g' (by omega)
    · exact absurd (by rw [h3, ← hi]; exact nI_le (by omega) (by omega)) c_35
  | succ k ih =>
    intro i S0 hi h3 hdone hcur hf
    have hP0 := frH_P hf hlp hP
    have hB0 := frH_B hf hlt hB
    refine x_iload_n dX3_findFitting_30 rfl rfl ?_
    refine x_aload_n dX3_findFitting_31 rfl rfl ?_
    refine gX3_33 dX3_findFitting_32 rfl (by assumption) rfl ?_
    refine x_icmp_ge (tgt := 74) dX3_findFitting_35 (by decide) (fun c_35 => ?_) (fun c_35 => ?_)
    · exact absurd c_35 (by rw [h3]; exact nI_ge (by omega) (by omega))
    · refine x_aload_n dX3_findFitting_38 rfl rfl ?_
      refine x_iload_n dX3_findFitting_39 rfl rfl ?_
      refine x_iload_n dX3_findFitting_40 rfl rfl ?_
      refine kX3_49 dX3_findFitting_41 rfl (by assumption) (c_mayEat hcc hp hP0 hB0 hg (by omega)) (by decide) (Nat.le_of_ble_eq_true rfl) ?_
      refine x_ifeq_b (tgt := 68) dX3_findFitting_44 (by decide) (fun c_44 => ?_) (fun c_44 => ?_)
      · have hfalse : fitF P r g i = false := by
          unfold fitF
          cases h : canT P r g i with
          | true => exact absurd h c_44
          | false => simp
        first | refine x_inc1N (lv' := [(3, _), (2, _), (0, _), (1, _)]) dX3_findFitting_68 rfl (by decide) rfl ?_ | refine x_iinc (v := _ + 1) (lv' := [(3, _), (2, _), (0, _), (1, _)]) dX3_findFitting_68 rfl rfl (by decide) rfl ?_
        refine x_goto (tgt := 30) dX3_findFitting_71 (by decide) ?_
        first
        | (refine ih (i + 1) S0 (by omega) h3 hdone ?_ hf
           intro s hs
           show _ = (decide (s < i + 1) && fitF P r g s)
           rw [show (S0 (sh + 1) g).toBitVec.getLsbD s = (decide (s < i) && fitF P r g s) from hcur s hs]
           by_cases hsi : s = i
           · subst hsi
             rw [show decide (s < s) = false from by simp, show fitF P r g s = false from hfalse]; simp
           · rw [show decide (s < i + 1) = decide (s < i) from by simp; omega])
        | (refine ih (i + 1) _ (by omega) (by rw [s_put_ne (by omega)]; exact h3) (fun g' hg' => by rw [s_put_eq, if_neg (by omega)]; exact hdone g' hg') ?_ (frH_trans hf (fun a ha => s_put_ne (by omega)))
           intro s hs
           show _ = (decide (s < i + 1) && fitF P r g s)
           rw [s_put_eq, if_pos rfl, bit_or, show (S0 (sh + 1) g).toBitVec.getLsbD s = (decide (s < i) && fitF P r g s) from hcur s hs, bt_bit i (by omega) s (by omega)]
           by_cases hsi : s = i
           · subst hsi
             rw [htrue]; simp
           · rw [show decide (s < i + 1) = decide (s < i) from by simp; omega]; simp [hsi])
      · refine x_aload_n dX3_findFitting_47 rfl rfl ?_
        refine x_iload_n dX3_findFitting_48 rfl rfl ?_
        refine x_iload_n dX3_findFitting_49 rfl rfl ?_
        refine kX3_53 dX3_findFitting_50 rfl (by assumption) (c_isRight hcc hp hP0 hB0 hg (by omega)) (by decide) (Nat.le_of_ble_eq_true rfl) ?_
        refine x_ifeq_b (tgt := 68) dX3_findFitting_53 (by decide) (fun c_53 => ?_) (fun c_53 => ?_)
        · have hfalse : fitF P r g i = false := by
            unfold fitF
            cases h : rgt P r g i with
            | true => exact absurd h c_53
            | false => simp
          first | refine x_inc1N (lv' := [(3, _), (2, _), (0, _), (1, _)]) dX3_findFitting_68 rfl (by decide) rfl ?_ | refine x_iinc (v := _ + 1) (lv' := [(3, _), (2, _), (0, _), (1, _)]) dX3_findFitting_68 rfl rfl (by decide) rfl ?_
          refine x_goto (tgt := 30) dX3_findFitting_71 (by decide) ?_
          first
          | (refine ih (i + 1) S0 (by omega) h3 hdone ?_ hf
             intro s hs
             show _ = (decide (s < i + 1) && fitF P r g s)
             rw [show (S0 (sh + 1) g).toBitVec.getLsbD s = (decide (s < i) && fitF P r g s) from hcur s hs]
             by_cases hsi : s = i
             · subst hsi
               rw [show decide (s < s) = false from by simp, show fitF P r g s = false from hfalse]; simp
             · rw [show decide (s < i + 1) = decide (s < i) from by simp; omega])
          | (refine ih (i + 1) _ (by omega) (by rw [s_put_ne (by omega)]; exact h3) (fun g' hg' => by rw [s_put_eq, if_neg (by omega)]; exact hdone g' hg') ?_ (frH_trans hf (fun a ha => s_put_ne (by omega)))
             intro s hs
             show _ = (decide (s < i + 1) && fitF P r g s)
             rw [s_put_eq, if_pos rfl, bit_or, show (S0 (sh + 1) g).toBitVec.getLsbD s = (decide (s < i) && fitF P r g s) from hcur s hs, bt_bit i (by omega) s (by omega)]
             by_cases hsi : s = i
             · subst hsi
               rw [htrue]; simp
             · rw [show decide (s < i + 1) = decide (s < i) from by simp; omega]; simp [hsi])
        · have htrue : fitF P r g i = true := by
            unfold fitF
            rw [c_44, c_53, show decide (i < P.1) = true from by simp; omega]; rfl
          refine x_aload_n dX3_findFitting_56 rfl rfl ?_
          refine gX3_9 dX3_findFitting_57 rfl (by assumption) rfl ?_
          refine x_iload_n dX3_findFitting_60 rfl rfl ?_
          refine x_dup2 dX3_findFitting_61 rfl rfl ?_
          first | refine x_ialdN (by assumption) dX3_findFitting_62 (by omega) (by decide) ?_ | refine x_iald (by assumption) dX3_findFitting_62 (by assumption) ?_
          refine x_iconst (v := 1) dX3_findFitting_63 (by decide) ?_
          refine x_iload_n dX3_findFitting_64 rfl rfl ?_
          refine x_ishl dX3_findFitting_65 ?_
          refine x_re (b := bt i) rfl ?_
          refine x_ior dX3_findFitting_66 ?_
          first | refine x_iastN (by assumption) dX3_findFitting_67 (by omega) (by decide) ?_ | refine x_iast (by assumption) dX3_findFitting_67 (by assumption) ?_
          first | refine x_inc1N (lv' := [(3, _), (2, _), (0, _), (1, _)]) dX3_findFitting_68 rfl (by decide) rfl ?_ | refine x_iinc (v := _ + 1) (lv' := [(3, _), (2, _), (0, _), (1, _)]) dX3_findFitting_68 rfl rfl (by decide) rfl ?_
          refine x_goto (tgt := 30) dX3_findFitting_71 (by decide) ?_
          first
          | (refine ih (i + 1) S0 (by omega) h3 hdone ?_ hf
             intro s hs
             show _ = (decide (s < i + 1) && fitF P r g s)
             rw [show (S0 (sh + 1) g).toBitVec.getLsbD s = (decide (s < i) && fitF P r g s) from hcur s hs]
             by_cases hsi : s = i
             · subst hsi
               rw [show decide (s < s) = false from by simp, show fitF P r g s = false from hfalse]; simp
             · rw [show decide (s < i + 1) = decide (s < i) from by simp; omega])
          | (refine ih (i + 1) _ (by omega) (by rw [s_put_ne (by omega)]; exact h3) (fun g' hg' => by rw [s_put_eq, if_neg (by omega)]; exact hdone g' hg') ?_ (frH_trans hf (fun a ha => s_put_ne (by omega)))
             intro s hs
             show _ = (decide (s < i + 1) && fitF P r g s)
             rw [s_put_eq, if_pos rfl, bit_or, show (S0 (sh + 1) g).toBitVec.getLsbD s = (decide (s < i) && fitF P r g s) from hcur s hs, bt_bit i (by omega) s (by omega)]
             by_cases hsi : s = i
             · subst hsi
               rw [htrue]; simp
             · rw [show decide (s < i + 1) = decide (s < i) from by simp; omega]; simp [hsi])

set_option maxHeartbeats 1000000 in
set_option maxRecDepth 20000 in
theorem l_findFitting {B : sB} {S : sSt} {sh c pl : Nat} {P : aP} {r : aR} (hk : shK B sh) (hc : shB B c pl) (hp : shP B pl) (hP : rP S pl P) (hB : rB S c r) (hlt : c + 6 ≤ sh) (hlp : pl + 4 ≤ sh) : ∀ (k g : Nat) (S0 : sSt), g + k = P.1 → S0 sh 3 = nI P.1 → (∀ g', g' < g → mk (S0 (sh + 1) g') (fitF P r g')) → frH S S0 sh → WS B (fun _ => True) yX3_findFitting cX3_findFitting 4 none 3 13 [(2, .int (nI g)), (0, .ref (s_ad B sh)), (1, .ref (s_ad B c))] [] S0 (fun v S1 => v = none ∧ rK0 S1 sh P.1 (fitF P r) ∧ frH S S1 sh) := by
  have hkk := hk
  have hcc := hc
  have hn9 := hP.1
  obtain ⟨hk0, hk1, hk2, hk3⟩ := hk
  intro k
  induction k with
  | zero =>
    intro g S0 hi h3 hdone hf
    refine x_iload_n dX3_findFitting_13 rfl rfl ?_
    refine x_aload_n dX3_findFitting_14 rfl rfl ?_
    refine gX3_33 dX3_findFitting_15 rfl (by assumption) rfl ?_
    refine x_icmp_ge (tgt := 80) dX3_findFitting_18 (by decide) (fun c_18 => ?_) (fun c_18 => ?_)
    · refine x_return dX3_findFitting_80 rfl ?_
      exact ⟨rfl, ⟨hn9, h3, fun g' hg' => hdone g' (by omega)⟩, hf⟩
    · exact absurd (by rw [h3, ← hi]; exact nI_le (by omega) (by omega)) c_18
  | succ k ih =>
    intro g S0 hi h3 hdone hf
    refine x_iload_n dX3_findFitting_13 rfl rfl ?_
    refine x_aload_n dX3_findFitting_14 rfl rfl ?_
    refine gX3_33 dX3_findFitting_15 rfl (by assumption) rfl ?_
    refine x_icmp_ge (tgt := 80) dX3_findFitting_18 (by decide) (fun c_18 => ?_) (fun c_18 => ?_)
    · exact absurd c_18 (by rw [h3]; exact nI_ge (by omega) (by omega))
    · refine x_aload_n dX3_findFitting_21 rfl rfl ?_
      refine gX3_9 dX3_findFitting_22 rfl (by assumption) rfl ?_
      refine x_iload_n dX3_findFitting_25 rfl rfl ?_
      refine x_iconst (v := 0) dX3_findFitting_26 (by decide) ?_
      refine x_iastN (by assumption) dX3_findFitting_27 (by omega) (by decide) ?_
      refine x_iconst (v := 0) dX3_findFitting_28 (by decide) ?_
      refine x_istore_n (lv' := [(3, _), (2, _), (0, _), (1, _)]) dX3_findFitting_29 rfl (by decide) rfl ?_
      refine l_findFitting2 hkk hcc hp hP hB hlt hlp (g := g) (by omega) (fun S1 h31 hdone1 hf1 => ?_) P.1 0 _ (by omega) (by rw [s_put_ne (by omega)]; exact h3) (fun g' hg' => by rw [s_put_eq, if_neg (by omega)]; exact hdone g' hg') (fun s hs => by rw [s_put_eq, if_pos rfl]; simp) (frH_trans hf (fun a ha => s_put_ne (by omega)))
      first | refine x_inc1N (lv' := [(2, _), (3, _), (0, _), (1, _)]) dX3_findFitting_74 rfl (by decide) rfl ?_ | refine x_iinc (v := _ + 1) (lv' := [(2, _), (3, _), (0, _), (1, _)]) dX3_findFitting_74 rfl rfl (by decide) rfl ?_
      refine x_goto (tgt := 13) dX3_findFitting_77 (by decide) ?_
      refine x_wk [0, 2, 3] rfl ?_
      exact ih (g + 1) S1 (by omega) h31 hdone1 hf1

set_option maxHeartbeats 1000000 in
set_option maxRecDepth 20000 in
theorem c_findFitting {B : sB} {S : sSt} {sh c pl : Nat} {P : aP} {r : aR} (hk : shK B sh) (hc : shB B c pl) (hp : shP B pl) (hP : rP S pl P) (hB : rB S c r) (hlt : c + 6 ≤ sh) (hlp : pl + 4 ≤ sh) : CS B yX3_findFitting cX3_findFitting 4 none 3 [.ref (s_ad B sh), .ref (s_ad B c)] S (fun v S1 => v = none ∧ rK0 S1 sh P.1 (fitF P r) ∧ frH S S1 sh) := by
  refine cs_intro (lv := [(0, .ref (s_ad B sh)), (1, .ref (s_ad B c))]) rfl ?_
  have hkk := hk
  have hcs := hc.1
  have hps := hp.1
  obtain ⟨hk0, hk1, hk2, hk3⟩ := hk
  refine x_aload_n dX3_findFitting_0 rfl rfl ?_
  refine x_aload_n dX3_findFitting_1 rfl rfl ?_
  refine gX3_40 dX3_findFitting_2 rfl (by assumption) rfl ?_
  refine gX3_46 dX3_findFitting_5 rfl (by assumption) rfl ?_
  refine pX3_33 dX3_findFitting_8 rfl (by assumption) rfl ?_
  refine x_iconst (v := 0) dX3_findFitting_11 (by decide) ?_
  refine x_istore_n (lv' := [(2, _), (0, _), (1, _)]) dX3_findFitting_12 rfl (by decide) rfl ?_
  exact l_findFitting hkk hc hp hP hB hlt hlp P.1 0 _ (by omega) (by rw [s_put_eq, if_pos rfl]; exact hP.2.1) (fun g' h => absurd h (Nat.not_lt_zero g')) (fun a ha => s_put_ne (by omega))

set_option maxHeartbeats 1000000 in
set_option maxRecDepth 20000 in
theorem l_settle {B : sB} {sh n c tot : Nat} {fit : Nat → Nat → Bool} {S : sSt} (hk : shK B sh) :
    ∀ (k g : Nat) (fr : Nat → Bool) (mi : Nat) (x : Int32) (ch : Nat → Option Nat) (S0 : sSt), g + k = n → mk x fr → mi ≤ 9 → rK0 S0 sh n fit → S0 sh 5 = nI tot → (∀ j, j < g → S0 (sh + 3) j = oI (ch j)) → frH S S0 sh → WS B (fun _ => True) yX3_settle cX3_settle 5 none 13 27 [(4, .int (nI g)), (3, .int (nI mi)), (2, .int x), (0, .ref (s_ad B sh)), (1, .ref (s_ad B c))] [] S0 (fun v S1 => v = none ∧ S1 sh 5 = nI tot ∧ (∀ j, j < n → S1 (sh + 3) j = oI (setU fit n k g fr mi ch j)) ∧ frH S S1 sh) := by
  have hkk := hk
  obtain ⟨hk0, hk1, hk2, hk3⟩ := hk
  intro k
  induction k with
  | zero =>
    intro g fr mi x ch S0 hi hx hmi hK h5 hch hf
    refine x_iload dX3_settle_27 rfl ?_
    refine x_aload_n dX3_settle_29 rfl rfl ?_
    refine gX3_33 dX3_settle_30 rfl (by assumption) rfl ?_
    refine x_icmp_ge (tgt := 86) dX3_settle_33 (by decide) (fun c_33 => ?_) (fun c_33 => ?_)
    · refine x_return dX3_settle_86 rfl ?_
      exact ⟨rfl, h5, fun j hj => hch j (by omega), hf⟩
    · exact absurd (by have := hK.1; rw [hK.2.1, ← hi]; exact nI_le (by omega) (by omega)) c_33
  | succ k ih =>
    intro g fr mi x ch S0 hi hx hmi hK h5 hch hf
    have hn9 := hK.1
    refine x_iload dX3_settle_27 rfl ?_
    refine x_aload_n dX3_settle_29 rfl rfl ?_
    refine gX3_33 dX3_settle_30 rfl (by assumption) rfl ?_
    refine x_icmp_ge (tgt := 86) dX3_settle_33 (by decide) (fun c_33 => ?_) (fun c_33 => ?_)
    · exact absurd c_33 (by have := hK.1; rw [hK.2.1]; exact nI_ge (by omega) (by omega))
    · refine x_aload_n dX3_settle_36 rfl rfl ?_
      refine gX3_18 dX3_settle_37 rfl (by assumption) rfl ?_
      refine x_iload dX3_settle_40 rfl ?_
      refine x_aload_n dX3_settle_42 rfl rfl ?_
      refine x_iload dX3_settle_43 rfl ?_
      refine x_iload_n dX3_settle_45 rfl rfl ?_
      refine x_iload_n dX3_settle_46 rfl rfl ?_
      refine kX3_36r dX3_settle_47 rfl (by assumption) (c_lowestThatServes hkk hK hx (by omega) hmi) (by decide) (Nat.le_of_ble_eq_true rfl) (fun z S1 hq => ?_)
      obtain ⟨q1, q2⟩ := hq
      cases q1
      refine x_iastN (by assumption) dX3_settle_50 (by omega) (by decide) ?_
      refine x_gen (Pz := fun S' => rK0 S' sh n fit ∧ S' sh 5 = nI tot ∧ (∀ j, j < g + 1 → S' (sh + 3) j = oI (updO ch g (lowU fit n g fr mi n 0) j)) ∧ frH S S' sh) (by
        have hK1 := rK0_fr q2 hK
        refine ⟨⟨hK1.1, by rw [s_put_ne (by omega)]; exact hK1.2.1, fun g' hg' => by rw [s_put_ne (by omega)]; exact hK1.2.2 g' hg'⟩, by rw [s_put_ne (by omega), q2.2 5 (by decide)]; exact h5, fun j hj => ?_, frH_trans hf (fun a ha => by rw [s_put_ne (by omega)]; exact q2.1 a (by omega) (by omega))⟩
        rw [s_put_eq]
        unfold updO
        by_cases hjg : j = g
        · rw [if_pos hjg, if_pos hjg]
        · rw [if_neg hjg, if_neg hjg, q2.1 (sh + 3) (by omega) (by omega)]; exact hch j (by omega)) (fun S2 H2 => ?_)
      obtain ⟨hK2, h52, hch2, hf2⟩ := H2
      have ecg : S2 (sh + 3) g = oI (lowU fit n g fr mi n 0) := by rw [hch2 g (by omega)]; unfold updO; rw [if_pos rfl]
      refine x_aload_n dX3_settle_51 rfl rfl ?_
      refine gX3_18 dX3_settle_52 rfl (by assumption) rfl ?_
      refine x_iload dX3_settle_55 rfl ?_
      refine x_ialdN (by assumption) dX3_settle_57 (by omega) (by decide) ?_
      rw [ecg]
      refine x_bipush (v := (-4)) dX3_settle_58 (by decide) ?_
      refine x_icmp_eq (tgt := 80) dX3_settle_60 (by decide) (fun c_60 => ?_) (fun c_60 => ?_)
      · have hlow : lowU fit n g fr mi n 0 = none := (oI_eq4 (fun j h => by have := lowU_some h; omega)).mp c_60
        first | refine x_inc1N (lv' := [(4, _), (3, _), (2, _), (0, _), (1, _)]) dX3_settle_80 rfl (by decide) rfl ?_ | refine x_iinc (v := _ + 1) (lv' := [(4, _), (3, _), (2, _), (0, _), (1, _)]) dX3_settle_80 rfl rfl (by decide) rfl ?_
        refine x_goto (tgt := 27) dX3_settle_83 (by decide) ?_
        refine x_wk [0, 1, 2, 3, 4] rfl ?_
        first
        | (rw [show setU fit n (k + 1) g fr mi ch = setU fit n k (g + 1) fr mi (updO ch g none) from by rw [setU, hlow]]
           exact ih (g + 1) fr mi x _ S2 (by omega) hx hmi hK2 h52 (by rw [hlow] at hch2; exact hch2) hf2)
        | (rw [show setU fit n (k + 1) g fr mi ch = setU fit n k (g + 1) (updB fr s false) (mi - 1) (updO ch g (some s)) from by rw [setU, hlow]]
           exact ih (g + 1) _ (mi - 1) _ _ S2 (by omega) (mk_off hx (by omega)) (by omega) hK2 h52 (by rw [hlow] at hch2; exact hch2) hf2)
      · obtain ⟨s, hlow⟩ : ∃ s, lowU fit n g fr mi n 0 = some s := by
          cases h : lowU fit n g fr mi n 0 with
          | none => exact absurd (by rw [h]; rfl) c_60
          | some s => exact ⟨s, rfl⟩
        have hls := lowU_some hlow
        refine x_iload_n dX3_settle_63 rfl rfl ?_
        refine x_iconst (v := 1) dX3_settle_64 (by decide) ?_
        refine x_aload_n dX3_settle_65 rfl rfl ?_
        refine gX3_18 dX3_settle_66 rfl (by assumption) rfl ?_
        refine x_iload dX3_settle_69 rfl ?_
        refine x_ialdN (by assumption) dX3_settle_71 (by omega) (by decide) ?_
        rw [ecg, show oI (lowU fit n g fr mi n 0) = nI s from by rw [hlow]; rfl]
        refine x_ishl dX3_settle_72 ?_
        refine x_re (b := bt s) rfl ?_
        refine x_iconst (v := (-1)) dX3_settle_73 (by decide) ?_
        refine x_ixor dX3_settle_74 ?_
        refine x_iand dX3_settle_75 ?_
        refine x_istore_n (lv' := [(2, _), (4, _), (3, _), (0, _), (1, _)]) dX3_settle_76 rfl (by decide) rfl ?_
        refine x_iinc (v := nI (mi - 1)) (lv' := [(3, _), (2, _), (4, _), (0, _), (1, _)]) dX3_settle_77 rfl (by rw [show nI mi = nI (mi - 1 + 1) from by rw [show mi - 1 + 1 = mi by omega]]; exact pk_m1 (mi - 1)) (by decide) rfl ?_
        first | refine x_inc1N (lv' := [(4, _), (3, _), (2, _), (0, _), (1, _)]) dX3_settle_80 rfl (by decide) rfl ?_ | refine x_iinc (v := _ + 1) (lv' := [(4, _), (3, _), (2, _), (0, _), (1, _)]) dX3_settle_80 rfl rfl (by decide) rfl ?_
        refine x_goto (tgt := 27) dX3_settle_83 (by decide) ?_
        refine x_wk [0, 1, 2, 3, 4] rfl ?_
        first
        | (rw [show setU fit n (k + 1) g fr mi ch = setU fit n k (g + 1) fr mi (updO ch g none) from by rw [setU, hlow]]
           exact ih (g + 1) fr mi x _ S2 (by omega) hx hmi hK2 h52 (by rw [hlow] at hch2; exact hch2) hf2)
        | (rw [show setU fit n (k + 1) g fr mi ch = setU fit n k (g + 1) (updB fr s false) (mi - 1) (updO ch g (some s)) from by rw [setU, hlow]]
           exact ih (g + 1) _ (mi - 1) _ _ S2 (by omega) (mk_off hx (by omega)) (by omega) hK2 h52 (by rw [hlow] at hch2; exact hch2) hf2)

theorem mk_511 : mk 511 (fun _ => true) := by
  have h : ∀ s, s < 9 → (511 : Int32).toBitVec.getLsbD s = true := by decide
  exact h

set_option maxHeartbeats 1000000 in
set_option maxRecDepth 20000 in
theorem c_settle {B : sB} {S : sSt} {sh c pl : Nat} {P : aP} {r : aR} (hk : shK B sh) (hc : shB B c pl) (hp : shP B pl) (hP : rP S pl P) (hB : rB S c r) (hlt : c + 6 ≤ sh) (hlp : pl + 4 ≤ sh) : CS B yX3_settle cX3_settle 5 none 13 [.ref (s_ad B sh), .ref (s_ad B c)] S (fun v S1 => v = none ∧ S1 sh 5 = nI (shrT P r) ∧ (∀ j, j < P.1 → S1 (sh + 3) j = oI (shrC P r j)) ∧ frH S S1 sh) := by
  refine cs_intro (lv := [(0, .ref (s_ad B sh)), (1, .ref (s_ad B c))]) rfl ?_
  have hkk := hk
  have hn9 := hP.1
  obtain ⟨hk0, hk1, hk2, hk3⟩ := hk
  refine x_aload_n dX3_settle_0 rfl rfl ?_
  refine x_aload_n dX3_settle_1 rfl rfl ?_
  refine kX3_21r dX3_settle_2 rfl (by assumption) (c_findFitting hkk hc hp hP hB hlt hlp) (by decide) (Nat.le_of_ble_eq_true rfl) (fun S1 hq => ?_)
  obtain ⟨-, hK1, hf1⟩ := hq
  refine x_sipush (v := 511) dX3_settle_5 (by decide) ?_
  refine x_istore_n (lv' := [(2, _), (0, _), (1, _)]) dX3_settle_8 rfl (by decide) rfl ?_
  refine x_aload_n dX3_settle_9 rfl rfl ?_
  refine x_aload_n dX3_settle_10 rfl rfl ?_
  refine x_iconst (v := 0) dX3_settle_11 (by decide) ?_
  refine x_iload_n dX3_settle_12 rfl rfl ?_
  refine kX3_25r dX3_settle_13 rfl (by assumption) (c_mostFrom (f := 0) hkk hK1 mk_511 (Nat.zero_le _)) (by decide) (Nat.le_of_ble_eq_true rfl) (fun z S2 hq => ?_)
  obtain ⟨q1, q2⟩ := hq
  cases q1
  have hK2 := rK0_fr q2 hK1
  refine pX3_29 dX3_settle_16 rfl (by assumption) rfl ?_
  refine x_gen (Pz := fun S' => rK0 S' sh P.1 (fitF P r) ∧ S' sh 5 = nI (shrT P r) ∧ frH S S' sh) ⟨⟨hK2.1, by rw [s_put_eq, if_neg (by decide)]; exact hK2.2.1, fun g' hg' => by rw [s_put_ne (by omega)]; exact hK2.2.2 g' hg'⟩, by rw [s_put_eq, if_pos rfl]; rfl, frH_trans hf1 (frH_trans (frH_K q2) (fun a ha => s_put_ne (by omega)))⟩ (fun S3 H3 => ?_)
  obtain ⟨hK3, h53, hf3⟩ := H3
  refine x_aload_n dX3_settle_19 rfl rfl ?_
  refine gX3_29 dX3_settle_20 rfl (by assumption) rfl ?_
  rw [h53]
  refine x_istore_n (lv' := [(3, _), (2, _), (0, _), (1, _)]) dX3_settle_23 rfl (by decide) rfl ?_
  refine x_iconst (v := 0) dX3_settle_24 (by decide) ?_
  refine x_istore (lv' := [(4, _), (3, _), (2, _), (0, _), (1, _)]) dX3_settle_25 (by decide) rfl ?_
  exact l_settle hkk P.1 0 (fun _ => true) (shrT P r) 511 (fun _ => none) S3 (by omega) mk_511 (Nat.le_trans (mosF_le _ _ _ _) hn9) hK3 h53 (fun j h => absurd h (Nat.not_lt_zero j)) hf3
