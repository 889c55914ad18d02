set_option maxHeartbeats 1000000 in
set_option maxRecDepth 20000 in
theorem l_findsOne {B : sB} {sh n : Nat} {fit : Nat → Nat → Bool} {S : sSt} {g dp e : Nat} (hk : shK B sh) (hg : g < n) (hrec : ∀ (g : Nat) (S0 : sSt) (st : aQ), g < n → rK S0 sh n fit st → CS B yX3_findsOne cX3_findsOne 6 (some .boolean) (e + 1) [.ref (s_ad B sh), .int (nI g), .int (nI (dp + 1))] S0 (fun v S1 => v = some (.int (bI ((fo fit n e g st).1 = true))) ∧ rK S1 sh n fit (fo fit n e g st).2 ∧ frK S0 S1 sh)) :
    ∀ (k s : Nat) (S0 : sSt) (st : aQ), s + k = n → rK S0 sh n fit st → frK S S0 sh → WS B (fun _ => True) yX3_findsOne cX3_findsOne 6 (some .boolean) (e + 2) 10 [(3, .int (nI s)), (0, .ref (s_ad B sh)), (1, .int (nI g)), (2, .int (nI dp))] [] S0 (fun v S1 => v = some (.int (bI ((foL fit (fo fit n e) k s g st).1 = true))) ∧ rK S1 sh n fit (foL fit (fo fit n e) k s g st).2 ∧ frK S S1 sh) := by
  obtain ⟨hk0, hk1, hk2, hk3⟩ := hk
  intro k
  induction k with
  | zero =>
    intro s S0 st hi hK hf
    refine x_iload_n dX3_findsOne_10 rfl rfl ?_
    refine x_aload_n dX3_findsOne_11 rfl rfl ?_
    refine gX3_33 dX3_findsOne_12 rfl (by assumption) rfl ?_
    refine x_icmp_ge (tgt := 98) dX3_findsOne_15 (by decide) (fun c_15 => ?_) (fun c_15 => ?_)
    · refine x_iconst (v := 0) dX3_findsOne_98 (by decide) ?_
      refine x_ireturn dX3_findsOne_99 rfl (by first | rfl | exact bI_nar _) ?_
      exact ⟨rfl, hK, hf⟩
    · exact absurd (by have := hK.1.1; rw [hK.1.2.1, ← hi]; exact nI_le (by omega) (by omega)) c_15
  | succ k ih =>
    intro s S0 st hi hK hf
    have hn9 := hK.1.1
    refine x_iload_n dX3_findsOne_10 rfl rfl ?_
    refine x_aload_n dX3_findsOne_11 rfl rfl ?_
    refine gX3_33 dX3_findsOne_12 rfl (by assumption) rfl ?_
    refine x_icmp_ge (tgt := 98) dX3_findsOne_15 (by decide) (fun c_15 => ?_) (fun c_15 => ?_)
    · exact absurd c_15 (by have := hK.1.1; rw [hK.1.2.1]; exact nI_ge (by omega) (by omega))
    · refine x_iconst (v := 1) dX3_findsOne_18 (by decide) ?_
      refine x_iload_n dX3_findsOne_19 rfl rfl ?_
      refine x_ishl dX3_findsOne_20 ?_
      refine x_re (b := bt s) rfl ?_
      refine x_istore (lv' := [(4, _), (3, _), (0, _), (1, _), (2, _)]) dX3_findsOne_21 (by decide) rfl ?_
      refine x_aload_n dX3_findsOne_23 rfl rfl ?_
      refine gX3_9 dX3_findsOne_24 rfl (by assumption) rfl ?_
      refine x_iload_n dX3_findsOne_27 rfl rfl ?_
      refine x_ialdN (by assumption) dX3_findsOne_28 (by omega) (by decide) ?_
      refine x_aload_n dX3_findsOne_29 rfl rfl ?_
      refine gX3_56 dX3_findsOne_30 rfl (by assumption) rfl ?_
      refine x_iconst (v := (-1)) dX3_findsOne_33 (by decide) ?_
      refine x_ixor dX3_findsOne_34 ?_
      refine x_iand dX3_findsOne_35 ?_
      refine x_iload dX3_findsOne_36 rfl ?_
      refine x_iand dX3_findsOne_38 ?_
      have htest := mk_test (mk_and (hK.1.2.2 g hg) (mk_not hK.2.1)) (s := s) (by omega)
      refine x_if_ne (tgt := 45) dX3_findsOne_39 (by decide) (fun c_39 => ?_) (fun c_39 => ?_)
      · have hsk : (fit g s && !(st.1 s)) = true := by
          cases hb : (fit g s && !(st.1 s)) with
          | true => rfl
          | false => exact absurd (htest.mpr hb) c_39
        refine x_aload_n dX3_findsOne_45 rfl rfl ?_
        refine x_dup dX3_findsOne_46 rfl ?_
        refine gX3_56 dX3_findsOne_47 rfl (by assumption) rfl ?_
        refine x_iload dX3_findsOne_50 rfl ?_
        refine x_ior dX3_findsOne_52 ?_
        refine pX3_56 dX3_findsOne_53 rfl (by assumption) rfl ?_
        refine x_gen (Pz := fun S' => rK S' sh n fit (updB st.1 s true, st.2) ∧ frK S0 S' sh) (by
          refine ⟨⟨⟨hK.1.1, by rw [s_put_eq, if_neg (by decide)]; exact hK.1.2.1, fun g' hg' => by rw [s_put_ne (by omega)]; exact hK.1.2.2 g' hg'⟩, by rw [s_put_eq, if_pos rfl]; exact mk_or hK.2.1 (by omega), fun j hj => by rw [s_put_ne (by omega)]; exact hK.2.2.1 j hj, hK.2.2.2⟩, ⟨fun a h1 h2 => s_put_ne h1, fun j hj => by rw [s_put_eq, if_neg hj]⟩⟩) (fun S1 H1 => ?_)
        obtain ⟨hK1, hf1⟩ := H1
        refine x_aload_n dX3_findsOne_56 rfl rfl ?_
        refine gX3_15 dX3_findsOne_57 rfl (by assumption) rfl ?_
        refine x_iload_n dX3_findsOne_60 rfl rfl ?_
        refine x_ialdN (by assumption) dX3_findsOne_61 (by omega) (by decide) ?_
        rw [hK1.2.2.1 s (by omega)]
        refine x_istore (lv' := [(5, _), (4, _), (3, _), (0, _), (1, _), (2, _)]) dX3_findsOne_62 (by decide) rfl ?_
        refine x_iload dX3_findsOne_64 rfl ?_
        refine x_bipush (v := (-4)) dX3_findsOne_66 (by decide) ?_
        refine x_icmp_eq (tgt := 83) dX3_findsOne_68 (by decide) (fun c_68 => ?_) (fun c_68 => ?_)
        · have htk : st.2 s = none := (oI_eq4 (fun g h => by have := hK.2.2.2 s g (by omega) h; omega)).mp c_68
          refine x_aload_n dX3_findsOne_83 rfl rfl ?_
          refine gX3_15 dX3_findsOne_84 rfl (by assumption) rfl ?_
          refine x_iload_n dX3_findsOne_87 rfl rfl ?_
          refine x_iload_n dX3_findsOne_88 rfl rfl ?_
          refine x_iastN (by assumption) dX3_findsOne_89 (by omega) (by decide) ?_
          refine x_iconst (v := 1) dX3_findsOne_90 (by decide) ?_
          refine x_ireturn dX3_findsOne_91 rfl (by first | rfl | exact bI_nar _) ?_
          first
          | (rw [foL, if_pos hsk, htk]
             refine ⟨rfl, ⟨rK0_fr (S := S1) ⟨fun a h1 h2 => s_put_ne h2, fun j hj => by rw [s_put_ne (by omega)]⟩ hK1.1, by rw [s_put_ne (by omega)]; exact hK1.2.1, fun j hj => ?_, fun j g' hj h => ?_⟩, frK_trans (frK_trans hf hf1) ⟨fun a h1 h2 => s_put_ne h2, fun j hj => by rw [s_put_ne (by omega)]⟩⟩
             · rw [s_put_eq]; show _ = oI (updO st.2 s (some g) j); unfold updO
               by_cases hjs : j = s
               · rw [if_pos hjs, if_pos hjs]; rfl
               · rw [if_neg hjs, if_neg hjs]; exact hK1.2.2.1 j hj
             · have h : updO st.2 s (some g) j = some g' := h
               unfold updO at h
               split at h
               · cases h; exact hg
               · exact hK1.2.2.2 j g' hj h)
          | (rw [show foL fit (fo fit n e) (k + 1) s g st = (true, (fo fit n e g2 (updB st.1 s true, st.2)).2.1, updO (fo fit n e g2 (updB st.1 s true, st.2)).2.2 s (some g)) from by rw [foL, if_pos hsk, htk]; simp only; rw [if_pos c_80]]
             refine ⟨rfl, ⟨rK0_fr (S := S2) ⟨fun a h1 h2 => s_put_ne h2, fun j hj => by rw [s_put_ne (by omega)]⟩ q2.1, by rw [s_put_ne (by omega)]; exact q2.2.1, fun j hj => ?_, fun j g' hj h => ?_⟩, frK_trans (frK_trans (frK_trans hf hf1) q3) ⟨fun a h1 h2 => s_put_ne h2, fun j hj => by rw [s_put_ne (by omega)]⟩⟩
             · rw [s_put_eq]; show _ = oI (updO _ s (some g) j); unfold updO
               by_cases hjs : j = s
               · rw [if_pos hjs, if_pos hjs]; rfl
               · rw [if_neg hjs, if_neg hjs]; exact q2.2.2.1 j hj
             · have h : updO _ s (some g) j = some g' := h
               unfold updO at h
               split at h
               · cases h; exact hg
               · exact q2.2.2.2 j g' hj h)
        · obtain ⟨g2, htk⟩ : ∃ g2, st.2 s = some g2 := by
            cases h : st.2 s with
            | none => exact absurd (by rw [h]; rfl) c_68
            | some g2 => exact ⟨g2, rfl⟩
          have hg2 := hK.2.2.2 s g2 (by omega) htk
          rw [show oI (st.2 s) = nI g2 from by rw [htk]; rfl]
          refine x_aload_n dX3_findsOne_71 rfl rfl ?_
          refine x_iload dX3_findsOne_72 rfl ?_
          refine x_iload_n dX3_findsOne_74 rfl rfl ?_
          refine x_iconst (v := 1) dX3_findsOne_75 (by decide) ?_
          refine x_iadd dX3_findsOne_76 ?_
          refine x_re (nI_1 dp) ?_
          refine kX3_59r dX3_findsOne_77 rfl (hrec g2 S1 _ hg2 hK1) (by omega) (Nat.le_of_ble_eq_true rfl) (fun z S2 hq => ?_)
          obtain ⟨q1, q2, q3⟩ := hq
          cases q1
          refine x_ifeq_b (tgt := 92) dX3_findsOne_80 (by decide) (fun c_80 => ?_) (fun c_80 => ?_)
          · first | refine x_inc1N (lv' := [(3, _), (5, _), (4, _), (0, _), (1, _), (2, _)]) dX3_findsOne_92 rfl (by decide) rfl ?_ | refine x_iinc (v := _ + 1) (lv' := [(3, _), (5, _), (4, _), (0, _), (1, _), (2, _)]) dX3_findsOne_92 rfl rfl (by decide) rfl ?_
            refine x_goto (tgt := 10) dX3_findsOne_95 (by decide) ?_
            refine x_wk [0, 3, 4, 5] rfl ?_
            first
            | (rw [foL, if_neg hsk]; exact ih (s + 1) S0 st (by omega) hK hf)
            | (rw [show foL fit (fo fit n e) (k + 1) s g st = foL fit (fo fit n e) k (s + 1) g (fo fit n e g2 (updB st.1 s true, st.2)).2 from by rw [foL, if_pos hsk, htk]; simp only; rw [if_neg c_80]]
               exact ih (s + 1) S2 _ (by omega) q2 (frK_trans (frK_trans hf hf1) q3))
          · refine x_aload_n dX3_findsOne_83 rfl rfl ?_
            refine gX3_15 dX3_findsOne_84 rfl (by assumption) rfl ?_
            refine x_iload_n dX3_findsOne_87 rfl rfl ?_
            refine x_iload_n dX3_findsOne_88 rfl rfl ?_
            refine x_iastN (by assumption) dX3_findsOne_89 (by omega) (by decide) ?_
            refine x_iconst (v := 1) dX3_findsOne_90 (by decide) ?_
            refine x_ireturn dX3_findsOne_91 rfl (by first | rfl | exact bI_nar _) ?_
            first
            | (rw [foL, if_pos hsk, htk]
               refine ⟨rfl, ⟨rK0_fr (S := S1) ⟨fun a h1 h2 => s_put_ne h2, fun j hj => by rw [s_put_ne (by omega)]⟩ hK1.1, by rw [s_put_ne (by omega)]; exact hK1.2.1, fun j hj => ?_, fun j g' hj h => ?_⟩, frK_trans (frK_trans hf hf1) ⟨fun a h1 h2 => s_put_ne h2, fun j hj => by rw [s_put_ne (by omega)]⟩⟩
               · rw [s_put_eq]; show _ = oI (updO st.2 s (some g) j); unfold updO
                 by_cases hjs : j = s
                 · rw [if_pos hjs, if_pos hjs]; rfl
                 · rw [if_neg hjs, if_neg hjs]; exact hK1.2.2.1 j hj
               · have h : updO st.2 s (some g) j = some g' := h
                 unfold updO at h
                 split at h
                 · cases h; exact hg
                 · exact hK1.2.2.2 j g' hj h)
            | (rw [show foL fit (fo fit n e) (k + 1) s g st = (true, (fo fit n e g2 (updB st.1 s true, st.2)).2.1, updO (fo fit n e g2 (updB st.1 s true, st.2)).2.2 s (some g)) from by rw [foL, if_pos hsk, htk]; simp only; rw [if_pos c_80]]
               refine ⟨rfl, ⟨rK0_fr (S := S2) ⟨fun a h1 h2 => s_put_ne h2, fun j hj => by rw [s_put_ne (by omega)]⟩ q2.1, by rw [s_put_ne (by omega)]; exact q2.2.1, fun j hj => ?_, fun j g' hj h => ?_⟩, frK_trans (frK_trans (frK_trans hf hf1) q3) ⟨fun a h1 h2 => s_put_ne h2, fun j hj => by rw [s_put_ne (by omega)]⟩⟩
               · rw [s_put_eq]; show _ = oI (updO _ s (some g) j); unfold updO
                 by_cases hjs : j = s
                 · rw [if_pos hjs, if_pos hjs]; rfl
                 · rw [if_neg hjs, if_neg hjs]; exact q2.2.2.1 j hj
               · have h : updO _ s (some g) j = some g' := h
                 unfold updO at h
                 split at h
                 · cases h; exact hg
                 · exact q2.2.2.2 j g' hj h)
      · have hsk : ¬ (fit g s && !(st.1 s)) = true := by rw [htest.mp c_39]; exact Bool.false_ne_true
        refine x_goto (tgt := 92) dX3_findsOne_42 (by decide) ?_
        first | refine x_inc1N (lv' := [(3, _), (4, _), (0, _), (1, _), (2, _)]) dX3_findsOne_92 rfl (by decide) rfl ?_ | refine x_iinc (v := _ + 1) (lv' := [(3, _), (4, _), (0, _), (1, _), (2, _)]) dX3_findsOne_92 rfl rfl (by decide) rfl ?_
        refine x_goto (tgt := 10) dX3_findsOne_95 (by decide) ?_
        refine x_wk [0, 2, 3, 4] rfl ?_
        first
        | (rw [foL, if_neg hsk]; exact ih (s + 1) S0 st (by omega) hK hf)
        | (rw [show foL fit (fo fit n e) (k + 1) s g st = foL fit (fo fit n e) k (s + 1) g (fo fit n e g2 (updB st.1 s true, st.2)).2 from by rw [foL, if_pos hsk, htk]; simp only; rw [if_neg c_80]]
           exact ih (s + 1) S2 _ (by omega) q2 (frK_trans (frK_trans hf hf1) q3))

set_option maxHeartbeats 1000000 in
set_option maxRecDepth 20000 in
theorem c_findsOne {B : sB} {sh n : Nat} {fit : Nat → Nat → Bool} (hk : shK B sh) : ∀ (e dp g : Nat) (S0 : sSt) (st : aQ), dp + e = 9 → g < n → rK S0 sh n fit st → CS B yX3_findsOne cX3_findsOne 6 (some .boolean) (e + 1) [.ref (s_ad B sh), .int (nI g), .int (nI dp)] S0 (fun v S1 => v = some (.int (bI ((fo fit n e g st).1 = true))) ∧ rK S1 sh n fit (fo fit n e g st).2 ∧ frK S0 S1 sh) := by
  have hkk := hk
  obtain ⟨hk0, hk1, hk2, hk3⟩ := hk
  intro e
  induction e with
  | zero =>
    intro dp g S0 st he hg hK
    refine cs_intro (lv := [(0, .ref (s_ad B sh)), (1, .int (nI g)), (2, .int (nI dp))]) rfl ?_
    refine x_iload_n dX3_findsOne_0 rfl rfl ?_
    refine x_bipush (v := 9) dX3_findsOne_1 (by decide) ?_
    refine x_icmp_lt (tgt := 8) dX3_findsOne_3 (by decide) (fun c_3 => ?_) (fun c_3 => ?_)
    · exact absurd c_3 (by rw [show dp = 9 by omega]; decide)
    · refine x_iconst (v := 0) dX3_findsOne_6 (by decide) ?_
      refine x_ireturn dX3_findsOne_7 rfl (by first | rfl | exact bI_nar _) ?_
      exact ⟨rfl, hK, frK_rfl⟩
  | succ e ih =>
    intro dp g S0 st he hg hK
    refine cs_intro (lv := [(0, .ref (s_ad B sh)), (1, .int (nI g)), (2, .int (nI dp))]) rfl ?_
    refine x_iload_n dX3_findsOne_0 rfl rfl ?_
    refine x_bipush (v := 9) dX3_findsOne_1 (by decide) ?_
    refine x_icmp_lt (tgt := 8) dX3_findsOne_3 (by decide) (fun c_3 => ?_) (fun c_3 => ?_)
    · refine x_iconst (v := 0) dX3_findsOne_8 (by decide) ?_
      refine x_istore_n (lv' := [(3, _), (0, _), (1, _), (2, _)]) dX3_findsOne_9 rfl (by decide) rfl ?_
      exact l_findsOne hkk hg (fun g2 S2 st2 hg2 hK2 => ih (dp + 1) g2 S2 st2 (by omega) hg2 hK2) n 0 S0 st (by omega) hK frK_rfl
    · exact absurd (nI_lt (b := 9) (by omega) (by decide)) c_3

set_option maxHeartbeats 1000000 in
set_option maxRecDepth 20000 in
theorem l_mostFrom2 {B : sB} {sh n : Nat} {fit : Nat → Nat → Bool} {S : sSt} {f : Nat} {fr : Nat → Bool} {x : Int32} (hk : shK B sh) (hx : mk x fr) :
    ∀ (k g q : Nat) (S0 : sSt) (tk : Nat → Option Nat), g + k = n → q + k ≤ 9 → rK0 S0 sh n fit → (∀ s, s < 9 → S0 (sh + 2) s = oI (tk s)) → (∀ s g, s < 9 → tk s = some g → g < n) → frK S S0 sh → WS B (fun _ => True) yX3_mostFrom cX3_mostFrom 5 (some .int) 11 27 [(4, .int (nI g)), (3, .int (nI q)), (0, .ref (s_ad B sh)), (1, .int (nI f)), (2, .int x)] [] S0 (fun v S1 => v = some (.int (nI (q + mfU fit n fr k g tk))) ∧ frK S S1 sh) := by
  have hkk := hk
  obtain ⟨hk0, hk1, hk2, hk3⟩ := hk
  intro k
  induction k with
  | zero =>
    intro g q S0 tk hi hq9 hK ht htn hf
    refine x_iload dX3_mostFrom_27 rfl ?_
    refine x_aload_n dX3_mostFrom_29 rfl rfl ?_
    refine gX3_33 dX3_mostFrom_30 rfl (by assumption) rfl ?_
    refine x_icmp_ge (tgt := 62) dX3_mostFrom_33 (by decide) (fun c_33 => ?_) (fun c_33 => ?_)
    · refine x_iload_n dX3_mostFrom_62 rfl rfl ?_
      refine x_ireturn dX3_mostFrom_63 rfl rfl ?_
      exact ⟨rfl, hf⟩
    · exact absurd (by have := hK.1; rw [hK.2.1, ← hi]; exact nI_le (by omega) (by omega)) c_33
  | succ k ih =>
    intro g q S0 tk hi hq9 hK ht htn hf
    refine x_iload dX3_mostFrom_27 rfl ?_
    refine x_aload_n dX3_mostFrom_29 rfl rfl ?_
    refine gX3_33 dX3_mostFrom_30 rfl (by assumption) rfl ?_
    refine x_icmp_ge (tgt := 62) dX3_mostFrom_33 (by decide) (fun c_33 => ?_) (fun c_33 => ?_)
    · exact absurd c_33 (by have := hK.1; rw [hK.2.1]; exact nI_ge (by omega) (by omega))
    · refine x_aload_n dX3_mostFrom_36 rfl rfl ?_
      refine x_iload_n dX3_mostFrom_37 rfl rfl ?_
      refine x_iconst (v := (-1)) dX3_mostFrom_38 (by decide) ?_
      refine x_ixor dX3_mostFrom_39 ?_
      refine pX3_56 dX3_mostFrom_40 rfl (by assumption) rfl ?_
      refine x_gen (Pz := fun S' => rK S' sh n fit ((fun s => !fr s), tk) ∧ frK S0 S' sh) (by
        refine ⟨⟨⟨hK.1, by rw [s_put_eq, if_neg (by decide)]; exact hK.2.1, fun g' hg' => by rw [s_put_ne (by omega)]; exact hK.2.2 g' hg'⟩, by rw [s_put_eq, if_pos rfl]; exact mk_not hx, fun j hj => by rw [s_put_ne (by omega)]; exact ht j hj, htn⟩, ⟨fun a h1 h2 => s_put_ne h1, fun j hj => by rw [s_put_eq, if_neg hj]⟩⟩) (fun S1 H1 => ?_)
      obtain ⟨hK1, hf1⟩ := H1
      refine x_aload_n dX3_mostFrom_43 rfl rfl ?_
      refine x_iload dX3_mostFrom_44 rfl ?_
      refine x_iconst (v := 0) dX3_mostFrom_46 (by decide) ?_
      refine kX3_59r dX3_mostFrom_47 rfl (c_findsOne hkk 9 0 g S1 _ (by omega) (by omega) hK1) (by decide) (Nat.le_of_ble_eq_true rfl) (fun z S2 hq => ?_)
      obtain ⟨q1, q2, q3⟩ := hq
      cases q1
      refine x_ifeq_b (tgt := 56) dX3_mostFrom_50 (by decide) (fun c_50 => ?_) (fun c_50 => ?_)
      · first | refine x_inc1N (lv' := [(4, _), (3, _), (0, _), (1, _), (2, _)]) dX3_mostFrom_56 rfl (by decide) rfl ?_ | refine x_iinc (v := _ + 1) (lv' := [(4, _), (3, _), (0, _), (1, _), (2, _)]) dX3_mostFrom_56 rfl rfl (by decide) rfl ?_
        refine x_goto (tgt := 27) dX3_mostFrom_59 (by decide) ?_
        refine x_wk [0, 1, 2, 3, 4] rfl ?_
        first
        | (rw [show q + mfU fit n fr (k + 1) g tk = q + mfU fit n fr k (g + 1) (fo fit n 9 g ((fun s => !fr s), tk)).2.2 from by rw [mfU, if_neg c_50]; omega]; exact ih (g + 1) q S2 _ (by omega) (by omega) q2.1 q2.2.2.1 q2.2.2.2 (frK_trans (frK_trans hf hf1) q3))
        | (rw [show q + mfU fit n fr (k + 1) g tk = (q + 1) + mfU fit n fr k (g + 1) (fo fit n 9 g ((fun s => !fr s), tk)).2.2 from by rw [mfU, if_pos c_50]; omega]; exact ih (g + 1) (q + 1) S2 _ (by omega) (by omega) q2.1 q2.2.2.1 q2.2.2.2 (frK_trans (frK_trans hf hf1) q3))
      · first | refine x_inc1N (lv' := [(3, _), (4, _), (0, _), (1, _), (2, _)]) dX3_mostFrom_53 rfl (by decide) rfl ?_ | refine x_iinc (v := _ + 1) (lv' := [(3, _), (4, _), (0, _), (1, _), (2, _)]) dX3_mostFrom_53 rfl rfl (by decide) rfl ?_
        first | refine x_inc1N (lv' := [(4, _), (3, _), (0, _), (1, _), (2, _)]) dX3_mostFrom_56 rfl (by decide) rfl ?_ | refine x_iinc (v := _ + 1) (lv' := [(4, _), (3, _), (0, _), (1, _), (2, _)]) dX3_mostFrom_56 rfl rfl (by decide) rfl ?_
        refine x_goto (tgt := 27) dX3_mostFrom_59 (by decide) ?_
        refine x_wk [0, 1, 2, 3, 4] rfl ?_
        first
        | (rw [show q + mfU fit n fr (k + 1) g tk = q + mfU fit n fr k (g + 1) (fo fit n 9 g ((fun s => !fr s), tk)).2.2 from by rw [mfU, if_neg c_50]; omega]; exact ih (g + 1) q S2 _ (by omega) (by omega) q2.1 q2.2.2.1 q2.2.2.2 (frK_trans (frK_trans hf hf1) q3))
        | (rw [show q + mfU fit n fr (k + 1) g tk = (q + 1) + mfU fit n fr k (g + 1) (fo fit n 9 g ((fun s => !fr s), tk)).2.2 from by rw [mfU, if_pos c_50]; omega]; exact ih (g + 1) (q + 1) S2 _ (by omega) (by omega) q2.1 q2.2.2.1 q2.2.2.2 (frK_trans (frK_trans hf hf1) q3))

set_option maxHeartbeats 1000000 in
set_option maxRecDepth 20000 in
theorem l_mostFrom1 {B : sB} {sh n : Nat} {fit : Nat → Nat → Bool} {S : sSt} {f : Nat} {fr : Nat → Bool} {x : Int32} (hk : shK B sh) (hx : mk x fr) (hfn : f ≤ n) :
    ∀ (k i : Nat) (S0 : sSt), i + k = 9 → rK0 S0 sh n fit → (∀ s, s < i → S0 (sh + 2) s = -4) → frK S S0 sh → WS B (fun _ => True) yX3_mostFrom cX3_mostFrom 5 (some .int) 11 2 [(3, .int (nI i)), (0, .ref (s_ad B sh)), (1, .int (nI f)), (2, .int x)] [] S0 (fun v S1 => v = some (.int (nI (mosF fit n fr f))) ∧ frK S S1 sh) := by
  have hkk := hk
  obtain ⟨hk0, hk1, hk2, hk3⟩ := hk
  intro k
  induction k with
  | zero =>
    intro i S0 hi hK ht hf
    refine x_iload_n dX3_mostFrom_2 rfl rfl ?_
    refine x_bipush (v := 9) dX3_mostFrom_3 (by decide) ?_
    refine x_icmp_ge (tgt := 22) dX3_mostFrom_5 (by decide) (fun c_5 => ?_) (fun c_5 => ?_)
    · refine x_iconst (v := 0) dX3_mostFrom_22 (by decide) ?_
      refine x_istore_n (lv' := [(3, _), (0, _), (1, _), (2, _)]) dX3_mostFrom_23 rfl (by decide) rfl ?_
      refine x_iload_n dX3_mostFrom_24 rfl rfl ?_
      refine x_istore (lv' := [(4, _), (3, _), (0, _), (1, _), (2, _)]) dX3_mostFrom_25 (by decide) rfl ?_
      have h := l_mostFrom2 (S := S) (f := f) hkk hx (n - f) f 0 S0 (fun _ => none) (by omega) (by have := hK.1; omega) hK (fun s hs => ht s (by omega)) (fun s g _ h => by cases h) hf
      rw [Nat.zero_add] at h
      exact h
    · exact absurd (by rw [show i = 9 by omega]; decide) c_5
  | succ k ih =>
    intro i S0 hi hK ht hf
    refine x_iload_n dX3_mostFrom_2 rfl rfl ?_
    refine x_bipush (v := 9) dX3_mostFrom_3 (by decide) ?_
    refine x_icmp_ge (tgt := 22) dX3_mostFrom_5 (by decide) (fun c_5 => ?_) (fun c_5 => ?_)
    · exact absurd c_5 (by exact nI_ge (b := 9) (by omega) (by decide))
    · refine x_aload_n dX3_mostFrom_8 rfl rfl ?_
      refine gX3_15 dX3_mostFrom_9 rfl (by assumption) rfl ?_
      refine x_iload_n dX3_mostFrom_12 rfl rfl ?_
      refine x_bipush (v := (-4)) dX3_mostFrom_13 (by decide) ?_
      first | refine x_iastN (by assumption) dX3_mostFrom_15 (by omega) (by decide) ?_ | refine x_iast (by assumption) dX3_mostFrom_15 (by assumption) ?_
      first | refine x_inc1N (lv' := [(3, _), (0, _), (1, _), (2, _)]) dX3_mostFrom_16 rfl (by decide) rfl ?_ | refine x_iinc (v := _ + 1) (lv' := [(3, _), (0, _), (1, _), (2, _)]) dX3_mostFrom_16 rfl rfl (by decide) rfl ?_
      refine x_goto (tgt := 2) dX3_mostFrom_19 (by decide) ?_
      exact ih (i + 1) _ (by omega) (rK0_fr (S := S0) ⟨fun a h1 h2 => s_put_ne h2, fun j hj => by rw [s_put_ne (by omega)]⟩ hK) (fun j hj => by
        rw [s_put_eq]
        by_cases hji : j = i
        · rw [if_pos hji]
        · rw [if_neg hji]; exact ht j (by omega)) (frK_trans hf ⟨fun a h1 h2 => s_put_ne h2, fun j hj => by rw [s_put_ne (by omega)]⟩)

set_option maxHeartbeats 1000000 in
set_option maxRecDepth 20000 in
theorem c_mostFrom {B : sB} {sh n : Nat} {fit : Nat → Nat → Bool} {S : sSt} {f : Nat} {fr : Nat → Bool} {x : Int32} (hk : shK B sh) (hK : rK0 S sh n fit) (hx : mk x fr) (hfn : f ≤ n) : CS B yX3_mostFrom cX3_mostFrom 5 (some .int) 11 [.ref (s_ad B sh), .int (nI f), .int x] S (fun v S1 => v = some (.int (nI (mosF fit n fr f))) ∧ frK S S1 sh) := by
  refine cs_intro (lv := [(0, .ref (s_ad B sh)), (1, .int (nI f)), (2, .int x)]) rfl ?_
  refine x_iconst (v := 0) dX3_mostFrom_0 (by decide) ?_
  refine x_istore_n (lv' := [(3, _), (0, _), (1, _), (2, _)]) dX3_mostFrom_1 rfl (by decide) rfl ?_
  exact l_mostFrom1 hk hx hfn 9 0 S (by omega) hK (fun s hs => absurd hs (Nat.not_lt_zero s)) frK_rfl

theorem mfU_le {fit : Nat → Nat → Bool} {n : Nat} {fr : Nat → Bool} : ∀ (k g : Nat) (tk : Nat → Option Nat), mfU fit n fr k g tk ≤ k := by
  intro k; induction k with
  | zero => intro g tk; exact Nat.le_refl 0
  | succ k ih => intro g tk; rw [mfU]; have := ih (g + 1) (fo fit n 9 g ((fun s => !fr s), tk)).2.2; split <;> omega
theorem mosF_le (fit : Nat → Nat → Bool) (n : Nat) (fr : Nat → Bool) (g : Nat) : mosF fit n fr g ≤ n := Nat.le_trans (mfU_le _ _ _) (Nat.sub_le _ _)

set_option maxHeartbeats 1000000 in
set_option maxRecDepth 20000 in
theorem l_lowestThatServes {B : sB} {sh n : Nat} {fit : Nat → Nat → Bool} {S : sSt} {g mi : Nat} {fr : Nat → Bool} {x : Int32} (hk : shK B sh) (hx : mk x fr) (hg : g < n) (hmi : mi ≤ 9) :
    ∀ (k s : Nat) (S0 : sSt), s + k = n → rK0 S0 sh n fit → frK S S0 sh → WS B (fun _ => True) yX3_lowestThatServes cX3_lowestThatServes 6 (some .int) 12 3 [(4, .int (nI s)), (0, .ref (s_ad B sh)), (1, .int (nI g)), (2, .int x), (3, .int (nI mi))] [] S0 (fun v S1 => v = some (.int (oI (lowU fit n g fr mi k s))) ∧ frK S S1 sh) := by
  have hkk := hk
  obtain ⟨hk0, hk1, hk2, hk3⟩ := hk
  intro k
  induction k with
  | zero =>
    intro s S0 hi hK hf
    refine x_iload dX3_lowestThatServes_3 rfl ?_
    refine x_aload_n dX3_lowestThatServes_5 rfl rfl ?_
    refine gX3_33 dX3_lowestThatServes_6 rfl (by assumption) rfl ?_
    refine x_icmp_ge (tgt := 60) dX3_lowestThatServes_9 (by decide) (fun c_9 => ?_) (fun c_9 => ?_)
    · refine x_bipush (v := (-4)) dX3_lowestThatServes_60 (by decide) ?_
      refine x_ireturn dX3_lowestThatServes_62 rfl rfl ?_
      exact ⟨rfl, hf⟩
    · exact absurd (by have := hK.1; rw [hK.2.1, ← hi]; exact nI_le (by omega) (by omega)) c_9
  | succ k ih =>
    intro s S0 hi hK hf
    have hn9 := hK.1
    refine x_iload dX3_lowestThatServes_3 rfl ?_
    refine x_aload_n dX3_lowestThatServes_5 rfl rfl ?_
    refine gX3_33 dX3_lowestThatServes_6 rfl (by assumption) rfl ?_
    refine x_icmp_ge (tgt := 60) dX3_lowestThatServes_9 (by decide) (fun c_9 => ?_) (fun c_9 => ?_)
    · exact absurd c_9 (by have := hK.1; rw [hK.2.1]; exact nI_ge (by omega) (by omega))
    · refine x_iconst (v := 1) dX3_lowestThatServes_12 (by decide) ?_
      refine x_iload dX3_lowestThatServes_13 rfl ?_
      refine x_ishl dX3_lowestThatServes_15 ?_
      refine x_re (b := bt s) rfl ?_
      refine x_istore (lv' := [(5, _), (4, _), (0, _), (1, _), (2, _), (3, _)]) dX3_lowestThatServes_16 (by decide) rfl ?_
      refine x_aload_n dX3_lowestThatServes_18 rfl rfl ?_
      refine gX3_9 dX3_lowestThatServes_19 rfl (by assumption) rfl ?_
      refine x_iload_n dX3_lowestThatServes_22 rfl rfl ?_
      refine x_ialdN (by assumption) dX3_lowestThatServes_23 (by omega) (by decide) ?_
      refine x_iload_n dX3_lowestThatServes_24 rfl rfl ?_
      refine x_iand dX3_lowestThatServes_25 ?_
      refine x_iload dX3_lowestThatServes_26 rfl ?_
      refine x_iand dX3_lowestThatServes_28 ?_
      have htest := mk_test (mk_and (hK.2.2 g hg) hx) (s := s) (by omega)
      refine x_if_eq (tgt := 54) dX3_lowestThatServes_29 (by decide) (fun c_29 => ?_) (fun c_29 => ?_)
      · have hsk : ¬ (fit g s && fr s) = true := by rw [htest.mp c_29]; exact Bool.false_ne_true
        first | refine x_inc1N (lv' := [(4, _), (5, _), (0, _), (1, _), (2, _), (3, _)]) dX3_lowestThatServes_54 rfl (by decide) rfl ?_ | refine x_iinc (v := _ + 1) (lv' := [(4, _), (5, _), (0, _), (1, _), (2, _), (3, _)]) dX3_lowestThatServes_54 rfl rfl (by decide) rfl ?_
        refine x_goto (tgt := 3) dX3_lowestThatServes_57 (by decide) ?_
        refine x_wk [0, 2, 3, 4, 5] rfl ?_
        first
        | (rw [lowU, if_neg (by rw [Bool.and_eq_true]; exact fun z => hsk z.1)]; exact ih (s + 1) S0 (by omega) hK hf)
        | (rw [lowU, if_neg (by rw [Bool.and_eq_true, beq_iff_eq]; exact fun z => hne z.2)]; exact ih (s + 1) S1 (by omega) (rK0_fr q2 hK) (frK_trans hf q2))
      · have hsk : (fit g s && fr s) = true := by
          cases hb : (fit g s && fr s) with
          | true => rfl
          | false => exact absurd (htest.mpr hb) c_29
        refine x_iconst (v := 1) dX3_lowestThatServes_32 (by decide) ?_
        refine x_aload_n dX3_lowestThatServes_33 rfl rfl ?_
        refine x_iload_n dX3_lowestThatServes_34 rfl rfl ?_
        refine x_iconst (v := 1) dX3_lowestThatServes_35 (by decide) ?_
        refine x_iadd dX3_lowestThatServes_36 ?_
        refine x_re (nI_1 g) ?_
        refine x_iload_n dX3_lowestThatServes_37 rfl rfl ?_
        refine x_iload dX3_lowestThatServes_38 rfl ?_
        refine x_iconst (v := (-1)) dX3_lowestThatServes_40 (by decide) ?_
        refine x_ixor dX3_lowestThatServes_41 ?_
        refine x_iand dX3_lowestThatServes_42 ?_
        refine kX3_25r dX3_lowestThatServes_43 rfl (by assumption) (c_mostFrom hkk hK (mk_off hx (by omega)) (by omega)) (by decide) (Nat.le_of_ble_eq_true rfl) (fun z S1 hq => ?_)
        obtain ⟨q1, q2⟩ := hq
        cases q1
        refine x_iadd dX3_lowestThatServes_46 ?_
        refine x_re (b := nI (1 + mosF fit n (updB fr s false) (g + 1))) (nI_add 1 _) ?_
        refine x_iload_n dX3_lowestThatServes_47 rfl rfl ?_
        have hmo := mosF_le fit n (updB fr s false) (g + 1)
        refine x_icmp_ne (tgt := 54) dX3_lowestThatServes_48 (by decide) (fun c_48 => ?_) (fun c_48 => ?_)
        · have hne : ¬ 1 + mosF fit n (updB fr s false) (g + 1) = mi := fun h => c_48 (by rw [h])
          first | refine x_inc1N (lv' := [(4, _), (5, _), (0, _), (1, _), (2, _), (3, _)]) dX3_lowestThatServes_54 rfl (by decide) rfl ?_ | refine x_iinc (v := _ + 1) (lv' := [(4, _), (5, _), (0, _), (1, _), (2, _), (3, _)]) dX3_lowestThatServes_54 rfl rfl (by decide) rfl ?_
          refine x_goto (tgt := 3) dX3_lowestThatServes_57 (by decide) ?_
          refine x_wk [0, 2, 3, 4, 5] rfl ?_
          first
          | (rw [lowU, if_neg (by rw [Bool.and_eq_true]; exact fun z => hsk z.1)]; exact ih (s + 1) S0 (by omega) hK hf)
          | (rw [lowU, if_neg (by rw [Bool.and_eq_true, beq_iff_eq]; exact fun z => hne z.2)]; exact ih (s + 1) S1 (by omega) (rK0_fr q2 hK) (frK_trans hf q2))
        · have heq : 1 + mosF fit n (updB fr s false) (g + 1) = mi := (nI_eq (by omega) (by omega)).mp c_48
          refine x_iload dX3_lowestThatServes_51 rfl ?_
          refine x_ireturn dX3_lowestThatServes_53 rfl rfl ?_
          rw [lowU, if_pos (by rw [Bool.and_eq_true, beq_iff_eq]; exact ⟨hsk, heq⟩)]
          exact ⟨rfl, frK_trans hf q2⟩

set_option maxHeartbeats 1000000 in
set_option maxRecDepth 20000 in
theorem c_lowestThatServes {B : sB} {sh n : Nat} {fit : Nat → Nat → Bool} {S : sSt} {g mi : Nat} {fr : Nat → Bool} {x : Int32} (hk : shK B sh) (hK : rK0 S sh n fit) (hx : mk x fr) (hg : g < n) (hmi : mi ≤ 9) : CS B yX3_lowestThatServes cX3_lowestThatServes 6 (some .int) 12 [.ref (s_ad B sh), .int (nI g), .int x, .int (nI mi)] S (fun v S1 => v = some (.int (oI (lowU fit n g fr mi n 0))) ∧ frK S S1 sh) := by
  refine cs_intro (lv := [(0, .ref (s_ad B sh)), (1, .int (nI g)), (2, .int x), (3, .int (nI mi))]) rfl ?_
  refine x_iconst (v := 0) dX3_lowestThatServes_0 (by decide) ?_
  refine x_istore (lv' := [(4, _), (0, _), (1, _), (2, _), (3, _)]) dX3_lowestThatServes_1 (by decide) rfl ?_
  exact l_lowestThatServes hk hx hg hmi n 0 S (by omega) hK frK_rfl
