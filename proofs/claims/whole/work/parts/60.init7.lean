/-! THE MODEL's first plan (wip/whole/w60.py) -/
set_option maxHeartbeats 1000000 in
set_option maxRecDepth 20000 in
theorem ct_init7 {B : sB} {E : State → Prop} {S : sSt} (hm : shM B) (h0 : ∀ a j, 102 ≤ a → a < 123 → S a j = 0) : WS B E yX7_init cX7_init 1 none 3 161 [(0, .ref (s_ad B 102))] [] S (fun v S1 => v = none ∧ RM S1 A0 ∧ frM S S1) := by
  obtain ⟨hm0, h103, h104, h105, h106, h107, h108, h109, h110, h111, h112, h113, h114, h115, h116, h117, h118, h119, h120, h121, h122⟩ := id hm
  refine x_aload_n dX7_init_161 rfl rfl ?_
  refine gX7_13 dX7_init_162 rfl (by assumption) rfl ?_
  refine x_iconst (v := 1) dX7_init_165 (by decide) ?_
  refine x_bipush (v := 6) dX7_init_166 (by decide) ?_
  refine x_iastN (j := 1) (by assumption) dX7_init_168 (by decide) (by decide) ?_
  refine x_aload_n dX7_init_169 rfl rfl ?_
  refine gX7_17 dX7_init_170 rfl (by assumption) rfl ?_
  refine x_iconst (v := 1) dX7_init_173 (by decide) ?_
  refine x_bipush (v := 18) dX7_init_174 (by decide) ?_
  refine x_iastN (j := 1) (by assumption) dX7_init_176 (by decide) (by decide) ?_
  refine x_aload_n dX7_init_177 rfl rfl ?_
  refine gX7_20 dX7_init_178 rfl (by assumption) rfl ?_
  refine x_iconst (v := 1) dX7_init_181 (by decide) ?_
  refine x_iconst (v := 3) dX7_init_182 (by decide) ?_
  refine x_iastN (j := 1) (by assumption) dX7_init_183 (by decide) (by decide) ?_
  refine x_aload_n dX7_init_184 rfl rfl ?_
  refine gX7_23 dX7_init_185 rfl (by assumption) rfl ?_
  refine x_iconst (v := 1) dX7_init_188 (by decide) ?_
  refine x_bipush (v := 8) dX7_init_189 (by decide) ?_
  refine x_iastN (j := 1) (by assumption) dX7_init_191 (by decide) (by decide) ?_
  refine x_aload_n dX7_init_192 rfl rfl ?_
  refine gX7_26 dX7_init_193 rfl (by assumption) rfl ?_
  refine x_iconst (v := 1) dX7_init_196 (by decide) ?_
  refine x_bipush (v := 12) dX7_init_197 (by decide) ?_
  refine x_iastN (j := 1) (by assumption) dX7_init_199 (by decide) (by decide) ?_
  refine x_aload_n dX7_init_200 rfl rfl ?_
  refine x_iconst (v := 0) dX7_init_201 (by decide) ?_
  refine x_iconst (v := 0) dX7_init_202 (by decide) ?_
  refine x_bipush (v := 40) dX7_init_203 (by decide) ?_
  refine x_bipush (v := 60) dX7_init_205 (by decide) ?_
  refine kX7_71 dX7_init_207 rfl (by assumption) (c_invite (g := 0) hm (by decide)) (by decide) (Nat.le_of_ble_eq_true rfl) ?_
  refine x_aload_n dX7_init_210 rfl rfl ?_
  refine x_iconst (v := 1) dX7_init_211 (by decide) ?_
  refine x_iconst (v := 0) dX7_init_212 (by decide) ?_
  refine x_bipush (v := 50) dX7_init_213 (by decide) ?_
  refine x_bipush (v := 80) dX7_init_215 (by decide) ?_
  refine kX7_71 dX7_init_217 rfl (by assumption) (c_invite (g := 1) hm (by decide)) (by decide) (Nat.le_of_ble_eq_true rfl) ?_
  refine x_aload_n dX7_init_220 rfl rfl ?_
  refine x_iconst (v := 2) dX7_init_221 (by decide) ?_
  refine x_iconst (v := 1) dX7_init_222 (by decide) ?_
  refine x_bipush (v := 20) dX7_init_223 (by decide) ?_
  refine x_bipush (v := 40) dX7_init_225 (by decide) ?_
  refine kX7_71 dX7_init_227 rfl (by assumption) (c_invite (g := 2) hm (by decide)) (by decide) (Nat.le_of_ble_eq_true rfl) ?_
  refine x_aload_n dX7_init_230 rfl rfl ?_
  refine x_iconst (v := 3) dX7_init_231 (by decide) ?_
  refine x_iconst (v := 2) dX7_init_232 (by decide) ?_
  refine x_bipush (v := 30) dX7_init_233 (by decide) ?_
  refine x_bipush (v := 60) dX7_init_235 (by decide) ?_
  refine kX7_71 dX7_init_237 rfl (by assumption) (c_invite (g := 3) hm (by decide)) (by decide) (Nat.le_of_ble_eq_true rfl) ?_
  refine x_aload_n dX7_init_240 rfl rfl ?_
  refine x_iconst (v := 4) dX7_init_241 (by decide) ?_
  refine x_iconst (v := 3) dX7_init_242 (by decide) ?_
  refine x_bipush (v := 60) dX7_init_243 (by decide) ?_
  refine x_bipush (v := 99) dX7_init_245 (by decide) ?_
  refine kX7_71 dX7_init_247 rfl (by assumption) (c_invite (g := 4) hm (by decide)) (by decide) (Nat.le_of_ble_eq_true rfl) ?_
  refine x_aload_n dX7_init_250 rfl rfl ?_
  refine x_iconst (v := 5) dX7_init_251 (by decide) ?_
  refine x_iconst (v := 0) dX7_init_252 (by decide) ?_
  refine x_bipush (v := 10) dX7_init_253 (by decide) ?_
  refine x_bipush (v := 45) dX7_init_255 (by decide) ?_
  refine kX7_71 dX7_init_257 rfl (by assumption) (c_invite (g := 5) hm (by decide)) (by decide) (Nat.le_of_ble_eq_true rfl) ?_
  generalize hS1 : s_put (s_put _ _ _ _) _ _ _ = S1
  have hF1 : frM S S1 := fun a ha => by rw [← hS1]; simp only [s_put_ne (show a ≠ 104 by omega), s_put_ne (show a ≠ 105 by omega), s_put_ne (show a ≠ 106 by omega), s_put_ne (show a ≠ 107 by omega), s_put_ne (show a ≠ 108 by omega), s_put_ne (show a ≠ 109 by omega), s_put_ne (show a ≠ 110 by omega), s_put_ne (show a ≠ 111 by omega)]
  have hT1 : tM S1 tS 0 := ⟨by decide, by rw [← hS1]; simp [s_put]; exact h0 102 1 (by decide) (by decide), fun i hi => absurd hi (Nat.not_lt_zero i)⟩
  have hD1 : dM S1 dF := by
    obtain ⟨v1, v2, v3, v4, v5⟩ := dF_v
    refine ⟨by rw [v1]; decide, by rw [v1, ← hS1]; simp [s_put]; rfl, by rw [v2, ← hS1]; simp [s_put], by rw [v3, ← hS1]; simp [s_put], by rw [v4, ← hS1]; simp [s_put], by rw [v5, ← hS1]; simp [s_put], fun i hi => ?_⟩
    rw [v1] at hi
    have hg := dF_g ⟨i, hi⟩
    rw [hg.1, hg.2.1, hg.2.2, ← hS1]
    rcases i with _ | _ | _ | _ | _ | _ | i <;> first | (exact ⟨rfl, rfl, rfl⟩) | omega
  refine x_aload_n dX7_init_260 rfl rfl ?_
  refine kX7_75r dX7_init_261 rfl (by assumption) (c_takeDraft hm hT1 hD1) (by decide) (Nat.le_of_ble_eq_true rfl) (fun S2 hq => ?_)
  obtain ⟨-, hM2, hF2⟩ := hq
  refine x_return dX7_init_264 rfl ?_
  exact ⟨rfl, hM2, frM_trans hF1 hF2⟩
