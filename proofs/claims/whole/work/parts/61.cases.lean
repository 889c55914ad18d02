/-! THE LAW: its calls, one by one (wip/whole/w61.py) -/
def sEl (A : Nat → Prop) (b L : Nat) (xs : Nat → Int32) (U : State) : Prop := va_X b L xs U U.heap ∧ b < U.heap.size ∧ ¬ A b
section XS
variable {B : sB} {b L : Nat} {xs : Nat → Int32} {y : MethodName} {cc : ByteArray} {mL : Nat} {rt : Option FieldType} {d pc : Nat} {lv : List (Nat × Value)} {st : List Value} {S : sSt} {Q : Option Value → sSt → Prop}
theorem x_sld {j : Nat} (hj : j < L) (hL : L ≤ 320) (hd : decode cc pc = .ok (.iaload, 1)) (k : WS B (sEl B.2.2 b L xs) y cc mL rt d (pc + 1) lv (.int (xs j) :: st) S Q) : WS B (sEl B.2.2 b L xs) y cc mL rt d pc lv (.int (nI j) :: .ref b :: st) S Q := by
  intro p l e R s m args below meth c C H locs cells slots ls QQ hP hS hl hc fin
  have hE := C.2.2.2.2.2.2.2.2.2.2.2
  refine va_sld C.1 C.2.1 hE.1 hE.2.1 hE.2.2 hS (vp_in_nI hj (by omega)) hd ?_
  rw [nI_clamp (by omega)]
  exact k p l e R s m args below meth c C H locs cells slots ls QQ hP hS hl hc fin
theorem x_slen (hd : decode cc pc = .ok (.arraylength, 1)) (k : WS B (sEl B.2.2 b L xs) y cc mL rt d (pc + 1) lv (.int (nI L) :: st) S Q) : WS B (sEl B.2.2 b L xs) y cc mL rt d pc lv (.ref b :: st) S Q := by
  intro p l e R s m args below meth c C H locs cells slots ls QQ hP hS hl hc fin
  have hE := C.2.2.2.2.2.2.2.2.2.2.2
  exact va_slen C.1 C.2.1 hE.1 hE.2.1 hE.2.2 hS hd (k p l e R s m args below meth c C H locs cells slots ls QQ hP hS hl hc fin)
end XS
theorem RX_fr {S S1 : sSt} {A : aA} (h : frM S S1) (hX : RX S A) : RX S1 A := by
  obtain ⟨a1, a2, a3, a4, a5, a6⟩ := hX
  exact ⟨rT_ag (by rw [h 1 (by omega)]) (h 2 (by omega)) a1, rP_ag (fun a x y => h a (by omega)) a2, rB_fr (fun a x y => h a (by omega)) a3, rA_ag (fun a x y => h a (by omega)) a4, rE_ag (fun a x y => h a (by omega)) (h 0 (by omega)) a5, rF_ag (fun a x y => h a (by omega)) a6⟩
theorem RM_fr {S S1 : sSt} {A : aA} (h : frX S S1) (hX : RM S A) : RM S1 A := by
  obtain ⟨a1, a2, a3, a4, a5, a6⟩ := hX
  exact ⟨tM_ag (by rw [h 102 (by omega)]) (h 103 (by omega)) a1, pM_ag (fun b x y => h b (by omega)) a2, by rw [h 113 (by omega)]; exact a3, aM_ag (by rw [h 102 (by omega)]) (h 115 (by omega)) a4, eM_ag (by rw [h 102 (by omega)]) (h 116 (by omega)) a5, fM_ag (by rw [h 102 (by omega)]) (fun a x y => h a (by omega)) a6⟩
theorem lw_cmp {L i : Nat} (hL : L ≤ 320) (hi : i ≤ 320) : nI L - 5 < nI i ↔ L < i + 5 := by
  rcases Nat.lt_or_ge L 5 with h | h
  · refine ⟨fun _ => by omega, fun _ => ?_⟩
    rw [Int32.lt_iff_toInt_lt, nI_toInt (by omega)]
    have : (nI L - 5).toInt < 0 := by
      rcases L with _ | _ | _ | _ | _ | L <;> first | decide | omega
    omega
  · obtain ⟨k, rfl⟩ : ∃ k, L = k + 5 := ⟨L - 5, by omega⟩
    rw [show nI (k + 5) - 5 = nI k from by rw [← nI_add k 5]; exact Int32.add_sub_cancel _ _, nI_ltI (by omega) (by omega)]
    omega
set_option maxHeartbeats 1000000 in
set_option maxRecDepth 20000 in
theorem lc_0 {B : sB} {b L i : Nat} {xs : Nat → Int32} {S : sSt} {A : aA} {Q : Option Value → sSt → Prop} (hx : shX B) (hm : shM B) (hL : L ≤ 320) (hX : RX S A) (hM : RM S A) (hI : iA A) (hi : i + 5 ≤ L) (hk : ∀ (S1 : sSt) (A1 : aA), RX S1 A1 → RM S1 A1 → iA A1 → WS B (sEl B.2.2 b L xs) yL_law cL_law 4 (some .boolean) 16 854 [(3, .int (nI i)), (2, .ref (s_ad B 102)), (1, .ref (s_ad B 0)), (0, .ref b)] [] S1 Q) : WS B (sEl B.2.2 b L xs) yL_law cL_law 4 (some .boolean) 16 160 [(3, .int (nI i)), (2, .ref (s_ad B 102)), (1, .ref (s_ad B 0)), (0, .ref b)] [] S Q := by
  obtain ⟨⟨Lt, t⟩, P, r, acts, kept, f⟩ := A
  refine x_aload_n dL_law_160 rfl rfl ?_
  refine x_aload_n dL_law_161 rfl rfl ?_
  refine x_iload_n dL_law_162 rfl rfl ?_
  refine x_iconst (v := 1) dL_law_163 (by decide) ?_
  refine x_iadd dL_law_164 ?_
  refine x_re (nI_add i 1) ?_
  refine x_sld (show i + 1 < L by omega) hL dL_law_165 ?_
  refine kL_13r dL_law_166 rfl hx.1 (cX_write hx hX) (by decide) (Nat.le_of_ble_eq_true rfl) (fun v1 S1 hq1 => ?_)
  obtain ⟨q1, hX1, hF1⟩ := hq1
  have hM1 := RM_fr hF1 hM
  refine x_aload_n dL_law_169 rfl rfl ?_
  refine x_aload_n dL_law_170 rfl rfl ?_
  refine x_iload_n dL_law_171 rfl rfl ?_
  refine x_iconst (v := 1) dL_law_172 (by decide) ?_
  refine x_iadd dL_law_173 ?_
  refine x_re (nI_add i 1) ?_
  refine x_sld (show i + 1 < L by omega) hL dL_law_174 ?_
  refine kL_17r dL_law_175 rfl hm.1 (cM_write hm hM1) (by decide) (Nat.le_of_ble_eq_true rfl) (fun v2 S2 hq2 => ?_)
  obtain ⟨q2, hM2, hF2⟩ := hq2
  have hX2 := RX_fr hF2 hX1
  have hI2 : iA (o_write ((Lt, t), P, r, acts, kept, f) (xs (i + 1))).2 := i_write hI
  refine x_icmp_eq (tgt := 854) dL_law_178 (by decide) (fun c_178 => ?_) (fun c_178 => ?_)
  · exact hk _ _ hX2 hM2 hI2
  · exact absurd (by rw [Option.some.inj q1 |> Value.int.inj, Option.some.inj q2 |> Value.int.inj]) c_178

set_option maxHeartbeats 1000000 in
set_option maxRecDepth 20000 in
theorem lc_1 {B : sB} {b L i : Nat} {xs : Nat → Int32} {S : sSt} {A : aA} {Q : Option Value → sSt → Prop} (hx : shX B) (hm : shM B) (hL : L ≤ 320) (hX : RX S A) (hM : RM S A) (hI : iA A) (hi : i + 5 ≤ L) (hk : ∀ (S1 : sSt) (A1 : aA), RX S1 A1 → RM S1 A1 → iA A1 → WS B (sEl B.2.2 b L xs) yL_law cL_law 4 (some .boolean) 16 854 [(3, .int (nI i)), (2, .ref (s_ad B 102)), (1, .ref (s_ad B 0)), (0, .ref b)] [] S1 Q) : WS B (sEl B.2.2 b L xs) yL_law cL_law 4 (some .boolean) 16 183 [(3, .int (nI i)), (2, .ref (s_ad B 102)), (1, .ref (s_ad B 0)), (0, .ref b)] [] S Q := by
  obtain ⟨⟨Lt, t⟩, P, r, acts, kept, f⟩ := A
  refine x_aload_n dL_law_183 rfl rfl ?_
  refine kL_18r dL_law_184 rfl hx.1 (cX_wipe hx hX) (by decide) (Nat.le_of_ble_eq_true rfl) (fun v1 S1 hq1 => ?_)
  obtain ⟨q1, hX1, hF1⟩ := hq1
  have hM1 := RM_fr hF1 hM
  refine x_aload_n dL_law_187 rfl rfl ?_
  refine kL_22r dL_law_188 rfl hm.1 (cM_wipe hm hM1) (by decide) (Nat.le_of_ble_eq_true rfl) (fun v2 S2 hq2 => ?_)
  obtain ⟨q2, hM2, hF2⟩ := hq2
  have hX2 := RX_fr hF2 hX1
  have hI2 : iA (o_wipe ((Lt, t), P, r, acts, kept, f)).2 := i_wipe hI
  refine x_icmp_eq (tgt := 854) dL_law_191 (by decide) (fun c_191 => ?_) (fun c_191 => ?_)
  · exact hk _ _ hX2 hM2 hI2
  · exact absurd (by rw [Option.some.inj q1 |> Value.int.inj, Option.some.inj q2 |> Value.int.inj]) c_191

set_option maxHeartbeats 1000000 in
set_option maxRecDepth 20000 in
theorem lc_2 {B : sB} {b L i : Nat} {xs : Nat → Int32} {S : sSt} {A : aA} {Q : Option Value → sSt → Prop} (hx : shX B) (hm : shM B) (hL : L ≤ 320) (hX : RX S A) (hM : RM S A) (hI : iA A) (hi : i + 5 ≤ L) (hk : ∀ (S1 : sSt) (A1 : aA), RX S1 A1 → RM S1 A1 → iA A1 → WS B (sEl B.2.2 b L xs) yL_law cL_law 4 (some .boolean) 16 854 [(3, .int (nI i)), (2, .ref (s_ad B 102)), (1, .ref (s_ad B 0)), (0, .ref b)] [] S1 Q) : WS B (sEl B.2.2 b L xs) yL_law cL_law 4 (some .boolean) 16 196 [(3, .int (nI i)), (2, .ref (s_ad B 102)), (1, .ref (s_ad B 0)), (0, .ref b)] [] S Q := by
  obtain ⟨⟨Lt, t⟩, P, r, acts, kept, f⟩ := A
  refine x_aload_n dL_law_196 rfl rfl ?_
  refine kL_23r dL_law_197 rfl hx.1 (cX_fault hx hX) (by decide) (Nat.le_of_ble_eq_true rfl) (fun v1 S1 hq1 => ?_)
  obtain ⟨q1, hX1, hF1⟩ := hq1
  have hM1 := RM_fr hF1 hM
  refine x_aload_n dL_law_200 rfl rfl ?_
  refine kL_26r dL_law_201 rfl hm.1 (cM_fault hm hM1) (by decide) (Nat.le_of_ble_eq_true rfl) (fun v2 S2 hq2 => ?_)
  obtain ⟨q2, hM2, hF2⟩ := hq2
  have hX2 := RX_fr hF2 hX1
  have hI2 : iA (o_fault ((Lt, t), P, r, acts, kept, f)).2 := i_fault hI
  refine x_icmp_eq (tgt := 854) dL_law_204 (by decide) (fun c_204 => ?_) (fun c_204 => ?_)
  · exact hk _ _ hX2 hM2 hI2
  · exact absurd (by rw [Option.some.inj q1 |> Value.int.inj, Option.some.inj q2 |> Value.int.inj]) c_204

set_option maxHeartbeats 1000000 in
set_option maxRecDepth 20000 in
theorem lc_3 {B : sB} {b L i : Nat} {xs : Nat → Int32} {S : sSt} {A : aA} {Q : Option Value → sSt → Prop} (hx : shX B) (hm : shM B) (hL : L ≤ 320) (hX : RX S A) (hM : RM S A) (hI : iA A) (hi : i + 5 ≤ L) (hk : ∀ (S1 : sSt) (A1 : aA), RX S1 A1 → RM S1 A1 → iA A1 → WS B (sEl B.2.2 b L xs) yL_law cL_law 4 (some .boolean) 16 854 [(3, .int (nI i)), (2, .ref (s_ad B 102)), (1, .ref (s_ad B 0)), (0, .ref b)] [] S1 Q) : WS B (sEl B.2.2 b L xs) yL_law cL_law 4 (some .boolean) 16 209 [(3, .int (nI i)), (2, .ref (s_ad B 102)), (1, .ref (s_ad B 0)), (0, .ref b)] [] S Q := by
  obtain ⟨⟨Lt, t⟩, P, r, acts, kept, f⟩ := A
  refine x_aload_n dL_law_209 rfl rfl ?_
  refine kL_27r dL_law_210 rfl hx.1 (cX_lay hx hX) (by decide) (Nat.le_of_ble_eq_true rfl) (fun v1 S1 hq1 => ?_)
  obtain ⟨q1, hX1, hF1⟩ := hq1
  have hM1 := RM_fr hF1 hM
  refine x_aload_n dL_law_213 rfl rfl ?_
  refine kL_30r dL_law_214 rfl hm.1 (cM_lay hm hM1) (by decide) (Nat.le_of_ble_eq_true rfl) (fun v2 S2 hq2 => ?_)
  obtain ⟨q2, hM2, hF2⟩ := hq2
  have hX2 := RX_fr hF2 hX1
  have hI2 : iA (o_lay ((Lt, t), P, r, acts, kept, f)).2 := i_lay hI
  refine x_icmp_eq (tgt := 854) dL_law_217 (by decide) (fun c_217 => ?_) (fun c_217 => ?_)
  · exact hk _ _ hX2 hM2 hI2
  · exact absurd (by rw [Option.some.inj q1 |> Value.int.inj, Option.some.inj q2 |> Value.int.inj]) c_217

set_option maxHeartbeats 1000000 in
set_option maxRecDepth 20000 in
theorem lc_4 {B : sB} {b L i : Nat} {xs : Nat → Int32} {S : sSt} {A : aA} {Q : Option Value → sSt → Prop} (hx : shX B) (hm : shM B) (hL : L ≤ 320) (hX : RX S A) (hM : RM S A) (hI : iA A) (hi : i + 5 ≤ L) (hk : ∀ (S1 : sSt) (A1 : aA), RX S1 A1 → RM S1 A1 → iA A1 → WS B (sEl B.2.2 b L xs) yL_law cL_law 4 (some .boolean) 16 854 [(3, .int (nI i)), (2, .ref (s_ad B 102)), (1, .ref (s_ad B 0)), (0, .ref b)] [] S1 Q) : WS B (sEl B.2.2 b L xs) yL_law cL_law 4 (some .boolean) 16 222 [(3, .int (nI i)), (2, .ref (s_ad B 102)), (1, .ref (s_ad B 0)), (0, .ref b)] [] S Q := by
  obtain ⟨⟨Lt, t⟩, P, r, acts, kept, f⟩ := A
  refine x_aload_n dL_law_222 rfl rfl ?_
  refine x_aload_n dL_law_223 rfl rfl ?_
  refine x_iload_n dL_law_224 rfl rfl ?_
  refine x_iconst (v := 1) dL_law_225 (by decide) ?_
  refine x_iadd dL_law_226 ?_
  refine x_re (nI_add i 1) ?_
  refine x_sld (show i + 1 < L by omega) hL dL_law_227 ?_
  refine x_aload_n dL_law_228 rfl rfl ?_
  refine x_iload_n dL_law_229 rfl rfl ?_
  refine x_iconst (v := 2) dL_law_230 (by decide) ?_
  refine x_iadd dL_law_231 ?_
  refine x_re (nI_add i 2) ?_
  refine x_sld (show i + 2 < L by omega) hL dL_law_232 ?_
  refine kL_31r dL_law_233 rfl hx.1 (cX_guest hx hX hI.1.1) (by decide) (Nat.le_of_ble_eq_true rfl) (fun v1 S1 hq1 => ?_)
  obtain ⟨q1, hX1, hF1⟩ := hq1
  have hM1 := RM_fr hF1 hM
  refine x_aload_n dL_law_236 rfl rfl ?_
  refine x_aload_n dL_law_237 rfl rfl ?_
  refine x_iload_n dL_law_238 rfl rfl ?_
  refine x_iconst (v := 1) dL_law_239 (by decide) ?_
  refine x_iadd dL_law_240 ?_
  refine x_re (nI_add i 1) ?_
  refine x_sld (show i + 1 < L by omega) hL dL_law_241 ?_
  refine x_aload_n dL_law_242 rfl rfl ?_
  refine x_iload_n dL_law_243 rfl rfl ?_
  refine x_iconst (v := 2) dL_law_244 (by decide) ?_
  refine x_iadd dL_law_245 ?_
  refine x_re (nI_add i 2) ?_
  refine x_sld (show i + 2 < L by omega) hL dL_law_246 ?_
  refine kL_35r dL_law_247 rfl hm.1 (cM_guest hm hM1 hI) (by decide) (Nat.le_of_ble_eq_true rfl) (fun v2 S2 hq2 => ?_)
  obtain ⟨q2, hM2, hF2⟩ := hq2
  have hX2 := RX_fr hF2 hX1
  have hI2 : iA (o_guest ((Lt, t), P, r, acts, kept, f) (xs (i + 1)) (xs (i + 2))).2 := i_guest hI
  refine x_icmp_eq (tgt := 854) dL_law_250 (by decide) (fun c_250 => ?_) (fun c_250 => ?_)
  · exact hk _ _ hX2 hM2 hI2
  · exact absurd (by rw [Option.some.inj q1 |> Value.int.inj, Option.some.inj q2 |> Value.int.inj]) c_250

set_option maxHeartbeats 1000000 in
set_option maxRecDepth 20000 in
theorem lc_5 {B : sB} {b L i : Nat} {xs : Nat → Int32} {S : sSt} {A : aA} {Q : Option Value → sSt → Prop} (hx : shX B) (hm : shM B) (hL : L ≤ 320) (hX : RX S A) (hM : RM S A) (hI : iA A) (hi : i + 5 ≤ L) (hk : ∀ (S1 : sSt) (A1 : aA), RX S1 A1 → RM S1 A1 → iA A1 → WS B (sEl B.2.2 b L xs) yL_law cL_law 4 (some .boolean) 16 854 [(3, .int (nI i)), (2, .ref (s_ad B 102)), (1, .ref (s_ad B 0)), (0, .ref b)] [] S1 Q) : WS B (sEl B.2.2 b L xs) yL_law cL_law 4 (some .boolean) 16 255 [(3, .int (nI i)), (2, .ref (s_ad B 102)), (1, .ref (s_ad B 0)), (0, .ref b)] [] S Q := by
  obtain ⟨⟨Lt, t⟩, P, r, acts, kept, f⟩ := A
  refine x_aload_n dL_law_255 rfl rfl ?_
  refine x_aload_n dL_law_256 rfl rfl ?_
  refine x_iload_n dL_law_257 rfl rfl ?_
  refine x_iconst (v := 1) dL_law_258 (by decide) ?_
  refine x_iadd dL_law_259 ?_
  refine x_re (nI_add i 1) ?_
  refine x_sld (show i + 1 < L by omega) hL dL_law_260 ?_
  refine x_aload_n dL_law_261 rfl rfl ?_
  refine x_iload_n dL_law_262 rfl rfl ?_
  refine x_iconst (v := 2) dL_law_263 (by decide) ?_
  refine x_iadd dL_law_264 ?_
  refine x_re (nI_add i 2) ?_
  refine x_sld (show i + 2 < L by omega) hL dL_law_265 ?_
  refine kL_36r dL_law_266 rfl hx.1 (cX_slice hx hX hI.1.1) (by decide) (Nat.le_of_ble_eq_true rfl) (fun v1 S1 hq1 => ?_)
  obtain ⟨q1, hX1, hF1⟩ := hq1
  have hM1 := RM_fr hF1 hM
  refine x_aload_n dL_law_269 rfl rfl ?_
  refine x_aload_n dL_law_270 rfl rfl ?_
  refine x_iload_n dL_law_271 rfl rfl ?_
  refine x_iconst (v := 1) dL_law_272 (by decide) ?_
  refine x_iadd dL_law_273 ?_
  refine x_re (nI_add i 1) ?_
  refine x_sld (show i + 1 < L by omega) hL dL_law_274 ?_
  refine x_aload_n dL_law_275 rfl rfl ?_
  refine x_iload_n dL_law_276 rfl rfl ?_
  refine x_iconst (v := 2) dL_law_277 (by decide) ?_
  refine x_iadd dL_law_278 ?_
  refine x_re (nI_add i 2) ?_
  refine x_sld (show i + 2 < L by omega) hL dL_law_279 ?_
  refine kL_39r dL_law_280 rfl hm.1 (cM_slice hm hM1 hI) (by decide) (Nat.le_of_ble_eq_true rfl) (fun v2 S2 hq2 => ?_)
  obtain ⟨q2, hM2, hF2⟩ := hq2
  have hX2 := RX_fr hF2 hX1
  have hI2 : iA (o_slice ((Lt, t), P, r, acts, kept, f) (xs (i + 1)) (xs (i + 2))).2 := i_slice hI
  refine x_icmp_eq (tgt := 854) dL_law_283 (by decide) (fun c_283 => ?_) (fun c_283 => ?_)
  · exact hk _ _ hX2 hM2 hI2
  · exact absurd (by rw [Option.some.inj q1 |> Value.int.inj, Option.some.inj q2 |> Value.int.inj]) c_283

set_option maxHeartbeats 1000000 in
set_option maxRecDepth 20000 in
theorem lc_6 {B : sB} {b L i : Nat} {xs : Nat → Int32} {S : sSt} {A : aA} {Q : Option Value → sSt → Prop} (hx : shX B) (hm : shM B) (hL : L ≤ 320) (hX : RX S A) (hM : RM S A) (hI : iA A) (hi : i + 5 ≤ L) (hk : ∀ (S1 : sSt) (A1 : aA), RX S1 A1 → RM S1 A1 → iA A1 → WS B (sEl B.2.2 b L xs) yL_law cL_law 4 (some .boolean) 16 854 [(3, .int (nI i)), (2, .ref (s_ad B 102)), (1, .ref (s_ad B 0)), (0, .ref b)] [] S1 Q) : WS B (sEl B.2.2 b L xs) yL_law cL_law 4 (some .boolean) 16 288 [(3, .int (nI i)), (2, .ref (s_ad B 102)), (1, .ref (s_ad B 0)), (0, .ref b)] [] S Q := by
  obtain ⟨⟨Lt, t⟩, P, r, acts, kept, f⟩ := A
  refine x_aload_n dL_law_288 rfl rfl ?_
  refine x_aload_n dL_law_289 rfl rfl ?_
  refine x_iload_n dL_law_290 rfl rfl ?_
  refine x_iconst (v := 1) dL_law_291 (by decide) ?_
  refine x_iadd dL_law_292 ?_
  refine x_re (nI_add i 1) ?_
  refine x_sld (show i + 1 < L by omega) hL dL_law_293 ?_
  refine x_aload_n dL_law_294 rfl rfl ?_
  refine x_iload_n dL_law_295 rfl rfl ?_
  refine x_iconst (v := 2) dL_law_296 (by decide) ?_
  refine x_iadd dL_law_297 ?_
  refine x_re (nI_add i 2) ?_
  refine x_sld (show i + 2 < L by omega) hL dL_law_298 ?_
  refine kL_40r dL_law_299 rfl hx.1 (cX_putIn hx hX hI.1.1) (by decide) (Nat.le_of_ble_eq_true rfl) (fun v1 S1 hq1 => ?_)
  obtain ⟨q1, hX1, hF1⟩ := hq1
  have hM1 := RM_fr hF1 hM
  refine x_aload_n dL_law_302 rfl rfl ?_
  refine x_aload_n dL_law_303 rfl rfl ?_
  refine x_iload_n dL_law_304 rfl rfl ?_
  refine x_iconst (v := 1) dL_law_305 (by decide) ?_
  refine x_iadd dL_law_306 ?_
  refine x_re (nI_add i 1) ?_
  refine x_sld (show i + 1 < L by omega) hL dL_law_307 ?_
  refine x_aload_n dL_law_308 rfl rfl ?_
  refine x_iload_n dL_law_309 rfl rfl ?_
  refine x_iconst (v := 2) dL_law_310 (by decide) ?_
  refine x_iadd dL_law_311 ?_
  refine x_re (nI_add i 2) ?_
  refine x_sld (show i + 2 < L by omega) hL dL_law_312 ?_
  refine kL_43r dL_law_313 rfl hm.1 (cM_putIn hm hM1 hI) (by decide) (Nat.le_of_ble_eq_true rfl) (fun v2 S2 hq2 => ?_)
  obtain ⟨q2, hM2, hF2⟩ := hq2
  have hX2 := RX_fr hF2 hX1
  have hI2 : iA (o_putIn ((Lt, t), P, r, acts, kept, f) (xs (i + 1)) (xs (i + 2))).2 := i_putIn hI
  refine x_icmp_eq (tgt := 854) dL_law_316 (by decide) (fun c_316 => ?_) (fun c_316 => ?_)
  · exact hk _ _ hX2 hM2 hI2
  · exact absurd (by rw [Option.some.inj q1 |> Value.int.inj, Option.some.inj q2 |> Value.int.inj]) c_316

set_option maxHeartbeats 1000000 in
set_option maxRecDepth 20000 in
theorem lc_7 {B : sB} {b L i : Nat} {xs : Nat → Int32} {S : sSt} {A : aA} {Q : Option Value → sSt → Prop} (hx : shX B) (hm : shM B) (hL : L ≤ 320) (hX : RX S A) (hM : RM S A) (hI : iA A) (hi : i + 5 ≤ L) (hk : ∀ (S1 : sSt) (A1 : aA), RX S1 A1 → RM S1 A1 → iA A1 → WS B (sEl B.2.2 b L xs) yL_law cL_law 4 (some .boolean) 16 854 [(3, .int (nI i)), (2, .ref (s_ad B 102)), (1, .ref (s_ad B 0)), (0, .ref b)] [] S1 Q) : WS B (sEl B.2.2 b L xs) yL_law cL_law 4 (some .boolean) 16 321 [(3, .int (nI i)), (2, .ref (s_ad B 102)), (1, .ref (s_ad B 0)), (0, .ref b)] [] S Q := by
  obtain ⟨⟨Lt, t⟩, P, r, acts, kept, f⟩ := A
  refine x_aload_n dL_law_321 rfl rfl ?_
  refine x_aload_n dL_law_322 rfl rfl ?_
  refine x_iload_n dL_law_323 rfl rfl ?_
  refine x_iconst (v := 1) dL_law_324 (by decide) ?_
  refine x_iadd dL_law_325 ?_
  refine x_re (nI_add i 1) ?_
  refine x_sld (show i + 1 < L by omega) hL dL_law_326 ?_
  refine kL_44r dL_law_327 rfl hx.1 (cX_pass hx hX hI) (by decide) (Nat.le_of_ble_eq_true rfl) (fun v1 S1 hq1 => ?_)
  obtain ⟨q1, hX1, hF1⟩ := hq1
  have hM1 := RM_fr hF1 hM
  refine x_aload_n dL_law_330 rfl rfl ?_
  refine x_aload_n dL_law_331 rfl rfl ?_
  refine x_iload_n dL_law_332 rfl rfl ?_
  refine x_iconst (v := 1) dL_law_333 (by decide) ?_
  refine x_iadd dL_law_334 ?_
  refine x_re (nI_add i 1) ?_
  refine x_sld (show i + 1 < L by omega) hL dL_law_335 ?_
  refine kL_47r dL_law_336 rfl hm.1 (cM_pass hm hM1 hI) (by decide) (Nat.le_of_ble_eq_true rfl) (fun v2 S2 hq2 => ?_)
  obtain ⟨q2, hM2, hF2⟩ := hq2
  have hX2 := RX_fr hF2 hX1
  have hI2 : iA (o_pass ((Lt, t), P, r, acts, kept, f) (xs (i + 1))).2 := i_pass hI
  refine x_icmp_eq (tgt := 854) dL_law_339 (by decide) (fun c_339 => ?_) (fun c_339 => ?_)
  · exact hk _ _ hX2 hM2 hI2
  · exact absurd (by rw [Option.some.inj q1 |> Value.int.inj, Option.some.inj q2 |> Value.int.inj]) c_339

set_option maxHeartbeats 1000000 in
set_option maxRecDepth 20000 in
theorem lc_8 {B : sB} {b L i : Nat} {xs : Nat → Int32} {S : sSt} {A : aA} {Q : Option Value → sSt → Prop} (hx : shX B) (hm : shM B) (hL : L ≤ 320) (hX : RX S A) (hM : RM S A) (hI : iA A) (hi : i + 5 ≤ L) (hk : ∀ (S1 : sSt) (A1 : aA), RX S1 A1 → RM S1 A1 → iA A1 → WS B (sEl B.2.2 b L xs) yL_law cL_law 4 (some .boolean) 16 854 [(3, .int (nI i)), (2, .ref (s_ad B 102)), (1, .ref (s_ad B 0)), (0, .ref b)] [] S1 Q) : WS B (sEl B.2.2 b L xs) yL_law cL_law 4 (some .boolean) 16 344 [(3, .int (nI i)), (2, .ref (s_ad B 102)), (1, .ref (s_ad B 0)), (0, .ref b)] [] S Q := by
  obtain ⟨⟨Lt, t⟩, P, r, acts, kept, f⟩ := A
  refine x_aload_n dL_law_344 rfl rfl ?_
  refine x_aload_n dL_law_345 rfl rfl ?_
  refine x_iload_n dL_law_346 rfl rfl ?_
  refine x_iconst (v := 1) dL_law_347 (by decide) ?_
  refine x_iadd dL_law_348 ?_
  refine x_re (nI_add i 1) ?_
  refine x_sld (show i + 1 < L by omega) hL dL_law_349 ?_
  refine kL_48r dL_law_350 rfl hx.1 (cX_knob hx hX) (by decide) (Nat.le_of_ble_eq_true rfl) (fun v1 S1 hq1 => ?_)
  obtain ⟨q1, hX1, hF1⟩ := hq1
  have hM1 := RM_fr hF1 hM
  refine x_aload_n dL_law_353 rfl rfl ?_
  refine x_aload_n dL_law_354 rfl rfl ?_
  refine x_iload_n dL_law_355 rfl rfl ?_
  refine x_iconst (v := 1) dL_law_356 (by decide) ?_
  refine x_iadd dL_law_357 ?_
  refine x_re (nI_add i 1) ?_
  refine x_sld (show i + 1 < L by omega) hL dL_law_358 ?_
  refine kL_51r dL_law_359 rfl hm.1 (cM_knob hm hM1) (by decide) (Nat.le_of_ble_eq_true rfl) (fun v2 S2 hq2 => ?_)
  obtain ⟨q2, hM2, hF2⟩ := hq2
  have hX2 := RX_fr hF2 hX1
  have hI2 : iA (o_knob ((Lt, t), P, r, acts, kept, f) (xs (i + 1))).2 := i_knob hI
  refine x_icmp_eq (tgt := 854) dL_law_362 (by decide) (fun c_362 => ?_) (fun c_362 => ?_)
  · exact hk _ _ hX2 hM2 hI2
  · exact absurd (by rw [Option.some.inj q1 |> Value.int.inj, Option.some.inj q2 |> Value.int.inj]) c_362

set_option maxHeartbeats 1000000 in
set_option maxRecDepth 20000 in
theorem lc_9 {B : sB} {b L i : Nat} {xs : Nat → Int32} {S : sSt} {A : aA} {Q : Option Value → sSt → Prop} (hx : shX B) (hm : shM B) (hL : L ≤ 320) (hX : RX S A) (hM : RM S A) (hI : iA A) (hi : i + 5 ≤ L) (hk : ∀ (S1 : sSt) (A1 : aA), RX S1 A1 → RM S1 A1 → iA A1 → WS B (sEl B.2.2 b L xs) yL_law cL_law 4 (some .boolean) 16 854 [(3, .int (nI i)), (2, .ref (s_ad B 102)), (1, .ref (s_ad B 0)), (0, .ref b)] [] S1 Q) : WS B (sEl B.2.2 b L xs) yL_law cL_law 4 (some .boolean) 16 367 [(3, .int (nI i)), (2, .ref (s_ad B 102)), (1, .ref (s_ad B 0)), (0, .ref b)] [] S Q := by
  obtain ⟨⟨Lt, t⟩, P, r, acts, kept, f⟩ := A
  refine x_aload_n dL_law_367 rfl rfl ?_
  refine x_aload_n dL_law_368 rfl rfl ?_
  refine x_iload_n dL_law_369 rfl rfl ?_
  refine x_iconst (v := 1) dL_law_370 (by decide) ?_
  refine x_iadd dL_law_371 ?_
  refine x_re (nI_add i 1) ?_
  refine x_sld (show i + 1 < L by omega) hL dL_law_372 ?_
  refine x_aload_n dL_law_373 rfl rfl ?_
  refine x_iload_n dL_law_374 rfl rfl ?_
  refine x_iconst (v := 2) dL_law_375 (by decide) ?_
  refine x_iadd dL_law_376 ?_
  refine x_re (nI_add i 2) ?_
  refine x_sld (show i + 2 < L by omega) hL dL_law_377 ?_
  refine kL_52r dL_law_378 rfl hx.1 (cX_take hx hX hI.1.1) (by decide) (Nat.le_of_ble_eq_true rfl) (fun v1 S1 hq1 => ?_)
  obtain ⟨q1, hX1, hF1⟩ := hq1
  have hM1 := RM_fr hF1 hM
  refine x_aload_n dL_law_381 rfl rfl ?_
  refine x_aload_n dL_law_382 rfl rfl ?_
  refine x_iload_n dL_law_383 rfl rfl ?_
  refine x_iconst (v := 1) dL_law_384 (by decide) ?_
  refine x_iadd dL_law_385 ?_
  refine x_re (nI_add i 1) ?_
  refine x_sld (show i + 1 < L by omega) hL dL_law_386 ?_
  refine x_aload_n dL_law_387 rfl rfl ?_
  refine x_iload_n dL_law_388 rfl rfl ?_
  refine x_iconst (v := 2) dL_law_389 (by decide) ?_
  refine x_iadd dL_law_390 ?_
  refine x_re (nI_add i 2) ?_
  refine x_sld (show i + 2 < L by omega) hL dL_law_391 ?_
  refine kL_55r dL_law_392 rfl hm.1 (cM_take hm hM1 hI) (by decide) (Nat.le_of_ble_eq_true rfl) (fun v2 S2 hq2 => ?_)
  obtain ⟨q2, hM2, hF2⟩ := hq2
  have hX2 := RX_fr hF2 hX1
  have hI2 : iA (o_take ((Lt, t), P, r, acts, kept, f) (xs (i + 1)) (xs (i + 2))).2 := i_take hI
  refine x_icmp_eq (tgt := 854) dL_law_395 (by decide) (fun c_395 => ?_) (fun c_395 => ?_)
  · exact hk _ _ hX2 hM2 hI2
  · exact absurd (by rw [Option.some.inj q1 |> Value.int.inj, Option.some.inj q2 |> Value.int.inj]) c_395

set_option maxHeartbeats 1000000 in
set_option maxRecDepth 20000 in
theorem lc_10 {B : sB} {b L i : Nat} {xs : Nat → Int32} {S : sSt} {A : aA} {Q : Option Value → sSt → Prop} (hx : shX B) (hm : shM B) (hL : L ≤ 320) (hX : RX S A) (hM : RM S A) (hI : iA A) (hi : i + 5 ≤ L) (hk : ∀ (S1 : sSt) (A1 : aA), RX S1 A1 → RM S1 A1 → iA A1 → WS B (sEl B.2.2 b L xs) yL_law cL_law 4 (some .boolean) 16 854 [(3, .int (nI i)), (2, .ref (s_ad B 102)), (1, .ref (s_ad B 0)), (0, .ref b)] [] S1 Q) : WS B (sEl B.2.2 b L xs) yL_law cL_law 4 (some .boolean) 16 400 [(3, .int (nI i)), (2, .ref (s_ad B 102)), (1, .ref (s_ad B 0)), (0, .ref b)] [] S Q := by
  obtain ⟨⟨Lt, t⟩, P, r, acts, kept, f⟩ := A
  refine x_aload_n dL_law_400 rfl rfl ?_
  refine kL_56r dL_law_401 rfl hx.1 (cX_undo hx hX) (by decide) (Nat.le_of_ble_eq_true rfl) (fun v1 S1 hq1 => ?_)
  obtain ⟨q1, hX1, hF1⟩ := hq1
  have hM1 := RM_fr hF1 hM
  refine x_aload_n dL_law_404 rfl rfl ?_
  refine kL_59r dL_law_405 rfl hm.1 (cM_undo hm hM1) (by decide) (Nat.le_of_ble_eq_true rfl) (fun v2 S2 hq2 => ?_)
  obtain ⟨q2, hM2, hF2⟩ := hq2
  have hX2 := RX_fr hF2 hX1
  have hI2 : iA (o_undo ((Lt, t), P, r, acts, kept, f)).2 := i_undo hI
  refine x_icmp_eq (tgt := 854) dL_law_408 (by decide) (fun c_408 => ?_) (fun c_408 => ?_)
  · exact hk _ _ hX2 hM2 hI2
  · exact absurd (by rw [Option.some.inj q1 |> Value.int.inj, Option.some.inj q2 |> Value.int.inj]) c_408

set_option maxHeartbeats 1000000 in
set_option maxRecDepth 20000 in
theorem lc_11 {B : sB} {b L i : Nat} {xs : Nat → Int32} {S : sSt} {A : aA} {Q : Option Value → sSt → Prop} (hx : shX B) (hm : shM B) (hL : L ≤ 320) (hX : RX S A) (hM : RM S A) (hI : iA A) (hi : i + 5 ≤ L) (hk : ∀ (S1 : sSt) (A1 : aA), RX S1 A1 → RM S1 A1 → iA A1 → WS B (sEl B.2.2 b L xs) yL_law cL_law 4 (some .boolean) 16 854 [(3, .int (nI i)), (2, .ref (s_ad B 102)), (1, .ref (s_ad B 0)), (0, .ref b)] [] S1 Q) : WS B (sEl B.2.2 b L xs) yL_law cL_law 4 (some .boolean) 16 413 [(3, .int (nI i)), (2, .ref (s_ad B 102)), (1, .ref (s_ad B 0)), (0, .ref b)] [] S Q := by
  obtain ⟨⟨Lt, t⟩, P, r, acts, kept, f⟩ := A
  refine x_aload_n dL_law_413 rfl rfl ?_
  refine x_aload_n dL_law_414 rfl rfl ?_
  refine x_iload_n dL_law_415 rfl rfl ?_
  refine x_iconst (v := 1) dL_law_416 (by decide) ?_
  refine x_iadd dL_law_417 ?_
  refine x_re (nI_add i 1) ?_
  refine x_sld (show i + 1 < L by omega) hL dL_law_418 ?_
  refine kL_60r dL_law_419 rfl hx.1 (cX_falls hx hX hI) (by decide) (Nat.le_of_ble_eq_true rfl) (fun v1 S1 hq1 => ?_)
  obtain ⟨q1, hX1, hF1⟩ := hq1
  have hM1 := RM_fr hF1 hM
  refine x_aload_n dL_law_422 rfl rfl ?_
  refine x_aload_n dL_law_423 rfl rfl ?_
  refine x_iload_n dL_law_424 rfl rfl ?_
  refine x_iconst (v := 1) dL_law_425 (by decide) ?_
  refine x_iadd dL_law_426 ?_
  refine x_re (nI_add i 1) ?_
  refine x_sld (show i + 1 < L by omega) hL dL_law_427 ?_
  refine kL_63r dL_law_428 rfl hm.1 (cM_falls hm hM1 hI) (by decide) (Nat.le_of_ble_eq_true rfl) (fun v2 S2 hq2 => ?_)
  obtain ⟨q2, hM2, hF2⟩ := hq2
  have hX2 := RX_fr hF2 hX1
  have hI2 : iA (o_falls ((Lt, t), P, r, acts, kept, f) (xs (i + 1))).2 := i_falls hI
  refine x_icmp_eq (tgt := 854) dL_law_431 (by decide) (fun c_431 => ?_) (fun c_431 => ?_)
  · exact hk _ _ hX2 hM2 hI2
  · exact absurd (by rw [Option.some.inj q1 |> Value.int.inj, Option.some.inj q2 |> Value.int.inj]) c_431

set_option maxHeartbeats 1000000 in
set_option maxRecDepth 20000 in
theorem lc_12 {B : sB} {b L i : Nat} {xs : Nat → Int32} {S : sSt} {A : aA} {Q : Option Value → sSt → Prop} (hx : shX B) (hm : shM B) (hL : L ≤ 320) (hX : RX S A) (hM : RM S A) (hI : iA A) (hi : i + 5 ≤ L) (hk : ∀ (S1 : sSt) (A1 : aA), RX S1 A1 → RM S1 A1 → iA A1 → WS B (sEl B.2.2 b L xs) yL_law cL_law 4 (some .boolean) 16 854 [(3, .int (nI i)), (2, .ref (s_ad B 102)), (1, .ref (s_ad B 0)), (0, .ref b)] [] S1 Q) : WS B (sEl B.2.2 b L xs) yL_law cL_law 4 (some .boolean) 16 436 [(3, .int (nI i)), (2, .ref (s_ad B 102)), (1, .ref (s_ad B 0)), (0, .ref b)] [] S Q := by
  obtain ⟨⟨Lt, t⟩, P, r, acts, kept, f⟩ := A
  refine x_aload_n dL_law_436 rfl rfl ?_
  refine x_aload_n dL_law_437 rfl rfl ?_
  refine x_iload_n dL_law_438 rfl rfl ?_
  refine x_iconst (v := 1) dL_law_439 (by decide) ?_
  refine x_iadd dL_law_440 ?_
  refine x_re (nI_add i 1) ?_
  refine x_sld (show i + 1 < L by omega) hL dL_law_441 ?_
  refine kL_64r dL_law_442 rfl hx.1 (cX_willBe hx hX hI) (by decide) (Nat.le_of_ble_eq_true rfl) (fun v1 S1 hq1 => ?_)
  obtain ⟨q1, hX1, hF1⟩ := hq1
  have hM1 := RM_fr hF1 hM
  refine x_aload_n dL_law_445 rfl rfl ?_
  refine x_aload_n dL_law_446 rfl rfl ?_
  refine x_iload_n dL_law_447 rfl rfl ?_
  refine x_iconst (v := 1) dL_law_448 (by decide) ?_
  refine x_iadd dL_law_449 ?_
  refine x_re (nI_add i 1) ?_
  refine x_sld (show i + 1 < L by omega) hL dL_law_450 ?_
  refine kL_67r dL_law_451 rfl hm.1 (cM_willBe hm hM1 hI) (by decide) (Nat.le_of_ble_eq_true rfl) (fun v2 S2 hq2 => ?_)
  obtain ⟨q2, hM2, hF2⟩ := hq2
  have hX2 := RX_fr hF2 hX1
  have hI2 : iA (o_willBe ((Lt, t), P, r, acts, kept, f) (xs (i + 1))).2 := i_willBe hI
  refine x_icmp_eq (tgt := 854) dL_law_454 (by decide) (fun c_454 => ?_) (fun c_454 => ?_)
  · exact hk _ _ hX2 hM2 hI2
  · exact absurd (by rw [Option.some.inj q1 |> Value.int.inj, Option.some.inj q2 |> Value.int.inj]) c_454

set_option maxHeartbeats 1000000 in
set_option maxRecDepth 20000 in
theorem lc_13 {B : sB} {b L i : Nat} {xs : Nat → Int32} {S : sSt} {A : aA} {Q : Option Value → sSt → Prop} (hx : shX B) (hm : shM B) (hL : L ≤ 320) (hX : RX S A) (hM : RM S A) (hI : iA A) (hi : i + 5 ≤ L) (hk : ∀ (S1 : sSt) (A1 : aA), RX S1 A1 → RM S1 A1 → iA A1 → WS B (sEl B.2.2 b L xs) yL_law cL_law 4 (some .boolean) 16 854 [(3, .int (nI i)), (2, .ref (s_ad B 102)), (1, .ref (s_ad B 0)), (0, .ref b)] [] S1 Q) : WS B (sEl B.2.2 b L xs) yL_law cL_law 4 (some .boolean) 16 459 [(3, .int (nI i)), (2, .ref (s_ad B 102)), (1, .ref (s_ad B 0)), (0, .ref b)] [] S Q := by
  obtain ⟨⟨Lt, t⟩, P, r, acts, kept, f⟩ := A
  refine x_aload_n dL_law_459 rfl rfl ?_
  refine kL_68r dL_law_460 rfl hx.1 (cX_content hx hX hI) (by decide) (Nat.le_of_ble_eq_true rfl) (fun v1 S1 hq1 => ?_)
  obtain ⟨q1, hX1, hF1⟩ := hq1
  have hM1 := RM_fr hF1 hM
  refine x_aload_n dL_law_463 rfl rfl ?_
  refine kL_71r dL_law_464 rfl hm.1 (cM_content hm hM1 hI) (by decide) (Nat.le_of_ble_eq_true rfl) (fun v2 S2 hq2 => ?_)
  obtain ⟨q2, hM2, hF2⟩ := hq2
  have hX2 := RX_fr hF2 hX1
  have hI2 : iA (o_content ((Lt, t), P, r, acts, kept, f)).2 := i_content hI
  refine x_icmp_eq (tgt := 854) dL_law_467 (by decide) (fun c_467 => ?_) (fun c_467 => ?_)
  · exact hk _ _ hX2 hM2 hI2
  · exact absurd (by rw [Option.some.inj q1 |> Value.int.inj, Option.some.inj q2 |> Value.int.inj]) c_467

set_option maxHeartbeats 1000000 in
set_option maxRecDepth 20000 in
theorem lc_14 {B : sB} {b L i : Nat} {xs : Nat → Int32} {S : sSt} {A : aA} {Q : Option Value → sSt → Prop} (hx : shX B) (hm : shM B) (hL : L ≤ 320) (hX : RX S A) (hM : RM S A) (hI : iA A) (hi : i + 5 ≤ L) (hk : ∀ (S1 : sSt) (A1 : aA), RX S1 A1 → RM S1 A1 → iA A1 → WS B (sEl B.2.2 b L xs) yL_law cL_law 4 (some .boolean) 16 854 [(3, .int (nI i)), (2, .ref (s_ad B 102)), (1, .ref (s_ad B 0)), (0, .ref b)] [] S1 Q) : WS B (sEl B.2.2 b L xs) yL_law cL_law 4 (some .boolean) 16 472 [(3, .int (nI i)), (2, .ref (s_ad B 102)), (1, .ref (s_ad B 0)), (0, .ref b)] [] S Q := by
  obtain ⟨⟨Lt, t⟩, P, r, acts, kept, f⟩ := A
  refine x_aload_n dL_law_472 rfl rfl ?_
  refine x_aload_n dL_law_473 rfl rfl ?_
  refine x_iload_n dL_law_474 rfl rfl ?_
  refine x_iconst (v := 1) dL_law_475 (by decide) ?_
  refine x_iadd dL_law_476 ?_
  refine x_re (nI_add i 1) ?_
  refine x_sld (show i + 1 < L by omega) hL dL_law_477 ?_
  refine x_aload_n dL_law_478 rfl rfl ?_
  refine x_iload_n dL_law_479 rfl rfl ?_
  refine x_iconst (v := 2) dL_law_480 (by decide) ?_
  refine x_iadd dL_law_481 ?_
  refine x_re (nI_add i 2) ?_
  refine x_sld (show i + 2 < L by omega) hL dL_law_482 ?_
  refine kL_72r dL_law_483 rfl hx.1 (cX_knobFor hx hX hI) (by decide) (Nat.le_of_ble_eq_true rfl) (fun v1 S1 hq1 => ?_)
  obtain ⟨q1, hX1, hF1⟩ := hq1
  have hM1 := RM_fr hF1 hM
  refine x_aload_n dL_law_486 rfl rfl ?_
  refine x_aload_n dL_law_487 rfl rfl ?_
  refine x_iload_n dL_law_488 rfl rfl ?_
  refine x_iconst (v := 1) dL_law_489 (by decide) ?_
  refine x_iadd dL_law_490 ?_
  refine x_re (nI_add i 1) ?_
  refine x_sld (show i + 1 < L by omega) hL dL_law_491 ?_
  refine x_aload_n dL_law_492 rfl rfl ?_
  refine x_iload_n dL_law_493 rfl rfl ?_
  refine x_iconst (v := 2) dL_law_494 (by decide) ?_
  refine x_iadd dL_law_495 ?_
  refine x_re (nI_add i 2) ?_
  refine x_sld (show i + 2 < L by omega) hL dL_law_496 ?_
  refine kL_75r dL_law_497 rfl hm.1 (cM_knobFor hm hM1 hI) (by decide) (Nat.le_of_ble_eq_true rfl) (fun v2 S2 hq2 => ?_)
  obtain ⟨q2, hM2, hF2⟩ := hq2
  have hX2 := RX_fr hF2 hX1
  have hI2 : iA (o_knobFor ((Lt, t), P, r, acts, kept, f) (xs (i + 1)) (xs (i + 2))).2 := i_knobFor hI
  refine x_icmp_eq (tgt := 854) dL_law_500 (by decide) (fun c_500 => ?_) (fun c_500 => ?_)
  · exact hk _ _ hX2 hM2 hI2
  · exact absurd (by rw [Option.some.inj q1 |> Value.int.inj, Option.some.inj q2 |> Value.int.inj]) c_500

set_option maxHeartbeats 1000000 in
set_option maxRecDepth 20000 in
theorem lc_15 {B : sB} {b L i : Nat} {xs : Nat → Int32} {S : sSt} {A : aA} {Q : Option Value → sSt → Prop} (hx : shX B) (hm : shM B) (hL : L ≤ 320) (hX : RX S A) (hM : RM S A) (hI : iA A) (hi : i + 5 ≤ L) (hk : ∀ (S1 : sSt) (A1 : aA), RX S1 A1 → RM S1 A1 → iA A1 → WS B (sEl B.2.2 b L xs) yL_law cL_law 4 (some .boolean) 16 854 [(3, .int (nI i)), (2, .ref (s_ad B 102)), (1, .ref (s_ad B 0)), (0, .ref b)] [] S1 Q) : WS B (sEl B.2.2 b L xs) yL_law cL_law 4 (some .boolean) 16 505 [(3, .int (nI i)), (2, .ref (s_ad B 102)), (1, .ref (s_ad B 0)), (0, .ref b)] [] S Q := by
  obtain ⟨⟨Lt, t⟩, P, r, acts, kept, f⟩ := A
  refine x_aload_n dL_law_505 rfl rfl ?_
  refine x_aload_n dL_law_506 rfl rfl ?_
  refine x_iload_n dL_law_507 rfl rfl ?_
  refine x_iconst (v := 1) dL_law_508 (by decide) ?_
  refine x_iadd dL_law_509 ?_
  refine x_re (nI_add i 1) ?_
  refine x_sld (show i + 1 < L by omega) hL dL_law_510 ?_
  refine x_aload_n dL_law_511 rfl rfl ?_
  refine x_iload_n dL_law_512 rfl rfl ?_
  refine x_iconst (v := 2) dL_law_513 (by decide) ?_
  refine x_iadd dL_law_514 ?_
  refine x_re (nI_add i 2) ?_
  refine x_sld (show i + 2 < L by omega) hL dL_law_515 ?_
  refine kL_76r dL_law_516 rfl hx.1 (cX_often hx hX hI) (by decide) (Nat.le_of_ble_eq_true rfl) (fun v1 S1 hq1 => ?_)
  obtain ⟨q1, hX1, hF1⟩ := hq1
  have hM1 := RM_fr hF1 hM
  refine x_aload_n dL_law_519 rfl rfl ?_
  refine x_aload_n dL_law_520 rfl rfl ?_
  refine x_iload_n dL_law_521 rfl rfl ?_
  refine x_iconst (v := 1) dL_law_522 (by decide) ?_
  refine x_iadd dL_law_523 ?_
  refine x_re (nI_add i 1) ?_
  refine x_sld (show i + 1 < L by omega) hL dL_law_524 ?_
  refine x_aload_n dL_law_525 rfl rfl ?_
  refine x_iload_n dL_law_526 rfl rfl ?_
  refine x_iconst (v := 2) dL_law_527 (by decide) ?_
  refine x_iadd dL_law_528 ?_
  refine x_re (nI_add i 2) ?_
  refine x_sld (show i + 2 < L by omega) hL dL_law_529 ?_
  refine kL_79r dL_law_530 rfl hm.1 (cM_often hm hM1 hI) (by decide) (Nat.le_of_ble_eq_true rfl) (fun v2 S2 hq2 => ?_)
  obtain ⟨q2, hM2, hF2⟩ := hq2
  have hX2 := RX_fr hF2 hX1
  have hI2 : iA (o_often ((Lt, t), P, r, acts, kept, f) (xs (i + 1)) (xs (i + 2))).2 := i_often hI
  refine x_icmp_eq (tgt := 854) dL_law_533 (by decide) (fun c_533 => ?_) (fun c_533 => ?_)
  · exact hk _ _ hX2 hM2 hI2
  · exact absurd (by rw [Option.some.inj q1 |> Value.int.inj, Option.some.inj q2 |> Value.int.inj]) c_533

set_option maxHeartbeats 1000000 in
set_option maxRecDepth 20000 in
theorem lc_16 {B : sB} {b L i : Nat} {xs : Nat → Int32} {S : sSt} {A : aA} {Q : Option Value → sSt → Prop} (hx : shX B) (hm : shM B) (hL : L ≤ 320) (hX : RX S A) (hM : RM S A) (hI : iA A) (hi : i + 5 ≤ L) (hk : ∀ (S1 : sSt) (A1 : aA), RX S1 A1 → RM S1 A1 → iA A1 → WS B (sEl B.2.2 b L xs) yL_law cL_law 4 (some .boolean) 16 854 [(3, .int (nI i)), (2, .ref (s_ad B 102)), (1, .ref (s_ad B 0)), (0, .ref b)] [] S1 Q) : WS B (sEl B.2.2 b L xs) yL_law cL_law 4 (some .boolean) 16 538 [(3, .int (nI i)), (2, .ref (s_ad B 102)), (1, .ref (s_ad B 0)), (0, .ref b)] [] S Q := by
  obtain ⟨⟨Lt, t⟩, P, r, acts, kept, f⟩ := A
  refine x_aload_n dL_law_538 rfl rfl ?_
  refine x_aload_n dL_law_539 rfl rfl ?_
  refine x_iload_n dL_law_540 rfl rfl ?_
  refine x_iconst (v := 1) dL_law_541 (by decide) ?_
  refine x_iadd dL_law_542 ?_
  refine x_re (nI_add i 1) ?_
  refine x_sld (show i + 1 < L by omega) hL dL_law_543 ?_
  refine x_aload_n dL_law_544 rfl rfl ?_
  refine x_iload_n dL_law_545 rfl rfl ?_
  refine x_iconst (v := 2) dL_law_546 (by decide) ?_
  refine x_iadd dL_law_547 ?_
  refine x_re (nI_add i 2) ?_
  refine x_sld (show i + 2 < L by omega) hL dL_law_548 ?_
  refine kL_80r dL_law_549 rfl hx.1 (cX_waits hx hX hI) (by decide) (Nat.le_of_ble_eq_true rfl) (fun v1 S1 hq1 => ?_)
  obtain ⟨q1, hX1, hF1⟩ := hq1
  have hM1 := RM_fr hF1 hM
  refine x_aload_n dL_law_552 rfl rfl ?_
  refine x_aload_n dL_law_553 rfl rfl ?_
  refine x_iload_n dL_law_554 rfl rfl ?_
  refine x_iconst (v := 1) dL_law_555 (by decide) ?_
  refine x_iadd dL_law_556 ?_
  refine x_re (nI_add i 1) ?_
  refine x_sld (show i + 1 < L by omega) hL dL_law_557 ?_
  refine x_aload_n dL_law_558 rfl rfl ?_
  refine x_iload_n dL_law_559 rfl rfl ?_
  refine x_iconst (v := 2) dL_law_560 (by decide) ?_
  refine x_iadd dL_law_561 ?_
  refine x_re (nI_add i 2) ?_
  refine x_sld (show i + 2 < L by omega) hL dL_law_562 ?_
  refine kL_83r dL_law_563 rfl hm.1 (cM_waits hm hM1 hI) (by decide) (Nat.le_of_ble_eq_true rfl) (fun v2 S2 hq2 => ?_)
  obtain ⟨q2, hM2, hF2⟩ := hq2
  have hX2 := RX_fr hF2 hX1
  have hI2 : iA (o_waits ((Lt, t), P, r, acts, kept, f) (xs (i + 1)) (xs (i + 2))).2 := i_waits hI
  refine x_icmp_eq (tgt := 854) dL_law_566 (by decide) (fun c_566 => ?_) (fun c_566 => ?_)
  · exact hk _ _ hX2 hM2 hI2
  · exact absurd (by rw [Option.some.inj q1 |> Value.int.inj, Option.some.inj q2 |> Value.int.inj]) c_566

set_option maxHeartbeats 1000000 in
set_option maxRecDepth 20000 in
theorem lc_17 {B : sB} {b L i : Nat} {xs : Nat → Int32} {S : sSt} {A : aA} {Q : Option Value → sSt → Prop} (hx : shX B) (hm : shM B) (hL : L ≤ 320) (hX : RX S A) (hM : RM S A) (hI : iA A) (hi : i + 5 ≤ L) (hk : ∀ (S1 : sSt) (A1 : aA), RX S1 A1 → RM S1 A1 → iA A1 → WS B (sEl B.2.2 b L xs) yL_law cL_law 4 (some .boolean) 16 854 [(3, .int (nI i)), (2, .ref (s_ad B 102)), (1, .ref (s_ad B 0)), (0, .ref b)] [] S1 Q) : WS B (sEl B.2.2 b L xs) yL_law cL_law 4 (some .boolean) 16 571 [(3, .int (nI i)), (2, .ref (s_ad B 102)), (1, .ref (s_ad B 0)), (0, .ref b)] [] S Q := by
  obtain ⟨⟨Lt, t⟩, P, r, acts, kept, f⟩ := A
  refine x_aload_n dL_law_571 rfl rfl ?_
  refine x_aload_n dL_law_572 rfl rfl ?_
  refine x_iload_n dL_law_573 rfl rfl ?_
  refine x_iconst (v := 1) dL_law_574 (by decide) ?_
  refine x_iadd dL_law_575 ?_
  refine x_re (nI_add i 1) ?_
  refine x_sld (show i + 1 < L by omega) hL dL_law_576 ?_
  refine kL_84r dL_law_577 rfl hx.1 (cX_harm hx hX hI) (by decide) (Nat.le_of_ble_eq_true rfl) (fun v1 S1 hq1 => ?_)
  obtain ⟨q1, hX1, hF1⟩ := hq1
  have hM1 := RM_fr hF1 hM
  refine x_aload_n dL_law_580 rfl rfl ?_
  refine x_aload_n dL_law_581 rfl rfl ?_
  refine x_iload_n dL_law_582 rfl rfl ?_
  refine x_iconst (v := 1) dL_law_583 (by decide) ?_
  refine x_iadd dL_law_584 ?_
  refine x_re (nI_add i 1) ?_
  refine x_sld (show i + 1 < L by omega) hL dL_law_585 ?_
  refine kL_87r dL_law_586 rfl hm.1 (cM_harm hm hM1 hI) (by decide) (Nat.le_of_ble_eq_true rfl) (fun v2 S2 hq2 => ?_)
  obtain ⟨q2, hM2, hF2⟩ := hq2
  have hX2 := RX_fr hF2 hX1
  have hI2 : iA (o_harm ((Lt, t), P, r, acts, kept, f) (xs (i + 1))).2 := i_harm hI
  refine x_icmp_eq (tgt := 854) dL_law_589 (by decide) (fun c_589 => ?_) (fun c_589 => ?_)
  · exact hk _ _ hX2 hM2 hI2
  · exact absurd (by rw [Option.some.inj q1 |> Value.int.inj, Option.some.inj q2 |> Value.int.inj]) c_589

set_option maxHeartbeats 1000000 in
set_option maxRecDepth 20000 in
theorem lc_18 {B : sB} {b L i : Nat} {xs : Nat → Int32} {S : sSt} {A : aA} {Q : Option Value → sSt → Prop} (hx : shX B) (hm : shM B) (hL : L ≤ 320) (hX : RX S A) (hM : RM S A) (hI : iA A) (hi : i + 5 ≤ L) (hk : ∀ (S1 : sSt) (A1 : aA), RX S1 A1 → RM S1 A1 → iA A1 → WS B (sEl B.2.2 b L xs) yL_law cL_law 4 (some .boolean) 16 854 [(3, .int (nI i)), (2, .ref (s_ad B 102)), (1, .ref (s_ad B 0)), (0, .ref b)] [] S1 Q) : WS B (sEl B.2.2 b L xs) yL_law cL_law 4 (some .boolean) 16 594 [(3, .int (nI i)), (2, .ref (s_ad B 102)), (1, .ref (s_ad B 0)), (0, .ref b)] [] S Q := by
  obtain ⟨⟨Lt, t⟩, P, r, acts, kept, f⟩ := A
  refine x_aload_n dL_law_594 rfl rfl ?_
  refine x_aload_n dL_law_595 rfl rfl ?_
  refine x_iload_n dL_law_596 rfl rfl ?_
  refine x_iconst (v := 1) dL_law_597 (by decide) ?_
  refine x_iadd dL_law_598 ?_
  refine x_re (nI_add i 1) ?_
  refine x_sld (show i + 1 < L by omega) hL dL_law_599 ?_
  refine kL_88r dL_law_600 rfl hx.1 (cX_share hx hX hI.1.1) (by decide) (Nat.le_of_ble_eq_true rfl) (fun v1 S1 hq1 => ?_)
  obtain ⟨q1, hX1, hF1⟩ := hq1
  have hM1 := RM_fr hF1 hM
  refine x_aload_n dL_law_603 rfl rfl ?_
  refine x_aload_n dL_law_604 rfl rfl ?_
  refine x_iload_n dL_law_605 rfl rfl ?_
  refine x_iconst (v := 1) dL_law_606 (by decide) ?_
  refine x_iadd dL_law_607 ?_
  refine x_re (nI_add i 1) ?_
  refine x_sld (show i + 1 < L by omega) hL dL_law_608 ?_
  refine kL_91r dL_law_609 rfl hm.1 (cM_share hm hM1 hI) (by decide) (Nat.le_of_ble_eq_true rfl) (fun v2 S2 hq2 => ?_)
  obtain ⟨q2, hM2, hF2⟩ := hq2
  have hX2 := RX_fr hF2 hX1
  have hI2 : iA (o_share ((Lt, t), P, r, acts, kept, f) (xs (i + 1))).2 := i_share hI
  refine x_icmp_eq (tgt := 854) dL_law_612 (by decide) (fun c_612 => ?_) (fun c_612 => ?_)
  · exact hk _ _ hX2 hM2 hI2
  · exact absurd (by rw [Option.some.inj q1 |> Value.int.inj, Option.some.inj q2 |> Value.int.inj]) c_612

set_option maxHeartbeats 1000000 in
set_option maxRecDepth 20000 in
theorem lc_19 {B : sB} {b L i : Nat} {xs : Nat → Int32} {S : sSt} {A : aA} {Q : Option Value → sSt → Prop} (hx : shX B) (hm : shM B) (hL : L ≤ 320) (hX : RX S A) (hM : RM S A) (hI : iA A) (hi : i + 5 ≤ L) (hk : ∀ (S1 : sSt) (A1 : aA), RX S1 A1 → RM S1 A1 → iA A1 → WS B (sEl B.2.2 b L xs) yL_law cL_law 4 (some .boolean) 16 854 [(3, .int (nI i)), (2, .ref (s_ad B 102)), (1, .ref (s_ad B 0)), (0, .ref b)] [] S1 Q) : WS B (sEl B.2.2 b L xs) yL_law cL_law 4 (some .boolean) 16 617 [(3, .int (nI i)), (2, .ref (s_ad B 102)), (1, .ref (s_ad B 0)), (0, .ref b)] [] S Q := by
  obtain ⟨⟨Lt, t⟩, P, r, acts, kept, f⟩ := A
  refine x_aload_n dL_law_617 rfl rfl ?_
  refine kL_92r dL_law_618 rfl hx.1 (cX_round hx hX) (by decide) (Nat.le_of_ble_eq_true rfl) (fun v1 S1 hq1 => ?_)
  obtain ⟨q1, hX1, hF1⟩ := hq1
  have hM1 := RM_fr hF1 hM
  refine x_aload_n dL_law_621 rfl rfl ?_
  refine kL_95r dL_law_622 rfl hm.1 (cM_round hm hM1 hI) (by decide) (Nat.le_of_ble_eq_true rfl) (fun v2 S2 hq2 => ?_)
  obtain ⟨q2, hM2, hF2⟩ := hq2
  have hX2 := RX_fr hF2 hX1
  have hI2 : iA (o_round ((Lt, t), P, r, acts, kept, f)).2 := i_round hI
  refine x_icmp_eq (tgt := 854) dL_law_625 (by decide) (fun c_625 => ?_) (fun c_625 => ?_)
  · exact hk _ _ hX2 hM2 hI2
  · exact absurd (by rw [Option.some.inj q1 |> Value.int.inj, Option.some.inj q2 |> Value.int.inj]) c_625

set_option maxHeartbeats 1000000 in
set_option maxRecDepth 20000 in
theorem lc_20 {B : sB} {b L i : Nat} {xs : Nat → Int32} {S : sSt} {A : aA} {Q : Option Value → sSt → Prop} (hx : shX B) (hm : shM B) (hL : L ≤ 320) (hX : RX S A) (hM : RM S A) (hI : iA A) (hi : i + 5 ≤ L) (hk : ∀ (S1 : sSt) (A1 : aA), RX S1 A1 → RM S1 A1 → iA A1 → WS B (sEl B.2.2 b L xs) yL_law cL_law 4 (some .boolean) 16 854 [(3, .int (nI i)), (2, .ref (s_ad B 102)), (1, .ref (s_ad B 0)), (0, .ref b)] [] S1 Q) : WS B (sEl B.2.2 b L xs) yL_law cL_law 4 (some .boolean) 16 630 [(3, .int (nI i)), (2, .ref (s_ad B 102)), (1, .ref (s_ad B 0)), (0, .ref b)] [] S Q := by
  obtain ⟨⟨Lt, t⟩, P, r, acts, kept, f⟩ := A
  refine x_aload_n dL_law_630 rfl rfl ?_
  refine x_aload_n dL_law_631 rfl rfl ?_
  refine x_iload_n dL_law_632 rfl rfl ?_
  refine x_iconst (v := 1) dL_law_633 (by decide) ?_
  refine x_iadd dL_law_634 ?_
  refine x_re (nI_add i 1) ?_
  refine x_sld (show i + 1 < L by omega) hL dL_law_635 ?_
  refine x_aload_n dL_law_636 rfl rfl ?_
  refine x_iload_n dL_law_637 rfl rfl ?_
  refine x_iconst (v := 2) dL_law_638 (by decide) ?_
  refine x_iadd dL_law_639 ?_
  refine x_re (nI_add i 2) ?_
  refine x_sld (show i + 2 < L by omega) hL dL_law_640 ?_
  refine x_aload_n dL_law_641 rfl rfl ?_
  refine x_iload_n dL_law_642 rfl rfl ?_
  refine x_iconst (v := 3) dL_law_643 (by decide) ?_
  refine x_iadd dL_law_644 ?_
  refine x_re (nI_add i 3) ?_
  refine x_sld (show i + 3 < L by omega) hL dL_law_645 ?_
  refine x_aload_n dL_law_646 rfl rfl ?_
  refine x_iload_n dL_law_647 rfl rfl ?_
  refine x_iconst (v := 4) dL_law_648 (by decide) ?_
  refine x_iadd dL_law_649 ?_
  refine x_re (nI_add i 4) ?_
  refine x_sld (show i + 4 < L by omega) hL dL_law_650 ?_
  refine kL_96r dL_law_651 rfl hx.1 (cX_seen hx hX) (by decide) (Nat.le_of_ble_eq_true rfl) (fun v1 S1 hq1 => ?_)
  obtain ⟨q1, hX1, hF1⟩ := hq1
  have hM1 := RM_fr hF1 hM
  refine x_aload_n dL_law_654 rfl rfl ?_
  refine x_aload_n dL_law_655 rfl rfl ?_
  refine x_iload_n dL_law_656 rfl rfl ?_
  refine x_iconst (v := 1) dL_law_657 (by decide) ?_
  refine x_iadd dL_law_658 ?_
  refine x_re (nI_add i 1) ?_
  refine x_sld (show i + 1 < L by omega) hL dL_law_659 ?_
  refine x_aload_n dL_law_660 rfl rfl ?_
  refine x_iload_n dL_law_661 rfl rfl ?_
  refine x_iconst (v := 2) dL_law_662 (by decide) ?_
  refine x_iadd dL_law_663 ?_
  refine x_re (nI_add i 2) ?_
  refine x_sld (show i + 2 < L by omega) hL dL_law_664 ?_
  refine x_aload_n dL_law_665 rfl rfl ?_
  refine x_iload_n dL_law_666 rfl rfl ?_
  refine x_iconst (v := 3) dL_law_667 (by decide) ?_
  refine x_iadd dL_law_668 ?_
  refine x_re (nI_add i 3) ?_
  refine x_sld (show i + 3 < L by omega) hL dL_law_669 ?_
  refine x_aload_n dL_law_670 rfl rfl ?_
  refine x_iload_n dL_law_671 rfl rfl ?_
  refine x_iconst (v := 4) dL_law_672 (by decide) ?_
  refine x_iadd dL_law_673 ?_
  refine x_re (nI_add i 4) ?_
  refine x_sld (show i + 4 < L by omega) hL dL_law_674 ?_
  refine kL_100r dL_law_675 rfl hm.1 (cM_seen hm hM1) (by decide) (Nat.le_of_ble_eq_true rfl) (fun v2 S2 hq2 => ?_)
  obtain ⟨q2, hM2, hF2⟩ := hq2
  have hX2 := RX_fr hF2 hX1
  have hI2 : iA (o_seen ((Lt, t), P, r, acts, kept, f) (xs (i + 1)) (xs (i + 2)) (xs (i + 3)) (xs (i + 4))).2 := i_seen hI
  refine x_icmp_eq (tgt := 854) dL_law_678 (by decide) (fun c_678 => ?_) (fun c_678 => ?_)
  · exact hk _ _ hX2 hM2 hI2
  · exact absurd (by rw [Option.some.inj q1 |> Value.int.inj, Option.some.inj q2 |> Value.int.inj]) c_678

set_option maxHeartbeats 1000000 in
set_option maxRecDepth 20000 in
theorem lc_21 {B : sB} {b L i : Nat} {xs : Nat → Int32} {S : sSt} {A : aA} {Q : Option Value → sSt → Prop} (hx : shX B) (hm : shM B) (hL : L ≤ 320) (hX : RX S A) (hM : RM S A) (hI : iA A) (hi : i + 5 ≤ L) (hk : ∀ (S1 : sSt) (A1 : aA), RX S1 A1 → RM S1 A1 → iA A1 → WS B (sEl B.2.2 b L xs) yL_law cL_law 4 (some .boolean) 16 854 [(3, .int (nI i)), (2, .ref (s_ad B 102)), (1, .ref (s_ad B 0)), (0, .ref b)] [] S1 Q) : WS B (sEl B.2.2 b L xs) yL_law cL_law 4 (some .boolean) 16 683 [(3, .int (nI i)), (2, .ref (s_ad B 102)), (1, .ref (s_ad B 0)), (0, .ref b)] [] S Q := by
  obtain ⟨⟨Lt, t⟩, P, r, acts, kept, f⟩ := A
  refine x_aload_n dL_law_683 rfl rfl ?_
  refine kL_101r dL_law_684 rfl hx.1 (cX_forget hx hX) (by decide) (Nat.le_of_ble_eq_true rfl) (fun v1 S1 hq1 => ?_)
  obtain ⟨q1, hX1, hF1⟩ := hq1
  have hM1 := RM_fr hF1 hM
  refine x_aload_n dL_law_687 rfl rfl ?_
  refine kL_104r dL_law_688 rfl hm.1 (cM_forget hm hM1) (by decide) (Nat.le_of_ble_eq_true rfl) (fun v2 S2 hq2 => ?_)
  obtain ⟨q2, hM2, hF2⟩ := hq2
  have hX2 := RX_fr hF2 hX1
  have hI2 : iA (o_forget ((Lt, t), P, r, acts, kept, f)).2 := i_forget hI
  refine x_icmp_eq (tgt := 854) dL_law_691 (by decide) (fun c_691 => ?_) (fun c_691 => ?_)
  · exact hk _ _ hX2 hM2 hI2
  · exact absurd (by rw [Option.some.inj q1 |> Value.int.inj, Option.some.inj q2 |> Value.int.inj]) c_691

set_option maxHeartbeats 1000000 in
set_option maxRecDepth 20000 in
theorem lc_22 {B : sB} {b L i : Nat} {xs : Nat → Int32} {S : sSt} {A : aA} {Q : Option Value → sSt → Prop} (hx : shX B) (hm : shM B) (hL : L ≤ 320) (hX : RX S A) (hM : RM S A) (hI : iA A) (hi : i + 5 ≤ L) (hk : ∀ (S1 : sSt) (A1 : aA), RX S1 A1 → RM S1 A1 → iA A1 → WS B (sEl B.2.2 b L xs) yL_law cL_law 4 (some .boolean) 16 854 [(3, .int (nI i)), (2, .ref (s_ad B 102)), (1, .ref (s_ad B 0)), (0, .ref b)] [] S1 Q) : WS B (sEl B.2.2 b L xs) yL_law cL_law 4 (some .boolean) 16 696 [(3, .int (nI i)), (2, .ref (s_ad B 102)), (1, .ref (s_ad B 0)), (0, .ref b)] [] S Q := by
  obtain ⟨⟨Lt, t⟩, P, r, acts, kept, f⟩ := A
  refine x_aload_n dL_law_696 rfl rfl ?_
  refine x_aload_n dL_law_697 rfl rfl ?_
  refine x_iload_n dL_law_698 rfl rfl ?_
  refine x_iconst (v := 1) dL_law_699 (by decide) ?_
  refine x_iadd dL_law_700 ?_
  refine x_re (nI_add i 1) ?_
  refine x_sld (show i + 1 < L by omega) hL dL_law_701 ?_
  refine kL_105r dL_law_702 rfl hx.1 (cX_hot hx hX hI) (by decide) (Nat.le_of_ble_eq_true rfl) (fun v1 S1 hq1 => ?_)
  obtain ⟨q1, hX1, hF1⟩ := hq1
  have hM1 := RM_fr hF1 hM
  refine x_aload_n dL_law_705 rfl rfl ?_
  refine x_aload_n dL_law_706 rfl rfl ?_
  refine x_iload_n dL_law_707 rfl rfl ?_
  refine x_iconst (v := 1) dL_law_708 (by decide) ?_
  refine x_iadd dL_law_709 ?_
  refine x_re (nI_add i 1) ?_
  refine x_sld (show i + 1 < L by omega) hL dL_law_710 ?_
  refine kL_108r dL_law_711 rfl hm.1 (cM_hot hm hM1 hI) (by decide) (Nat.le_of_ble_eq_true rfl) (fun v2 S2 hq2 => ?_)
  obtain ⟨q2, hM2, hF2⟩ := hq2
  have hX2 := RX_fr hF2 hX1
  have hI2 : iA (o_hot ((Lt, t), P, r, acts, kept, f) (xs (i + 1))).2 := i_hot hI
  refine x_icmp_eq (tgt := 854) dL_law_714 (by decide) (fun c_714 => ?_) (fun c_714 => ?_)
  · exact hk _ _ hX2 hM2 hI2
  · exact absurd (by rw [Option.some.inj q1 |> Value.int.inj, Option.some.inj q2 |> Value.int.inj]) c_714

set_option maxHeartbeats 1000000 in
set_option maxRecDepth 20000 in
theorem lc_23 {B : sB} {b L i : Nat} {xs : Nat → Int32} {S : sSt} {A : aA} {Q : Option Value → sSt → Prop} (hx : shX B) (hm : shM B) (hL : L ≤ 320) (hX : RX S A) (hM : RM S A) (hI : iA A) (hi : i + 5 ≤ L) (hk : ∀ (S1 : sSt) (A1 : aA), RX S1 A1 → RM S1 A1 → iA A1 → WS B (sEl B.2.2 b L xs) yL_law cL_law 4 (some .boolean) 16 854 [(3, .int (nI i)), (2, .ref (s_ad B 102)), (1, .ref (s_ad B 0)), (0, .ref b)] [] S1 Q) : WS B (sEl B.2.2 b L xs) yL_law cL_law 4 (some .boolean) 16 719 [(3, .int (nI i)), (2, .ref (s_ad B 102)), (1, .ref (s_ad B 0)), (0, .ref b)] [] S Q := by
  obtain ⟨⟨Lt, t⟩, P, r, acts, kept, f⟩ := A
  refine x_aload_n dL_law_719 rfl rfl ?_
  refine x_aload_n dL_law_720 rfl rfl ?_
  refine x_iload_n dL_law_721 rfl rfl ?_
  refine x_iconst (v := 1) dL_law_722 (by decide) ?_
  refine x_iadd dL_law_723 ?_
  refine x_re (nI_add i 1) ?_
  refine x_sld (show i + 1 < L by omega) hL dL_law_724 ?_
  refine x_aload_n dL_law_725 rfl rfl ?_
  refine x_iload_n dL_law_726 rfl rfl ?_
  refine x_iconst (v := 2) dL_law_727 (by decide) ?_
  refine x_iadd dL_law_728 ?_
  refine x_re (nI_add i 2) ?_
  refine x_sld (show i + 2 < L by omega) hL dL_law_729 ?_
  refine x_aload_n dL_law_730 rfl rfl ?_
  refine x_iload_n dL_law_731 rfl rfl ?_
  refine x_iconst (v := 3) dL_law_732 (by decide) ?_
  refine x_iadd dL_law_733 ?_
  refine x_re (nI_add i 3) ?_
  refine x_sld (show i + 3 < L by omega) hL dL_law_734 ?_
  refine kL_109r dL_law_735 rfl hx.1 (cX_left hx hX hI.1.1) (by decide) (Nat.le_of_ble_eq_true rfl) (fun v1 S1 hq1 => ?_)
  obtain ⟨q1, hX1, hF1⟩ := hq1
  have hM1 := RM_fr hF1 hM
  refine x_aload_n dL_law_738 rfl rfl ?_
  refine x_aload_n dL_law_739 rfl rfl ?_
  refine x_iload_n dL_law_740 rfl rfl ?_
  refine x_iconst (v := 1) dL_law_741 (by decide) ?_
  refine x_iadd dL_law_742 ?_
  refine x_re (nI_add i 1) ?_
  refine x_sld (show i + 1 < L by omega) hL dL_law_743 ?_
  refine x_aload_n dL_law_744 rfl rfl ?_
  refine x_iload_n dL_law_745 rfl rfl ?_
  refine x_iconst (v := 2) dL_law_746 (by decide) ?_
  refine x_iadd dL_law_747 ?_
  refine x_re (nI_add i 2) ?_
  refine x_sld (show i + 2 < L by omega) hL dL_law_748 ?_
  refine x_aload_n dL_law_749 rfl rfl ?_
  refine x_iload_n dL_law_750 rfl rfl ?_
  refine x_iconst (v := 3) dL_law_751 (by decide) ?_
  refine x_iadd dL_law_752 ?_
  refine x_re (nI_add i 3) ?_
  refine x_sld (show i + 3 < L by omega) hL dL_law_753 ?_
  refine kL_113r dL_law_754 rfl hm.1 (cM_left hm hM1 hI) (by decide) (Nat.le_of_ble_eq_true rfl) (fun v2 S2 hq2 => ?_)
  obtain ⟨q2, hM2, hF2⟩ := hq2
  have hX2 := RX_fr hF2 hX1
  have hI2 : iA (o_left ((Lt, t), P, r, acts, kept, f) (xs (i + 1)) (xs (i + 2)) (xs (i + 3))).2 := i_left hI
  refine x_icmp_eq (tgt := 854) dL_law_757 (by decide) (fun c_757 => ?_) (fun c_757 => ?_)
  · exact hk _ _ hX2 hM2 hI2
  · exact absurd (by rw [Option.some.inj q1 |> Value.int.inj, Option.some.inj q2 |> Value.int.inj]) c_757

set_option maxHeartbeats 1000000 in
set_option maxRecDepth 20000 in
theorem lc_24 {B : sB} {b L i : Nat} {xs : Nat → Int32} {S : sSt} {A : aA} {Q : Option Value → sSt → Prop} (hx : shX B) (hm : shM B) (hL : L ≤ 320) (hX : RX S A) (hM : RM S A) (hI : iA A) (hi : i + 5 ≤ L) (hk : ∀ (S1 : sSt) (A1 : aA), RX S1 A1 → RM S1 A1 → iA A1 → WS B (sEl B.2.2 b L xs) yL_law cL_law 4 (some .boolean) 16 854 [(3, .int (nI i)), (2, .ref (s_ad B 102)), (1, .ref (s_ad B 0)), (0, .ref b)] [] S1 Q) : WS B (sEl B.2.2 b L xs) yL_law cL_law 4 (some .boolean) 16 762 [(3, .int (nI i)), (2, .ref (s_ad B 102)), (1, .ref (s_ad B 0)), (0, .ref b)] [] S Q := by
  obtain ⟨⟨Lt, t⟩, P, r, acts, kept, f⟩ := A
  refine x_aload_n dL_law_762 rfl rfl ?_
  refine x_aload_n dL_law_763 rfl rfl ?_
  refine x_iload_n dL_law_764 rfl rfl ?_
  refine x_iconst (v := 1) dL_law_765 (by decide) ?_
  refine x_iadd dL_law_766 ?_
  refine x_re (nI_add i 1) ?_
  refine x_sld (show i + 1 < L by omega) hL dL_law_767 ?_
  refine x_aload_n dL_law_768 rfl rfl ?_
  refine x_iload_n dL_law_769 rfl rfl ?_
  refine x_iconst (v := 2) dL_law_770 (by decide) ?_
  refine x_iadd dL_law_771 ?_
  refine x_re (nI_add i 2) ?_
  refine x_sld (show i + 2 < L by omega) hL dL_law_772 ?_
  refine x_aload_n dL_law_773 rfl rfl ?_
  refine x_iload_n dL_law_774 rfl rfl ?_
  refine x_iconst (v := 3) dL_law_775 (by decide) ?_
  refine x_iadd dL_law_776 ?_
  refine x_re (nI_add i 3) ?_
  refine x_sld (show i + 3 < L by omega) hL dL_law_777 ?_
  refine kL_114r dL_law_778 rfl hx.1 (cX_morning hx hX hI) (by decide) (Nat.le_of_ble_eq_true rfl) (fun v1 S1 hq1 => ?_)
  obtain ⟨q1, hX1, hF1⟩ := hq1
  have hM1 := RM_fr hF1 hM
  refine x_aload_n dL_law_781 rfl rfl ?_
  refine x_aload_n dL_law_782 rfl rfl ?_
  refine x_iload_n dL_law_783 rfl rfl ?_
  refine x_iconst (v := 1) dL_law_784 (by decide) ?_
  refine x_iadd dL_law_785 ?_
  refine x_re (nI_add i 1) ?_
  refine x_sld (show i + 1 < L by omega) hL dL_law_786 ?_
  refine x_aload_n dL_law_787 rfl rfl ?_
  refine x_iload_n dL_law_788 rfl rfl ?_
  refine x_iconst (v := 2) dL_law_789 (by decide) ?_
  refine x_iadd dL_law_790 ?_
  refine x_re (nI_add i 2) ?_
  refine x_sld (show i + 2 < L by omega) hL dL_law_791 ?_
  refine x_aload_n dL_law_792 rfl rfl ?_
  refine x_iload_n dL_law_793 rfl rfl ?_
  refine x_iconst (v := 3) dL_law_794 (by decide) ?_
  refine x_iadd dL_law_795 ?_
  refine x_re (nI_add i 3) ?_
  refine x_sld (show i + 3 < L by omega) hL dL_law_796 ?_
  refine kL_117r dL_law_797 rfl hm.1 (cM_morning hm hM1 hI) (by decide) (Nat.le_of_ble_eq_true rfl) (fun v2 S2 hq2 => ?_)
  obtain ⟨q2, hM2, hF2⟩ := hq2
  have hX2 := RX_fr hF2 hX1
  have hI2 : iA (o_morning ((Lt, t), P, r, acts, kept, f) (xs (i + 1)) (xs (i + 2)) (xs (i + 3))).2 := i_morning hI
  refine x_icmp_eq (tgt := 854) dL_law_800 (by decide) (fun c_800 => ?_) (fun c_800 => ?_)
  · exact hk _ _ hX2 hM2 hI2
  · exact absurd (by rw [Option.some.inj q1 |> Value.int.inj, Option.some.inj q2 |> Value.int.inj]) c_800

set_option maxHeartbeats 1000000 in
set_option maxRecDepth 20000 in
theorem lc_25 {B : sB} {b L i : Nat} {xs : Nat → Int32} {S : sSt} {A : aA} {Q : Option Value → sSt → Prop} (hx : shX B) (hm : shM B) (hL : L ≤ 320) (hX : RX S A) (hM : RM S A) (hI : iA A) (hi : i + 5 ≤ L) (hk : ∀ (S1 : sSt) (A1 : aA), RX S1 A1 → RM S1 A1 → iA A1 → WS B (sEl B.2.2 b L xs) yL_law cL_law 4 (some .boolean) 16 854 [(3, .int (nI i)), (2, .ref (s_ad B 102)), (1, .ref (s_ad B 0)), (0, .ref b)] [] S1 Q) : WS B (sEl B.2.2 b L xs) yL_law cL_law 4 (some .boolean) 16 805 [(3, .int (nI i)), (2, .ref (s_ad B 102)), (1, .ref (s_ad B 0)), (0, .ref b)] [] S Q := by
  obtain ⟨⟨Lt, t⟩, P, r, acts, kept, f⟩ := A
  refine x_aload_n dL_law_805 rfl rfl ?_
  refine kL_118r dL_law_806 rfl hx.1 (cX_keep hx hX) (by decide) (Nat.le_of_ble_eq_true rfl) (fun v1 S1 hq1 => ?_)
  obtain ⟨q1, hX1, hF1⟩ := hq1
  have hM1 := RM_fr hF1 hM
  refine x_aload_n dL_law_809 rfl rfl ?_
  refine kL_121r dL_law_810 rfl hm.1 (cM_keep hm hM1) (by decide) (Nat.le_of_ble_eq_true rfl) (fun v2 S2 hq2 => ?_)
  obtain ⟨q2, hM2, hF2⟩ := hq2
  have hX2 := RX_fr hF2 hX1
  have hI2 : iA (o_keep ((Lt, t), P, r, acts, kept, f)).2 := i_keep hI
  refine x_icmp_eq (tgt := 854) dL_law_813 (by decide) (fun c_813 => ?_) (fun c_813 => ?_)
  · exact hk _ _ hX2 hM2 hI2
  · exact absurd (by rw [Option.some.inj q1 |> Value.int.inj, Option.some.inj q2 |> Value.int.inj]) c_813

set_option maxHeartbeats 1000000 in
set_option maxRecDepth 20000 in
theorem lc_26 {B : sB} {b L i : Nat} {xs : Nat → Int32} {S : sSt} {A : aA} {Q : Option Value → sSt → Prop} (hx : shX B) (hm : shM B) (hL : L ≤ 320) (hX : RX S A) (hM : RM S A) (hI : iA A) (hi : i + 5 ≤ L) (hk : ∀ (S1 : sSt) (A1 : aA), RX S1 A1 → RM S1 A1 → iA A1 → WS B (sEl B.2.2 b L xs) yL_law cL_law 4 (some .boolean) 16 854 [(3, .int (nI i)), (2, .ref (s_ad B 102)), (1, .ref (s_ad B 0)), (0, .ref b)] [] S1 Q) : WS B (sEl B.2.2 b L xs) yL_law cL_law 4 (some .boolean) 16 818 [(3, .int (nI i)), (2, .ref (s_ad B 102)), (1, .ref (s_ad B 0)), (0, .ref b)] [] S Q := by
  obtain ⟨⟨Lt, t⟩, P, r, acts, kept, f⟩ := A
  refine x_aload_n dL_law_818 rfl rfl ?_
  refine kL_122r dL_law_819 rfl hx.1 (cX_back hx hX) (by decide) (Nat.le_of_ble_eq_true rfl) (fun v1 S1 hq1 => ?_)
  obtain ⟨q1, hX1, hF1⟩ := hq1
  have hM1 := RM_fr hF1 hM
  refine x_aload_n dL_law_822 rfl rfl ?_
  refine kL_125r dL_law_823 rfl hm.1 (cM_back hm hM1) (by decide) (Nat.le_of_ble_eq_true rfl) (fun v2 S2 hq2 => ?_)
  obtain ⟨q2, hM2, hF2⟩ := hq2
  have hX2 := RX_fr hF2 hX1
  have hI2 : iA (o_back ((Lt, t), P, r, acts, kept, f)).2 := i_back hI
  refine x_icmp_eq (tgt := 854) dL_law_826 (by decide) (fun c_826 => ?_) (fun c_826 => ?_)
  · exact hk _ _ hX2 hM2 hI2
  · exact absurd (by rw [Option.some.inj q1 |> Value.int.inj, Option.some.inj q2 |> Value.int.inj]) c_826

set_option maxHeartbeats 1000000 in
set_option maxRecDepth 20000 in
theorem lc_27 {B : sB} {b L i : Nat} {xs : Nat → Int32} {S : sSt} {A : aA} {Q : Option Value → sSt → Prop} (hx : shX B) (hm : shM B) (hL : L ≤ 320) (hX : RX S A) (hM : RM S A) (hI : iA A) (hi : i + 5 ≤ L) (hk : ∀ (S1 : sSt) (A1 : aA), RX S1 A1 → RM S1 A1 → iA A1 → WS B (sEl B.2.2 b L xs) yL_law cL_law 4 (some .boolean) 16 854 [(3, .int (nI i)), (2, .ref (s_ad B 102)), (1, .ref (s_ad B 0)), (0, .ref b)] [] S1 Q) : WS B (sEl B.2.2 b L xs) yL_law cL_law 4 (some .boolean) 16 831 [(3, .int (nI i)), (2, .ref (s_ad B 102)), (1, .ref (s_ad B 0)), (0, .ref b)] [] S Q := by
  obtain ⟨⟨Lt, t⟩, P, r, acts, kept, f⟩ := A
  refine x_aload_n dL_law_831 rfl rfl ?_
  refine x_aload_n dL_law_832 rfl rfl ?_
  refine x_iload_n dL_law_833 rfl rfl ?_
  refine x_iconst (v := 1) dL_law_834 (by decide) ?_
  refine x_iadd dL_law_835 ?_
  refine x_re (nI_add i 1) ?_
  refine x_sld (show i + 1 < L by omega) hL dL_law_836 ?_
  refine kL_126r dL_law_837 rfl hx.1 (cX_count hx hX) (by decide) (Nat.le_of_ble_eq_true rfl) (fun v1 S1 hq1 => ?_)
  obtain ⟨q1, hX1, hF1⟩ := hq1
  have hM1 := RM_fr hF1 hM
  refine x_aload_n dL_law_840 rfl rfl ?_
  refine x_aload_n dL_law_841 rfl rfl ?_
  refine x_iload_n dL_law_842 rfl rfl ?_
  refine x_iconst (v := 1) dL_law_843 (by decide) ?_
  refine x_iadd dL_law_844 ?_
  refine x_re (nI_add i 1) ?_
  refine x_sld (show i + 1 < L by omega) hL dL_law_845 ?_
  refine kL_129r dL_law_846 rfl hm.1 (cM_count hm hM1) (by decide) (Nat.le_of_ble_eq_true rfl) (fun v2 S2 hq2 => ?_)
  obtain ⟨q2, hM2, hF2⟩ := hq2
  have hX2 := RX_fr hF2 hX1
  have hI2 : iA (o_count ((Lt, t), P, r, acts, kept, f) (xs (i + 1))).2 := i_count hI
  refine x_icmp_eq (tgt := 854) dL_law_849 (by decide) (fun c_849 => ?_) (fun c_849 => ?_)
  · exact hk _ _ hX2 hM2 hI2
  · exact absurd (by rw [Option.some.inj q1 |> Value.int.inj, Option.some.inj q2 |> Value.int.inj]) c_849
