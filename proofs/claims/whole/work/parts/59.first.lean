/-! THE FIRST TEXT and the first plan (wip/whole/w59.py) -/
def stL : List Nat := [108, 49, 56, 59, 107, 51, 59, 104, 56, 44, 49, 50, 59, 103, 48, 44, 52, 48, 44, 54, 48, 59, 103, 48, 44, 53, 48, 44, 56, 48, 59, 103, 49, 44, 50, 48, 44, 52, 48, 59, 103, 50, 44, 51, 48, 44, 54, 48, 59, 103, 51, 44, 54, 48, 44, 57, 57, 59, 103, 48, 44, 49, 48, 44, 52, 53, 59]
def tS : Nat → Nat := fun j => stL.getD j 0
def fB : Nat → Int32 := fun j => nI (tS j)
theorem fB_and : ∀ j : Fin 67, fB j.1 &&& 255 = nI (tS j.1) ∧ tS j.1 ≤ 126 := by decide +kernel
def dF : aD := (fltF tS 67).2
theorem dF_ok : (fltF tS 67).1 = none := by decide +kernel
theorem dF_v : dF.1 = 6 ∧ dF.2.1 = 18 ∧ dF.2.2.1 = 3 ∧ dF.2.2.2.1 = 8 ∧ dF.2.2.2.2.1 = 12 := by decide +kernel
theorem dF_g : ∀ i : Fin 6, dF.2.2.2.2.2.1 i.1 = [0, 0, 1, 2, 3, 0].getD i.1 0 ∧ dF.2.2.2.2.2.2.1 i.1 = [40, 50, 20, 30, 60, 10].getD i.1 0 ∧ dF.2.2.2.2.2.2.2 i.1 = [60, 80, 40, 60, 99, 45].getD i.1 0 := by decide +kernel
def A0 : aA := ((0, tS), planD dF, bgnF dF.2.2.1 dF.2.2.2.1, [], [], f0)
theorem A0_i : iA A0 := iA_plan (fltU_iD 200 0 d0 iD_0) (by rw [dF_v.1]; decide)
set_option maxHeartbeats 1000000 in
set_option maxRecDepth 20000 in
theorem lm_init6 {B : sB} {aK aV : Nat} (hx : shX B) :
    ∀ (k i : Nat) (S : sSt), i + k = 67 → rT S 1 tS i → rA S 30 [] → WS B (sEz B.2.2 aK aV 67 fB) yX6_init cX6_init 2 none 8 159 [(1, .int (nI i)), (0, .ref (s_ad B 0))] [] S (fun v S1 => v = none ∧ RX S1 A0) := by
  obtain ⟨hx0, hx1, hx4, hx8, hx12, hx18, hx24, hx30, hx80, hx81, hx86, hx90, hx96⟩ := id hx
  obtain ⟨tx0, tx1, tx2⟩ := id hx1
  intro k
  induction k with
  | zero =>
    intro i S hi hT hA
    refine x_iload_n dX6_init_159 rfl rfl ?_
    refine x_ldcE (own := "ToastBelt") (tx := stT) (a := aK) rfl (fun s h => h.2.2.2.2.2.2) dX6_init_160 ?_
    refine x_callVE (i := 68) (n := 0) (av := []) sEz_po (fun s H locs h hS => ?_) (cs_length (by decide)) mS_length rfl (Nat.le_of_ble_eq_true rfl) (sT_1 203 rfl rfl) ⟨sT_1 204 rfl rfl, sT_1 205 rfl rfl⟩ (by decide) rfl (Nat.le_of_ble_eq_true rfl) dX6_init_162 (fun v S' _ hq => ?_)
    · obtain ⟨cell, h1, h2, h3, -⟩ := h.1.kept hS.2.1
      exact ⟨cell, h1, h2, h3⟩
    obtain ⟨rfl, rfl⟩ := hq
    refine x_icmp_ge (tgt := 188) dX6_init_165 (by decide) (fun c_165 => ?_) (fun c_165 => ?_)
    · refine x_wk [1] rfl ?_
      obtain rfl : i = 67 := by omega
      refine x_aload_n dX6_init_188 rfl rfl ?_
      refine gX6_10 dX6_init_189 rfl (by assumption) rfl ?_
      refine x_aload_n dX6_init_192 rfl rfl ?_
      refine gX6_19 dX6_init_193 rfl (by assumption) rfl ?_
      refine kX6_82r dX6_init_196 rfl (by assumption) (c_readInto hx1 hx4 (by omega) hT) (by decide) (Nat.le_of_ble_eq_true rfl) (fun b S1 hq => ?_)
      obtain ⟨-, hR, hD⟩ := hq
      have hD : rD S1 4 dF := hD dF_ok
      have hT1 : rT S1 1 tS 67 := rT_ag hR.2 (hR.1 2 (by omega) (by omega) (by omega)) hT
      have hA1 : rA S1 30 [] := rA_ag (fun a x y => hR.1 a (by omega) (by omega) (by omega)) hA
      refine x_pop dX6_init_199 rfl ?_
      refine x_aload_n dX6_init_200 rfl rfl ?_
      refine kX6_86r dX6_init_201 rfl (by assumption) (c_startAnew (T := (67, tS)) hx hT1 hA1 hD) (by decide) (Nat.le_of_ble_eq_true rfl) (fun S2 hq => ?_)
      obtain ⟨-, hX2, -⟩ := hq
      refine x_aload_n dX6_init_204 rfl rfl ?_
      refine gX6_10 dX6_init_205 rfl (by assumption) rfl ?_
      refine kX6_89r dX6_init_208 rfl (by assumption) (c_clear (t := tS) hx1 hX2.1) (by decide) (Nat.le_of_ble_eq_true rfl) (fun S3 hq => ?_)
      obtain ⟨-, hT3, hF3⟩ := hq
      refine x_return dX6_init_211 rfl ?_
      refine ⟨rfl, hT3, ?_⟩
      obtain ⟨-, a2, a3, a4, a5, a6⟩ := hX2
      exact ⟨rP_ag (fun a x y => hF3 a (by omega)) a2, rB_fr (fun a x y => hF3 a (by omega)) a3, rA_ag (fun a x y => hF3 a (by omega)) a4, rE_ag (fun a x y => hF3 a (by omega)) (hF3 0 (by omega)) a5, rF_ag (fun a x y => hF3 a (by omega)) a6⟩
    · exact absurd (by exact nI_le (by omega) (by omega)) c_165
  | succ k ih =>
    intro i S hi hT hA
    refine x_iload_n dX6_init_159 rfl rfl ?_
    refine x_ldcE (own := "ToastBelt") (tx := stT) (a := aK) rfl (fun s h => h.2.2.2.2.2.2) dX6_init_160 ?_
    refine x_callVE (i := 68) (n := 0) (av := []) sEz_po (fun s H locs h hS => ?_) (cs_length (by decide)) mS_length rfl (Nat.le_of_ble_eq_true rfl) (sT_1 203 rfl rfl) ⟨sT_1 204 rfl rfl, sT_1 205 rfl rfl⟩ (by decide) rfl (Nat.le_of_ble_eq_true rfl) dX6_init_162 (fun v S' _ hq => ?_)
    · obtain ⟨cell, h1, h2, h3, -⟩ := h.1.kept hS.2.1
      exact ⟨cell, h1, h2, h3⟩
    obtain ⟨rfl, rfl⟩ := hq
    refine x_icmp_ge (tgt := 188) dX6_init_165 (by decide) (fun c_165 => ?_) (fun c_165 => ?_)
    · exact absurd c_165 (by exact nI_ge (by omega) (by omega))
    · refine x_aload_n dX6_init_168 rfl rfl ?_
      refine gX6_10 dX6_init_169 rfl (by assumption) rfl ?_
      refine x_ldcE (own := "ToastBelt") (tx := stT) (a := aK) rfl (fun s h => h.2.2.2.2.2.2) dX6_init_172 ?_
      refine x_iload_n dX6_init_174 rfl rfl ?_
      refine x_callVE (i := 74) (n := 1) (av := [.int (nI i)]) sEz_po (fun s H locs h hS => ?_) (cs_charAt (by decide) (show i < 67 by omega)) mS_charAt rfl (Nat.le_of_ble_eq_true rfl) (sT_1 213 rfl rfl) ⟨sT_1 214 rfl rfl, sT_1 215 rfl rfl⟩ (by decide) rfl (Nat.le_of_ble_eq_true rfl) dX6_init_175 (fun v S' _ hq => ?_)
      · obtain ⟨cell, h1, h2, h3, -⟩ := h.1.kept hS.2.1
        exact ⟨cell, h1, h2, h3⟩
      obtain ⟨rfl, rfl⟩ := hq
      refine x_re (fB_and ⟨i, by omega⟩).1 ?_
      refine kX6_78r dX6_init_178 rfl (by assumption) (c_add (c := tS i) hx1 hT (fB_and ⟨i, by omega⟩).2) (by decide) (Nat.le_of_ble_eq_true rfl) (fun b S1 hq => ?_)
      obtain ⟨-, hT1, hF1⟩ := hq
      rw [if_pos (by omega), if_pos (by omega)] at hT1
      have hT2 : rT S1 1 tS (i + 1) := ⟨hT1.1, hT1.2.1, fun j hj => by
        have h3 := hT1.2.2 j hj
        unfold updN at h3
        split at h3
        · rename_i e; rw [e] at h3 ⊢; exact h3
        · exact h3⟩
      refine x_pop dX6_init_181 rfl ?_
      first | refine x_inc1N (lv' := [(1, _), (0, _)]) dX6_init_182 rfl (by decide) rfl ?_ | refine x_iinc (v := _ + 1) (lv' := [(1, _), (0, _)]) dX6_init_182 rfl rfl (by decide) rfl ?_
      refine x_goto (tgt := 159) dX6_init_185 (by decide) ?_
      refine x_wk [0, 1] rfl ?_
      exact ih (i + 1) S1 (by omega) hT2 (rA_ag (fun a x y => hF1 a (by omega) (by omega)) hA)

set_option maxHeartbeats 1000000 in
set_option maxRecDepth 20000 in
theorem ct_init6 {B : sB} {aK aV : Nat} (hx : shX B) {S : sSt} (h0 : ∀ a j, a < 102 → S a j = 0) : WS B (sEz B.2.2 aK aV 67 fB) yX6_init cX6_init 2 none 8 157 [(0, .ref (s_ad B 0))] [] S (fun v S1 => v = none ∧ RX S1 A0) := by
  refine x_iconst (v := 0) dX6_init_157 (by decide) ?_
  refine x_istore_n (lv' := [(1, _), (0, _)]) dX6_init_158 rfl (by decide) rfl ?_
  exact lm_init6 hx 67 0 S (by omega) ⟨by decide, h0 1 2 (by decide), fun i hi => absurd hi (Nat.not_lt_zero i)⟩ ⟨0, by decide, h0 30 1 (by decide), by decide, h0 30 2 (by decide), fun i r hr => by cases hr⟩
