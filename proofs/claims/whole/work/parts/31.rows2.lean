/-! what a moment does to one slice -/
def agr (r q : aR) (g : Nat) : Prop := q 0 = r 0 ∧ q 1 = r 1 ∧ q (3 + g) = r (3 + g) ∧ q (12 + g) = r (12 + g) ∧ q (21 + g) = r (21 + g) ∧ q (30 + g) = r (30 + g) ∧ q (39 + g) = r (39 + g)
theorem carF_other {P : aP} {r : aR} {h a : Nat} (h1 : a ≠ 3 + h) (h2 : a ≠ 21 + h) (h3 : a ≠ 30 + h) : carF P r h a = r a := by
  unfold carF
  split
  · split
    · rw [upd_ne h1, upd_ne h2, upd_ne h3]
    · rw [upd_ne h2, upd_ne h3]
  · rfl
theorem carU_other {P : aP} {a : Nat} : ∀ (k i : Nat) (r : aR), (∀ h, i ≤ h → h < i + k → a ≠ 3 + h ∧ a ≠ 21 + h ∧ a ≠ 30 + h) → carU P k i r a = r a := by
  intro k; induction k with
  | zero => intro i r _; rfl
  | succ k ih =>
    intro i r h
    rw [carU, ih (i + 1) _ (fun j h1 h2 => h j (by omega) (by omega))]
    obtain ⟨h1, h2, h3⟩ := h i (Nat.le_refl i) (by omega)
    exact carF_other h1 h2 h3
theorem carF_agr {P : aP} {r q : aR} {g : Nat} (hg : g < 9) (h : agr r q g) : agr (carF P r g) (carF P q g) g := by
  obtain ⟨a0, a1, a3, a12, a21, a30, a39⟩ := h
  have e1 : ∀ z : aR, carF P z g 0 = z 0 := fun z => carF_lo (by decide)
  have e2 : ∀ z : aR, carF P z g 1 = z 1 := fun z => carF_lo (by decide)
  refine ⟨by rw [e1, e1, a0], by rw [e2, e2, a1], ?_, ?_, ?_, ?_, ?_⟩
  · unfold carF; rw [a3, a21, a0]
    split
    · split
      · rw [upd_eq, upd_eq]
      · rw [upd_ne (by omega), upd_ne (by omega), upd_ne (by omega), upd_ne (by omega)]; exact a3
    · exact a3
  · rw [carF_other (by omega) (by omega) (by omega), carF_other (by omega) (by omega) (by omega)]; exact a12
  · unfold carF; rw [a3, a21, a0]
    split
    · split
      · rw [upd_ne (by omega), upd_eq, upd_ne (by omega), upd_eq]
      · rw [upd_eq, upd_eq]
    · exact a21
  · unfold carF; rw [a3, a21, a0, a12, a30, a1]
    split
    · split
      · rw [upd_ne (by omega), upd_ne (by omega), upd_eq, upd_ne (by omega), upd_ne (by omega), upd_eq]
      · rw [upd_ne (by omega), upd_eq, upd_ne (by omega), upd_eq]
    · exact a30
  · rw [carF_other (by omega) (by omega) (by omega), carF_other (by omega) (by omega) (by omega)]; exact a39
theorem carF_agr_o {P : aP} {r : aR} {g h : Nat} (hg : g < 9) (hh : h < 9) (hne : g ≠ h) : agr r (carF P r h) g :=
  ⟨carF_lo (by decide), carF_lo (by decide), carF_other (by omega) (by omega) (by omega), carF_other (by omega) (by omega) (by omega), carF_other (by omega) (by omega) (by omega), carF_other (by omega) (by omega) (by omega), carF_other (by omega) (by omega) (by omega)⟩
theorem agr_rfl {r : aR} {g : Nat} : agr r r g := ⟨rfl, rfl, rfl, rfl, rfl, rfl, rfl⟩
theorem agr_trans {r q z : aR} {g : Nat} (h1 : agr r q g) (h2 : agr q z g) : agr r z g := ⟨h2.1.trans h1.1, h2.2.1.trans h1.2.1, h2.2.2.1.trans h1.2.2.1, h2.2.2.2.1.trans h1.2.2.2.1, h2.2.2.2.2.1.trans h1.2.2.2.2.1, h2.2.2.2.2.2.1.trans h1.2.2.2.2.2.1, h2.2.2.2.2.2.2.trans h1.2.2.2.2.2.2⟩
theorem carU_agr_o {P : aP} {g : Nat} (hg : g < 9) : ∀ (k i : Nat) (r : aR), i + k ≤ 9 → (g < i ∨ i + k ≤ g) → agr r (carU P k i r) g := by
  intro k; induction k with
  | zero => intro i r _ _; exact agr_rfl
  | succ k ih =>
    intro i r h1 h2
    rw [carU]
    exact agr_trans (carF_agr_o hg (by omega) (by omega)) (ih (i + 1) _ (by omega) (by omega))
/-- all guests carried: slice g as if it alone were carried -/
theorem carU_agr {P : aP} {g : Nat} (hg : g < 9) : ∀ (k i : Nat) (r : aR), i + k ≤ 9 → i ≤ g → g < i + k → agr (carF P r g) (carU P k i r) g := by
  intro k; induction k with
  | zero => intro i r _ _ _; omega
  | succ k ih =>
    intro i r h1 h2 h3
    rw [carU]
    by_cases hgi : g = i
    · subst hgi
      exact carU_agr_o hg k (g + 1) _ (by omega) (by omega)
    · exact agr_trans (carF_agr hg (carF_agr_o hg (by omega) hgi)) (ih (i + 1) _ (by omega) (by omega) (by omega))
theorem momF_hi {P : aP} {r : aR} {a : Nat} (ha : 3 ≤ a) : momF P r a = carU P P.1 0 r a := by
  rw [momF, upd_ne (by omega), upd_ne (by omega)]
theorem momF_0 (P : aP) (r : aR) : momF P r 0 = r 0 := by rw [momF, upd_ne (by decide), upd_ne (by decide), carU_lo (by decide)]
theorem momF_2 (P : aP) (r : aR) : momF P r 2 = r 2 + 1 := by rw [momF, upd_eq, carU_lo (by decide)]
section MM
variable {P : aP} {r : aR} {g : Nat}
theorem momF_12 (hn : P.1 ≤ 9) (hg : g < P.1) : momF P r (12 + g) = r (12 + g) := by
  rw [momF_hi (by omega), (carU_agr (P := P) (g := g) (by omega) P.1 0 r (by omega) (by omega) (by omega)).2.2.2.1, carF_other (by omega) (by omega) (by omega)]
theorem momF_39 (hn : P.1 ≤ 9) (hg : g < P.1) : momF P r (39 + g) = r (39 + g) := by
  rw [momF_hi (by omega), (carU_agr (P := P) (g := g) (by omega) P.1 0 r (by omega) (by omega) (by omega)).2.2.2.2.2.2, carF_other (by omega) (by omega) (by omega)]
theorem momF_3 (hn : P.1 ≤ 9) (hg : g < P.1) : momF P r (3 + g) = if r (3 + g) = 1 then (if P.2.1 ≤ r (21 + g) + r 0 then 2 else 1) else r (3 + g) := by
  rw [momF_hi (by omega), (carU_agr (P := P) (g := g) (by omega) P.1 0 r (by omega) (by omega) (by omega)).2.2.1]
  unfold carF
  split
  · rename_i h1
    split
    · rw [upd_eq]
    · rw [upd_ne (by omega), upd_ne (by omega)]; exact h1
  · rfl
theorem momF_21 (hn : P.1 ≤ 9) (hg : g < P.1) : momF P r (21 + g) = if r (3 + g) = 1 then r (21 + g) + r 0 else r (21 + g) := by
  rw [momF_hi (by omega), (carU_agr (P := P) (g := g) (by omega) P.1 0 r (by omega) (by omega) (by omega)).2.2.2.2.1]
  unfold carF
  split
  · split
    · rw [upd_ne (by omega), upd_eq]
    · rw [upd_eq]
  · rfl
theorem momF_30 (hn : P.1 ≤ 9) (hg : g < P.1) : momF P r (30 + g) = if r (3 + g) = 1 then r (30 + g) + brwF (P.2.2.2.1 g) (r 1 + (if r (12 + g) = 0 then 2 else 0)) else r (30 + g) := by
  rw [momF_hi (by omega), (carU_agr (P := P) (g := g) (by omega) P.1 0 r (by omega) (by omega) (by omega)).2.2.2.2.2.1]
  unfold carF
  split
  · split
    · rw [upd_ne (by omega), upd_ne (by omega), upd_eq]
    · rw [upd_ne (by omega), upd_eq]
  · rfl
end MM
theorem add_toInt {x y : Int32} {a b : Int} (h1 : 0 ≤ x.toInt) (h2 : x.toInt ≤ a) (h3 : 0 ≤ y.toInt) (h4 : y.toInt ≤ b) (ha : a ≤ 1000) (hb : b ≤ 1000) : (x + y).toInt = x.toInt + y.toInt := by
  obtain ⟨i, hi, rfl⟩ := nI_of3 (n := 1000) h1 (by omega) (by decide)
  obtain ⟨j, hj, rfl⟩ := nI_of3 (n := 1000) h3 (by omega) (by decide)
  rw [nI_add, nI_toInt (by omega), nI_toInt (by omega), nI_toInt (by omega)]
  omega
theorem iR_mom {P : aP} {r : aR} (hP : iP P) (h : iR P r) : iR P (momF P r) := by
  obtain ⟨h1, h2, h3, h4, h5⟩ := h
  have hn := hP.2.1
  have hl := hP.2.2.1
  refine ⟨by rw [momF_0]; exact h1, momF_heat hP h2, fun i hi hw => ?_, fun i hi => by rw [momF_39 hn hi]; exact h4 i hi, fun i j hi hj he hne => ?_⟩
  · rw [momF_3 hn hi] at hw
    rw [momF_21 hn hi]
    by_cases hr : r (3 + i) = 1
    · rw [if_pos hr] at hw ⊢
      have hpl := h3 i hi hr
      split at hw
      · exact absurd hw (by decide)
      · rename_i hc
        rw [Int32.le_iff_toInt_le, add_toInt hpl.1 (by omega : (r (21 + i)).toInt ≤ 40) (by omega) h1.2 (by decide) (by decide)] at hc
        rw [add_toInt hpl.1 (by omega : (r (21 + i)).toInt ≤ 40) (by omega) h1.2 (by decide) (by decide)]
        omega
    · rw [if_neg hr] at hw; exact absurd hw hr
  · rw [momF_39 hn hi] at he hne; rw [momF_39 hn hj] at he
    exact h5 i j hi hj he hne
theorem iR_momN {P : aP} {r : aR} (hP : iP P) (h : iR P r) : True := trivial
theorem iR_put {P : aP} {r : aR} {g : Nat} {x : Int32} (hP : iP P) (hg : g < P.1) (h : iR P r) : iR P (putF r g x) := by
  obtain ⟨h1, h2, h3, h4, h5⟩ := h
  have hn := hP.2.1
  have hl := hP.2.2.1
  have e39 : ∀ i, i < P.1 → putF r g x (39 + i) = r (39 + i) := fun i hi => by rw [putF, upd_ne (by omega), upd_ne (by omega), upd_ne (by omega)]
  refine ⟨?_, ?_, fun i hi hw => ?_, fun i hi => by rw [e39 i hi]; exact h4 i hi, fun i j hi hj he hne => ?_⟩
  · rw [putF, upd_ne (by omega), upd_ne (by omega), upd_ne (by omega)]; exact h1
  · rw [putF_1]; exact h2
  · by_cases hig : i = g
    · subst hig
      rw [putF, upd_eq]
      have e : (0 : Int32).toInt = 0 := by decide
      omega
    · have e3 : putF r g x (3 + i) = r (3 + i) := by rw [putF, upd_ne (by omega), upd_ne (by omega), upd_ne (by omega)]
      have e21 : putF r g x (21 + i) = r (21 + i) := by rw [putF, upd_ne (by omega), upd_ne (by omega), upd_ne (by omega)]
      rw [e3] at hw; rw [e21]; exact h3 i hi hw
  · rw [e39 i hi] at he hne; rw [e39 j hj] at he; exact h5 i j hi hj he hne
theorem iR_eat {P : aP} {r : aR} {g s : Nat} (hP : iP P) (hg : g < P.1) (hs : s < P.1) (hc : (etn P r g).isNone = true) (h : iR P r) : iR P (eatF r g s) := by
  obtain ⟨h1, h2, h3, h4, h5⟩ := h
  have hn := hP.2.1
  have hno : ∀ j, j < P.1 → r (39 + j) ≠ nI g := by
    intro j hj he
    have h0 : fndU (fun s => r (39 + s) == nI g) P.1 0 = none := by
      cases hh : fndU (fun s => r (39 + s) == nI g) P.1 0 with
      | none => rfl
      | some z => rw [etn, hh] at hc; cases hc
    have := fndU_none h0 j (by omega) (by omega)
    simp [he] at this
  have e39 : ∀ i, eatF r g s (39 + i) = if i = s then nI g else if 39 + i = 3 + s then 3 else r (39 + i) := by
    intro i
    unfold eatF upd
    by_cases his : i = s
    · rw [if_pos (by omega), if_pos his]
    · rw [if_neg (by omega), if_neg his]
  refine ⟨?_, ?_, fun i hi hw => ?_, fun i hi => ?_, fun i j hi hj he hne => ?_⟩
  · rw [eatF, upd_ne (by omega), upd_ne (by omega)]; exact h1
  · rw [eatF, upd_ne (by omega), upd_ne (by omega)]; exact h2
  · have e21 : eatF r g s (21 + i) = r (21 + i) := by rw [eatF, upd_ne (by omega), upd_ne (by omega)]
    by_cases his : i = s
    · subst his
      rw [eatF, upd_ne (by omega), upd_eq] at hw
      exact absurd hw (by decide)
    · rw [eatF, upd_ne (by omega), upd_ne (by omega)] at hw
      rw [e21]; exact h3 i hi hw
  · rw [e39 i]
    by_cases his : i = s
    · rw [if_pos his]; exact Or.inr ⟨g, hg, rfl⟩
    · rw [if_neg his, if_neg (by omega)]; exact h4 i hi
  · rw [e39 i] at he hne; rw [e39 j] at he
    by_cases his : i = s
    · by_cases hjs : j = s
      · omega
      · rw [if_pos his, if_neg hjs, if_neg (by omega)] at he
        exact absurd he.symm (hno j hj)
    · rw [if_neg his, if_neg (by omega)] at he hne
      by_cases hjs : j = s
      · rw [if_pos hjs] at he; exact absurd he (hno i hi)
      · rw [if_neg hjs, if_neg (by omega)] at he; exact h5 i j hi hj he hne
theorem iR_low {P : aP} {r : aR} {g : Nat} (hP : iP P) (hg : g < P.1) (h : iR P r) : iR P (lowF P r g) := by
  unfold lowF
  cases hf : fndU (fun s => canT P r g s && rgt P r g s) P.1 0 with
  | none => exact h
  | some s =>
    obtain ⟨-, h2, h3⟩ := fndU_lt hf
    rw [Bool.and_eq_true, canT, Bool.and_eq_true, Bool.and_eq_true] at h3
    exact iR_eat hP hg (by omega) h3.1.2.2 h
theorem iR_act {P : aP} {r : aR} {dr : Nat} (hP : iP P) (h : iR P r) : iR P (actF P r dr) := by
  have hm : dr % P.1 < P.1 := Nat.mod_lt _ hP.1
  unfold actF
  refine iR_low hP hm ?_
  split
  · exact iR_put hP hm h
  · exact h
theorem iR_til {P : aP} {g : Nat} (hP : iP P) : ∀ (k : Nat) (r : aR), iR P r → iR P (tilU P k g r) := by
  intro k; induction k with
  | zero => intro r h; exact h
  | succ k ih => intro r h; rw [tilU]; split
                 · exact ih _ (iR_mom hP h)
                 · exact h
theorem iR_knob {P : aP} {r : aR} {x : Int32} (hx : 1 ≤ x.toInt ∧ x.toInt ≤ 9) (h : iR P r) : iR P (upd r 0 x) := by
  obtain ⟨h1, h2, h3, h4, h5⟩ := h
  refine ⟨by rw [upd_eq]; exact hx, by rw [upd_ne (by decide)]; exact h2, fun i hi hw => ?_, fun i hi => by rw [upd_ne (by omega)]; exact h4 i hi, fun i j hi hj he hne => ?_⟩
  · rw [upd_ne (by omega)] at hw ⊢; exact h3 i hi hw
  · rw [upd_ne (by omega)] at he hne; rw [upd_ne (by omega)] at he; exact h5 i j hi hj he hne
theorem iR_bgn {P : aP} {kn ht : Int32} (h1 : 1 ≤ kn.toInt ∧ kn.toInt ≤ 9) (h2 : 0 ≤ ht.toInt ∧ ht.toInt ≤ 30) (hn : P.1 ≤ 9) : iR P (bgnF kn ht) := by
  refine ⟨h1, h2, fun i hi hw => ?_, fun i hi => Or.inl ?_, fun i j hi hj he hne => ?_⟩
  · rw [bgnF, if_neg (by omega), if_neg (by omega), if_pos (by omega)] at hw
    exact absurd hw (by decide)
  · rw [bgnF, if_neg (by omega), if_neg (by omega), if_neg (by omega)]
  · rw [bgnF, if_neg (by omega), if_neg (by omega), if_neg (by omega)] at hne
    exact absurd rfl hne
