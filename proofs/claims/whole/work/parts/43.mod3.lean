/-! THE MODEL HOLDS THE ABSTRACT STATE -/
def tM (S : sSt) (t : Nat → Nat) (L : Nat) : Prop := L ≤ 200 ∧ S 102 1 = nI L ∧ ∀ i, i < L → S 103 i = nI (t i) ∧ t i ≤ 126
def aM (S : sSt) (acts : List aR) : Prop := acts.length ≤ 8 ∧ S 102 16 = nI acts.length ∧ ∀ i r, acts[i]? = some r → ∀ k, k < 48 → S 115 (48 * (acts.length - 1 - i) + k) = r k
def eM (S : sSt) (kept : List aR) : Prop := kept.length ≤ 2 ∧ S 102 18 = nI kept.length ∧ ∀ i r, kept[i]? = some r → ∀ k, k < 48 → S 116 (48 * (kept.length - 1 - i) + k) = r k
def fM (S : sSt) (f : aF) : Prop := f.1 ≤ 6 ∧ S 102 25 = nI f.1 ∧ ∀ i, i < f.1 → S 119 i = f.2.1 i ∧ S 120 i = f.2.2.1 i ∧ S 121 i = f.2.2.2.1 i ∧ S 122 i = f.2.2.2.2 i
def RM (S : sSt) (A : aA) : Prop := tM S A.1.2 A.1.1 ∧ pM S A.2.1 ∧ ag (S 113) A.2.2.1 ∧ aM S A.2.2.2.1 ∧ eM S A.2.2.2.2.1 ∧ fM S A.2.2.2.2.2
def frM (S S' : sSt) : Prop := ∀ a, a < 102 → S' a = S a
def qR (S : sSt) (o : Int32 × aA) : Option Value → sSt → Prop := fun v S1 => v = some (.int o.1) ∧ RM S1 o.2 ∧ frM S S1
theorem qR_of {S S1 : sSt} {o : Int32 × aA} {v v' : Int32} {A' : aA} (e : o = (v', A')) (h1 : v = v') (h2 : RM S1 A') (h3 : frM S S1) : qR S o (some (.int v)) S1 := by
  subst e; subst h1; exact ⟨rfl, h2, h3⟩
theorem frM_rfl {S : sSt} : frM S S := fun _ _ => rfl
theorem frM_trans {S S1 S2 : sSt} (h1 : frM S S1) (h2 : frM S1 S2) : frM S S2 := fun a h => (h2 a h).trans (h1 a h)
theorem tM_ag {S S1 : sSt} {t : Nat → Nat} {L : Nat} (h : S1 102 1 = S 102 1) (h2 : S1 103 = S 103) (hT : tM S t L) : tM S1 t L := ⟨hT.1, by rw [h]; exact hT.2.1, fun i hi => by rw [h2]; exact hT.2.2 i hi⟩
theorem aM_ag {S S1 : sSt} {acts : List aR} (h : S1 102 16 = S 102 16) (h2 : S1 115 = S 115) (hA : aM S acts) : aM S1 acts := ⟨hA.1, by rw [h]; exact hA.2.1, fun i r hr k hk => by rw [h2]; exact hA.2.2 i r hr k hk⟩
theorem eM_ag {S S1 : sSt} {kept : List aR} (h : S1 102 18 = S 102 18) (h2 : S1 116 = S 116) (hE : eM S kept) : eM S1 kept := ⟨hE.1, by rw [h]; exact hE.2.1, fun i r hr k hk => by rw [h2]; exact hE.2.2 i r hr k hk⟩
theorem fM_ag {S S1 : sSt} {f : aF} (h : S1 102 25 = S 102 25) (h2 : ∀ a, 119 ≤ a → a < 123 → S1 a = S a) (hF : fM S f) : fM S1 f := ⟨hF.1, by rw [h]; exact hF.2.1, fun i hi => by rw [h2 119 (by omega) (by omega), h2 120 (by omega) (by omega), h2 121 (by omega) (by omega), h2 122 (by omega) (by omega)]; exact hF.2.2 i hi⟩
/-- tries, shares and what was told may change -/
theorem RM_scr {S S1 : sSt} {A : aA} (hM : RM S A) (h : ∀ a, a ≠ 114 → a ≠ 117 → a ≠ 118 → S1 a = S a) : RM S1 A ∧ frM S S1 := by
  obtain ⟨a1, a2, a3, a4, a5, a6⟩ := hM
  refine ⟨⟨tM_ag (by rw [h 102 (by omega) (by omega) (by omega)]) (h 103 (by omega) (by omega) (by omega)) a1, pM_ag (fun b x y => h b (by omega) (by omega) (by omega)) a2, ?_, aM_ag (by rw [h 102 (by omega) (by omega) (by omega)]) (h 115 (by omega) (by omega) (by omega)) a4, eM_ag (by rw [h 102 (by omega) (by omega) (by omega)]) (h 116 (by omega) (by omega) (by omega)) a5, fM_ag (by rw [h 102 (by omega) (by omega) (by omega)]) (fun a x y => h a (by omega) (by omega) (by omega)) a6⟩, fun a ha => h a (by omega) (by omega) (by omega)⟩
  rw [h 113 (by omega) (by omega) (by omega)]; exact a3
theorem RM_try {S S1 : sSt} {A : aA} {q : aR} (hM : RM S A) (h : chM S S1 114 q) : RM S1 A ∧ frM S S1 := RM_scr hM (fun a x _ _ => h.2 a x)
theorem fndU_snoc (f : Nat → Bool) : ∀ k i, fndU f (k + 1) i = match fndU f k i with
    | some j => some j
    | none => if f (i + k) = true then some (i + k) else none := by
  intro k; induction k with
  | zero => intro i; rfl
  | succ k ih =>
    intro i
    rw [fndU]
    by_cases h : f i = true
    · rw [if_pos h, fndU, if_pos h]
    · rw [if_neg h, ih (i + 1), fndU, if_neg h, show i + 1 + k = i + (k + 1) by omega]
theorem cntU_or {f g h : Nat → Bool} : ∀ k i, (∀ j, i ≤ j → j < i + k → (h j = (f j || g j)) ∧ (f j && g j) = false) → cntU f k i + cntU g k i = cntU h k i := by
  intro k; induction k with
  | zero => intro i _; rfl
  | succ k ih =>
    intro i hh
    obtain ⟨h1, h2⟩ := hh i (Nat.le_refl i) (by omega)
    have h3 := ih (i + 1) (fun j x y => hh j (by omega) (by omega))
    rw [cntU, cntU, cntU, h1]
    cases hf : f i <;> cases hg : g i <;> rw [hf, hg] at h2 <;> simp at h2 ⊢ <;> omega
theorem falU_cnt {P : aP} : ∀ (k i : Nat) (r : aR), i + k ≤ 9 → falU P k i r = cntU (fun g => decide (r (3 + g) = 1 ∧ P.2.1 ≤ r (21 + g) + r 0)) k i := by
  intro k; induction k with
  | zero => intro i r _; rfl
  | succ k ih =>
    intro i r hk
    rw [falU, cntU, ih (i + 1) _ (by omega)]
    congr 1
    · by_cases h : r (3 + i) = 1 ∧ P.2.1 ≤ r (21 + i) + r 0 <;> simp [h]
    · refine cntU_congr _ _ (fun j h1 h2 => ?_)
      have ha := carF_agr_o (P := P) (r := r) (g := j) (h := i) (by omega) (by omega) (by omega)
      rw [ha.2.2.1, ha.2.2.2.2.1, ha.1]
theorem fal_on {P : aP} {r : aR} (hn : P.1 ≤ 9) : onF P (momF P r) 1 + falU P P.1 0 r = onF P r 1 := by
  rw [falU_cnt P.1 0 r (by omega)]
  unfold onF
  refine cntU_or P.1 0 (fun j h1 h2 => ?_)
  rw [momF_3 hn (by omega)]
  by_cases h : r (3 + j) = 1
  · by_cases h2 : P.2.1 ≤ r (21 + j) + r 0 <;> simp [h, h2]
  · simp [h]
def falN (P : aP) : Nat → aR → Nat
  | 0, _ => 0
  | k + 1, r => falU P P.1 0 r + falN P k (momF P r)
theorem falN_on {P : aP} (hn : P.1 ≤ 9) : ∀ k r, onF P (momN P k r) 1 + falN P k r = onF P r 1 := by
  intro k; induction k with
  | zero => intro r; rfl
  | succ k ih => intro r; rw [momN, falN]; have := ih (momF P r); have := fal_on (r := r) hn; omega
theorem momN_succ {P : aP} : ∀ k r, momN P (k + 1) r = momF P (momN P k r) := by
  intro k; induction k with
  | zero => intro r; rfl
  | succ k ih => intro r; rw [momN, ih]; rfl
theorem iR_momN' {P : aP} (hP : iP P) : ∀ k r, iR P r → iR P (momN P k r) := by
  intro k; induction k with
  | zero => intro r h; exact h
  | succ k ih => intro r h; rw [momN]; exact ih _ (iR_mom hP h)
