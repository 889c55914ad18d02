/-! THE SEARCH: what it leaves behind when it fails, and when it succeeds -/
theorem cnt_upd1 {f f' : Nat → Bool} : ∀ (k i h0 : Nat), i ≤ h0 → h0 < i + k → f h0 = false → f' h0 = true → (∀ j, j ≠ h0 → f' j = f j) → cntU f' k i = cntU f k i + 1 := by
  intro k; induction k with
  | zero => intro i h0 h1 h2; omega
  | succ k ih =>
    intro i h0 h1 h2 hf hf' ho
    rw [cntU, cntU]
    by_cases hi : i = h0
    · subst hi
      rw [if_pos hf', if_neg (by rw [hf]; decide), cntU_congr (f := f') (g := f) k (i + 1) (fun j a b => ho j (by omega))]
      omega
    · rw [ih (i + 1) h0 (by omega) (by omega) hf hf' ho, ho i hi]
      omega
theorem cnt_mono {f g : Nat → Bool} : ∀ (k i : Nat), (∀ j, i ≤ j → j < i + k → f j = true → g j = true) → cntU f k i ≤ cntU g k i := by
  intro k; induction k with
  | zero => intro i _; exact Nat.le_refl 0
  | succ k ih =>
    intro i h
    rw [cntU, cntU]
    have h1 := ih (i + 1) (fun j a b => h j (by omega) (by omega))
    by_cases hf : f i = true
    · rw [if_pos hf, if_pos (h i (Nat.le_refl i) (by omega) hf)]; omega
    · rw [if_neg hf]; split <;> omega
section KU
variable {fit : Nat → Nat → Bool} {n : Nat}
/-- a failure leaves the takers, and only adds to what was tried -/
def foM (tr : Nat → Bool) (tk : Nat → Option Nat) (R : Bool × aQ) : Prop := R.1 = false → R.2.2 = tk ∧ ∀ s, tr s = true → R.2.1 s = true
theorem foL_mono {rec : Nat → aQ → Bool × aQ} (hrec : ∀ g tr tk, foM tr tk (rec g (tr, tk))) : ∀ (k s g : Nat) (tr : Nat → Bool) (tk : Nat → Option Nat), foM tr tk (foL fit rec k s g (tr, tk)) := by
  intro k; induction k with
  | zero => intro s g tr tk _; exact ⟨rfl, fun _ h => h⟩
  | succ k ih =>
    intro s g tr tk
    rw [foL]
    split
    · cases htk : (tr, tk).2 s with
      | none => intro h; cases h
      | some g' =>
        simp only
        split
        · intro h; cases h
        · rename_i hq
          obtain ⟨e1, e2⟩ := hrec g' (updB tr s true) tk (Bool.eq_false_iff.mpr hq)
          intro h
          generalize hR : rec g' (updB tr s true, tk) = R at h e1 e2 ⊢
          obtain ⟨b, tr2, tk2⟩ := R
          have e1 : tk2 = tk := e1
          subst e1
          obtain ⟨f1, f2⟩ := ih (s + 1) g tr2 tk2 h
          refine ⟨f1, fun s' hs' => f2 s' (e2 s' ?_)⟩
          unfold updB
          split
          · rfl
          · exact hs'
    · exact ih (s + 1) g tr tk
theorem fo_mono : ∀ (e g : Nat) (tr : Nat → Bool) (tk : Nat → Option Nat), foM tr tk (fo fit n e g (tr, tk)) := by
  intro e; induction e with
  | zero => intro g tr tk _; exact ⟨rfl, fun _ h => h⟩
  | succ e ih => intro g tr tk; rw [fo]; exact foL_mono ih n 0 g tr tk
/-- a failure with enough depth: what was tried is closed -/
def foC (fit : Nat → Nat → Bool) (n g : Nat) (tr : Nat → Bool) (tk : Nat → Option Nat) (tr2 : Nat → Bool) : Prop := (∀ s, s < n → fit g s = true → tr2 s = true) ∧ ∀ s, tr s = false → tr2 s = true → s < n ∧ ∃ h, tk s = some h ∧ ∀ s', s' < n → fit h s' = true → tr2 s' = true
theorem foL_fail {rec : Nat → aQ → Bool × aQ} {e g : Nat} {tk : Nat → Option Nat} (hm : ∀ g tr tk, foM tr tk (rec g (tr, tk))) (hrec : ∀ g tr, cntU (fun s => !tr s) n 0 ≤ e → (rec g (tr, tk)).1 = false → foC fit n g tr tk (rec g (tr, tk)).2.1) :
    ∀ (k s : Nat) (tr : Nat → Bool), s + k = n → (∀ s', s' < s → fit g s' = true → tr s' = true) → cntU (fun s => !tr s) n 0 ≤ e + 1 → (foL fit rec k s g (tr, tk)).1 = false → foC fit n g tr tk (foL fit rec k s g (tr, tk)).2.1 := by
  intro k; induction k with
  | zero =>
    intro s tr hs hd _ _
    exact ⟨fun s' h1 h2 => hd s' (by omega) h2, fun s' h1 h2 => absurd (h1.symm.trans h2) (by decide)⟩
  | succ k ih =>
    intro s tr hs hd hc
    rw [foL]
    split
    · rename_i hcond
      rw [Bool.and_eq_true] at hcond
      have hts : tr s = false := by have := hcond.2; simpa using this
      cases htk : (tr, tk).2 s with
      | none => intro h; cases h
      | some g' =>
        have htk : tk s = some g' := htk
        simp only
        split
        · intro h; cases h
        · rename_i hq
          have hq := Bool.eq_false_iff.mpr hq
          obtain ⟨e1, e2⟩ := hm g' (updB tr s true) tk hq
          have hcu : cntU (fun s => !tr s) n 0 = cntU (fun j => !(updB tr s true) j) n 0 + 1 := by
            refine cnt_upd1 n 0 s (Nat.zero_le _) (by omega) ?_ ?_ ?_
            · simp [updB]
            · simp [hts]
            · intro j hj; simp [updB, hj]
          have hr := hrec g' (updB tr s true) (by omega) hq
          intro h
          generalize hR : rec g' (updB tr s true, tk) = R at h e1 e2 hr ⊢
          obtain ⟨b, tr2, tk2⟩ := R
          have e1 : tk2 = tk := e1
          subst e1
          have e2 : ∀ s', updB tr s true s' = true → tr2 s' = true := e2
          have hr : foC fit n g' (updB tr s true) tk2 tr2 := hr
          have h12 : ∀ s', tr s' = true → tr2 s' = true := fun s' h' => e2 s' (by unfold updB; split; rfl; exact h')
          have hss : tr2 s = true := e2 s (by simp [updB])
          have hc2 : cntU (fun s => !tr2 s) n 0 ≤ e + 1 := by
            refine Nat.le_trans (cnt_mono n 0 (fun j _ _ hj => ?_)) hc
            cases hb : tr j with
            | false => rfl
            | true => rw [h12 j hb] at hj; simp at hj
          have hI := ih (s + 1) tr2 (by omega) (fun s' h1 h2 => ?_) hc2 h
          · obtain ⟨-, f2⟩ := foL_mono hm k (s + 1) g tr2 tk2 h
            refine ⟨hI.1, fun s' h1 h2 => ?_⟩
            by_cases ht2 : tr2 s' = true
            · by_cases hs' : s' = s
              · subst hs'
                exact ⟨by omega, g', htk, fun s'' a b => f2 s'' (hr.1 s'' a b)⟩
              · obtain ⟨a1, h', a2, a3⟩ := hr.2 s' (by simp [updB, hs', h1]) ht2
                exact ⟨a1, h', a2, fun s'' a b => f2 s'' (a3 s'' a b)⟩
            · exact hI.2 s' (Bool.eq_false_iff.mpr ht2) h2
          · by_cases hs' : s' = s
            · rw [hs']; exact hss
            · exact h12 s' (hd s' (by omega) h2)
    · rename_i hcond
      intro h
      refine ih (s + 1) tr (by omega) (fun s' h1 h2 => ?_) hc h
      by_cases hs' : s' = s
      · subst hs'
        cases hb : tr s' with
        | true => rfl
        | false => exact absurd (by rw [h2]; simp [hb]) hcond
      · exact hd s' (by omega) h2
theorem fo_fail {tk : Nat → Option Nat} : ∀ (e g : Nat) (tr : Nat → Bool), cntU (fun s => !tr s) n 0 ≤ e → (fo fit n e g (tr, tk)).1 = false → foC fit n g tr tk (fo fit n e g (tr, tk)).2.1 := by
  intro e; induction e with
  | zero =>
    intro g tr hc _
    refine ⟨fun s hs _ => ?_, fun s h1 h2 => absurd (h1.symm.trans h2) (by decide)⟩
    cases hb : tr s with
    | true => exact hb
    | false =>
      have := cntU_pos (f := fun s => !tr s) (k := n) (i := 0) (j := s) (by omega) (by omega) (by simp [hb])
      omega
  | succ e ih =>
    intro g tr hc
    rw [fo]
    exact foL_fail (fun g tr tk => fo_mono e g tr tk) ih n 0 tr (by omega) (fun s' h => absurd h (Nat.not_lt_zero s')) hc
/-- a success: g has a slice more, all others have as many as before -/
def foS (fit : Nat → Nat → Bool) (n g : Nat) (fr : Nat → Bool) (Z : Nat → Bool) (tr : Nat → Bool) (tk tk2 : Nat → Option Nat) : Prop :=
  (∀ s, tr s = true → tk2 s = tk s) ∧ (∀ s, Z s = true → tk2 s = tk s) ∧ (∃ s, s < n ∧ tr s = false ∧ tk2 s = some g) ∧ (∀ s h, tk2 s = some h → tk s = some h ∨ (s < n ∧ fit h s = true ∧ fr s = true)) ∧ (∀ h, h ≠ g → ((∃ s, tk2 s = some h) ↔ ∃ s, tk s = some h)) ∧ (∀ s s' h, tk2 s = some h → tk2 s' = some h → h ≠ g → s = s') ∧ ∀ s s', tk2 s = some g → tk2 s' = some g → tr s = false → tr s' = false → s = s'
def clZ (fit : Nat → Nat → Bool) (n : Nat) (fr Z : Nat → Bool) (tk : Nat → Option Nat) : Prop := ∀ s, Z s = true → ∃ h, tk s = some h ∧ ∀ s', s' < n → fit h s' = true → fr s' = true → Z s' = true
/-- one whose every free slice lies in the closed set finds nothing -/
theorem foL_shut {rec : Nat → aQ → Bool × aQ} {g : Nat} {fr Z : Nat → Bool} {tk : Nat → Option Nat} (hm : ∀ g tr tk, foM tr tk (rec g (tr, tk))) (hZ : clZ fit n fr Z tk) (hg : ∀ s, s < n → fit g s = true → fr s = true → Z s = true)
    (hrec : ∀ g tr, (∀ s, tr s = false → fr s = true) → (∀ s, s < n → fit g s = true → fr s = true → Z s = true) → (rec g (tr, tk)).1 = false) :
    ∀ (k s : Nat) (tr : Nat → Bool), s + k = n → (∀ s, tr s = false → fr s = true) → (foL fit rec k s g (tr, tk)).1 = false := by
  intro k; induction k with
  | zero => intro s tr _ _; rfl
  | succ k ih =>
    intro s tr hs hf
    rw [foL]
    split
    · rename_i hcond
      rw [Bool.and_eq_true] at hcond
      have hts : tr s = false := by have := hcond.2; simpa using this
      obtain ⟨g', a1, a2⟩ := hZ s (hg s (by omega) hcond.1 (hf s hts))
      rw [show (tr, tk).2 s = some g' from a1]
      have hf1 : ∀ s', updB tr s true s' = false → fr s' = true := fun s' h => hf s' (by unfold updB at h; split at h; cases h; exact h)
      have hq := hrec g' (updB tr s true) hf1 a2
      obtain ⟨e1, e2⟩ := hm g' (updB tr s true) tk hq
      simp only
      rw [if_neg (by rw [hq]; decide)]
      generalize hR : rec g' (updB tr s true, tk) = R at e1 e2 ⊢
      obtain ⟨b, tr2, tk2⟩ := R
      have e1 : tk2 = tk := e1
      subst e1
      refine ih (s + 1) tr2 (by omega) (fun s' h => hf1 s' ?_)
      cases hb : updB tr s true s' with
      | false => rfl
      | true => exact absurd (h.symm.trans (e2 s' hb)) (by decide)
    · exact ih (s + 1) tr (by omega) hf
theorem fo_shut {fr Z : Nat → Bool} {tk : Nat → Option Nat} (hZ : clZ fit n fr Z tk) : ∀ (e g : Nat) (tr : Nat → Bool), (∀ s, tr s = false → fr s = true) → (∀ s, s < n → fit g s = true → fr s = true → Z s = true) → (fo fit n e g (tr, tk)).1 = false := by
  intro e; induction e with
  | zero => intro g tr _ _; rfl
  | succ e ih => intro g tr hf hg; rw [fo]; exact foL_shut (fun g tr tk => fo_mono e g tr tk) hZ hg ih n 0 tr (by omega) hf
end KU
