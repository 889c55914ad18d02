/-! THE SEARCH succeeds: one guest more has a slice; and the whole is the largest share -/
section KV
variable {fit : Nat → Nat → Bool} {n : Nat}
def foH (fit : Nat → Nat → Bool) (n g : Nat) (fr : Nat → Bool) (tr : Nat → Bool) (tk : Nat → Option Nat) : Prop :=
  (∀ s, tr s = false → fr s = true) ∧ (∀ s, tk s = some g → tr s = true)
theorem updO_eq {f : Nat → Option Nat} {k : Nat} {x : Option Nat} : updO f k x k = x := if_pos rfl
theorem updO_ne {f : Nat → Option Nat} {k j : Nat} {x : Option Nat} (h : j ≠ k) : updO f k x j = f j := if_neg h
theorem updB_eq {f : Nat → Bool} {k : Nat} {x : Bool} : updB f k x k = x := if_pos rfl
theorem updB_ne {f : Nat → Bool} {k j : Nat} {x : Bool} (h : j ≠ k) : updB f k x j = f j := if_neg h
theorem foL_succ {rec : Nat → aQ → Bool × aQ} {g : Nat} {fr Z : Nat → Bool} {tk : Nat → Option Nat} (hm : ∀ g tr tk, foM tr tk (rec g (tr, tk))) (hZ : clZ fit n fr Z tk) (hJ : ∀ s s' h, tk s = some h → tk s' = some h → s = s')
    (hsh : ∀ g tr, (∀ s, tr s = false → fr s = true) → (∀ s, s < n → fit g s = true → fr s = true → Z s = true) → (rec g (tr, tk)).1 = false)
    (hrec : ∀ g tr, foH fit n g fr tr tk → (rec g (tr, tk)).1 = true → foS fit n g fr Z tr tk (rec g (tr, tk)).2.2) :
    ∀ (k s : Nat) (tr : Nat → Bool), s + k = n → foH fit n g fr tr tk → (foL fit rec k s g (tr, tk)).1 = true → foS fit n g fr Z tr tk (foL fit rec k s g (tr, tk)).2.2 := by
  intro k; induction k with
  | zero => intro s tr _ _ h; cases h
  | succ k ih =>
    intro s tr hs hH
    rw [foL]
    split
    · rename_i hcond
      rw [Bool.and_eq_true] at hcond
      have hts : tr s = false := by have := hcond.2; simpa using this
      have hne : ∀ s', tr s' = true → s' ≠ s := fun s' h e => by rw [e, hts] at h; cases h
      cases htk : (tr, tk).2 s with
      | none =>
        have htk : tk s = none := htk
        intro _
        show foS fit n g fr Z tr tk (updO tk s (some g))
        have hu : ∀ s' h, updO tk s (some g) s' = some h → h ≠ g → s' ≠ s ∧ tk s' = some h := fun s' h e hg => by
          by_cases q : s' = s
          · rw [q, updO_eq] at e; exact absurd (Option.some.inj e).symm hg
          · exact ⟨q, by rw [updO_ne q] at e; exact e⟩
        refine ⟨fun s' h => updO_ne (hne s' h), fun s' h => updO_ne (fun e => ?_), ⟨s, by omega, hts, updO_eq⟩, fun s' h e => ?_, fun h hg => ⟨fun ⟨s', e⟩ => ⟨s', (hu s' h e hg).2⟩, fun ⟨s', e⟩ => ⟨s', ?_⟩⟩, fun s' s'' h a b hg => hJ s' s'' h (hu s' h a hg).2 (hu s'' h b hg).2, fun s' s'' a b c d => ?_⟩
        · obtain ⟨h', q, -⟩ := hZ s' h; rw [e, htk] at q; cases q
        · by_cases q : s' = s
          · rw [q, updO_eq] at e; cases e; subst q; exact Or.inr ⟨by omega, hcond.1, hH.1 _ hts⟩
          · rw [updO_ne q] at e; exact Or.inl e
        · rw [updO_ne (fun q => by rw [q, htk] at e; cases e)]; exact e
        · have hq : ∀ x, updO tk s (some g) x = some g → tr x = false → x = s := fun x h1 h2 => by
            by_cases q : x = s
            · exact q
            · rw [updO_ne q] at h1; rw [hH.2 x h1] at h2; cases h2
          rw [hq s' a c, hq s'' b d]
      | some g' =>
        have htk : tk s = some g' := htk
        have hgg : g' ≠ g := fun e => by rw [e] at htk; rw [hH.2 s htk] at hts; cases hts
        simp only
        split
        · rename_i hq
          intro _
          have hf1 : ∀ s', updB tr s true s' = false → fr s' = true := fun s' h => hH.1 s' (by unfold updB at h; split at h; cases h; exact h)
          have hI := hrec g' (updB tr s true) ⟨hf1, fun s' h => by rw [hJ s' s g' h htk, updB_eq]⟩ hq
          show foS fit n g fr Z tr tk (updO (rec g' (updB tr s true, tk)).2.2 s (some g))
          generalize (rec g' (updB tr s true, tk)).2.2 = tk1 at hI ⊢
          obtain ⟨p1, p2, ⟨s1, q1, q2, q3⟩, p4, p5, p6, p7⟩ := hI
          have hs1 : s1 ≠ s := fun e => by rw [e, updB_eq] at q2; cases q2
          have hk1 : tk1 s = some g' := (p1 s updB_eq).trans htk
          have hup : ∀ s', tr s' = true → updB tr s true s' = true := fun s' h => by unfold updB; split; rfl; exact h
          have hu : ∀ s' h, updO tk1 s (some g) s' = some h → h ≠ g → s' ≠ s ∧ tk1 s' = some h := fun s' h e hg => by
            by_cases q : s' = s
            · rw [q, updO_eq] at e; exact absurd (Option.some.inj e).symm hg
            · exact ⟨q, by rw [updO_ne q] at e; exact e⟩
          refine ⟨fun s' h => ?_, fun s' h => ?_, ⟨s, by omega, hts, updO_eq⟩, fun s' h e => ?_, fun h hg => ?_, fun s' s'' h a b hg => ?_, fun s' s'' a b c d => ?_⟩
          · rw [updO_ne (hne s' h)]; exact p1 s' (hup s' h)
          · by_cases q : s' = s
            · subst q
              obtain ⟨h', a1, a2⟩ := hZ s' h
              rw [htk] at a1; cases a1
              rw [hsh g' (updB tr s' true) hf1 a2] at hq; cases hq
            · rw [updO_ne q]; exact p2 s' h
          · by_cases q : s' = s
            · rw [q, updO_eq] at e; cases e; subst q; exact Or.inr ⟨by omega, hcond.1, hH.1 _ hts⟩
            · rw [updO_ne q] at e; exact p4 s' h e
          · by_cases hh : h = g'
            · subst hh
              exact ⟨fun _ => ⟨s, htk⟩, fun _ => ⟨s1, by rw [updO_ne hs1]; exact q3⟩⟩
            · refine Iff.trans ⟨fun ⟨s', e⟩ => ⟨s', (hu s' h e hg).2⟩, fun ⟨s', e⟩ => ⟨s', ?_⟩⟩ (p5 h hh)
              rw [updO_ne (fun q => by rw [q, hk1] at e; exact hh (Option.some.inj e).symm)]; exact e
          · obtain ⟨a1, a2⟩ := hu s' h a hg
            obtain ⟨b1, b2⟩ := hu s'' h b hg
            by_cases hh : h = g'
            · subst hh
              have hx : ∀ x, x ≠ s → tk1 x = some h → updB tr s true x = false := fun x e1 e2 => by
                cases hb : updB tr s true x with
                | false => rfl
                | true => rw [p1 x hb] at e2; exact absurd (hJ x s h e2 htk) e1
              exact p7 s' s'' a2 b2 (hx s' a1 a2) (hx s'' b1 b2)
            · exact p6 s' s'' h a2 b2 hh
          · have hx : ∀ x, updO tk1 s (some g) x = some g → tr x = false → x = s := fun x h1 h2 => by
              by_cases q : x = s
              · exact q
              · rw [updO_ne q] at h1
                obtain ⟨y, hy⟩ := (p5 g (fun e => hgg e.symm)).mp ⟨x, h1⟩
                have hty := hH.2 y hy
                have := p6 x y g h1 ((p1 y (hup y hty)).trans hy) (fun e => hgg e.symm)
                rw [this, hty] at h2; cases h2
            rw [hx s' a c, hx s'' b d]
        · rename_i hq
          have hq := Bool.eq_false_iff.mpr hq
          obtain ⟨e1, e2⟩ := hm g' (updB tr s true) tk hq
          intro h
          generalize hR : rec g' (updB tr s true, tk) = R at h e1 e2 ⊢
          obtain ⟨b, tr2, tk2⟩ := R
          have e1 : tk2 = tk := e1
          subst e1
          have h12 : ∀ s', tr s' = true → tr2 s' = true := fun s' h' => e2 s' (by unfold updB; split; rfl; exact h')
          have h21 : ∀ s', tr2 s' = false → tr s' = false := fun s' h' => by
            cases hb : tr s' with
            | false => rfl
            | true => rw [h12 s' hb] at h'; cases h'
          obtain ⟨p1, p2, ⟨s1, q1, q2, q3⟩, p4, p5, p6, p7⟩ := ih (s + 1) tr2 (by omega) ⟨fun s' h' => hH.1 s' (h21 s' h'), fun s' h' => h12 s' (hH.2 s' h')⟩ h
          refine ⟨fun s' h' => p1 s' (h12 s' h'), p2, ⟨s1, q1, h21 s1 q2, q3⟩, p4, p5, p6, fun s' s'' a b c d => ?_⟩
          have hx : ∀ x, (foL fit rec k (s + 1) g (tr2, tk2)).2.2 x = some g → tr x = false → tr2 x = false := fun x h1 h2 => by
            cases hb : tr2 x with
            | false => rfl
            | true => rw [p1 x hb] at h1; rw [hH.2 x h1] at h2; cases h2
          exact p7 s' s'' a b (hx s' a c) (hx s'' b d)
    · exact fun h => ih (s + 1) tr (by omega) hH h
theorem fo_succ {fr Z : Nat → Bool} {tk : Nat → Option Nat} (hZ : clZ fit n fr Z tk) (hJ : ∀ s s' h, tk s = some h → tk s' = some h → s = s') : ∀ (e g : Nat) (tr : Nat → Bool), foH fit n g fr tr tk → (fo fit n e g (tr, tk)).1 = true → foS fit n g fr Z tr tk (fo fit n e g (tr, tk)).2.2 := by
  intro e; induction e with
  | zero => intro g tr _ h; cases h
  | succ e ih =>
    intro g tr hH
    rw [fo]
    exact foL_succ (fun g tr tk => fo_mono e g tr tk) hZ hJ (fun g tr a b => fo_shut hZ e g tr a b) ih n 0 tr (by omega) hH
/-- the share so far: valid, one each, and a closed set that holds all that the guests without a slice could use -/
def kuI (fit : Nat → Nat → Bool) (n : Nat) (fr : Nat → Bool) (g0 h : Nat) (tk : Nat → Option Nat) (Z : Nat → Bool) : Prop :=
  (∀ s x, tk s = some x → s < n ∧ fit x s = true ∧ fr s = true ∧ g0 ≤ x ∧ x < h) ∧ (∀ s s' x, tk s = some x → tk s' = some x → s = s') ∧ clZ fit n fr Z tk ∧ ∀ x, g0 ≤ x → x < h → (¬ ∃ s, tk s = some x) → ∀ s, s < n → fit x s = true → fr s = true → Z s = true
def mtF (n : Nat) (tk : Nat → Option Nat) (x : Nat) : Bool := (fndU (fun s => tk s == some x) n 0).isSome
theorem fndU_isSome {f : Nat → Bool} : ∀ (k i : Nat), (fndU f k i).isSome = true ↔ ∃ j, i ≤ j ∧ j < i + k ∧ f j = true := by
  intro k; induction k with
  | zero => intro i; exact ⟨fun h => (by cases h), fun ⟨j, a, b, _⟩ => by omega⟩
  | succ k ih =>
    intro i
    rw [fndU]
    by_cases h : f i = true
    · rw [if_pos h]; exact ⟨fun _ => ⟨i, Nat.le_refl i, by omega, h⟩, fun _ => rfl⟩
    · rw [if_neg h, ih (i + 1)]
      constructor
      · rintro ⟨j, a, b, c⟩; exact ⟨j, by omega, by omega, c⟩
      · rintro ⟨j, a, b, c⟩
        refine ⟨j, ?_, by omega, c⟩
        rcases Nat.lt_or_ge i j with q | q
        · exact q
        · have : j = i := by omega
          subst this; exact absurd c h
theorem mtF_iff {tk : Nat → Option Nat} {x : Nat} (h : ∀ s, tk s = some x → s < n) : mtF n tk x = true ↔ ∃ s, tk s = some x := by
  unfold mtF
  rw [fndU_isSome]
  constructor
  · rintro ⟨s, -, -, e⟩; exact ⟨s, by simpa using e⟩
  · rintro ⟨s, e⟩; exact ⟨s, Nat.zero_le _, by have := h s e; omega, by simp [e]⟩
theorem beq_of_iff {a b : Bool} (h : a = true ↔ b = true) : a = b := by
  cases a <;> cases b <;> simp_all
theorem mfU_kuhn {fr : Nat → Bool} {g0 : Nat} (hn : n ≤ 9) : ∀ (k h : Nat) (tk : Nat → Option Nat) (Z : Nat → Bool), kuI fit n fr g0 h tk Z → g0 ≤ h → ∃ tk' Z', kuI fit n fr g0 (h + k) tk' Z' ∧ (∀ x, x < h → mtF n tk' x = mtF n tk x) ∧ mfU fit n fr k h tk = cntU (mtF n tk') k h := by
  intro k; induction k with
  | zero => intro h tk Z hI _; exact ⟨tk, Z, hI, fun _ _ => rfl, rfl⟩
  | succ k ih =>
    intro h tk Z hI hg
    obtain ⟨V, J, C, K⟩ := hI
    rw [mfU]
    cases hb : (fo fit n 9 h ((fun s => !fr s), tk)).1 with
    | true =>
      have hS := fo_succ (fit := fit) (n := n) (fr := fr) C J 9 h (fun s => !fr s) ⟨fun s e => by simpa using e, fun s e => by have := (V s h e).2.2.2.2; omega⟩ hb
      generalize (fo fit n 9 h ((fun s => !fr s), tk)).2.2 = tk1 at hS ⊢
      obtain ⟨p1, p2, ⟨s1, q1, q2, q3⟩, p4, p5, p6, p7⟩ := hS
      have V1 : ∀ s x, tk1 s = some x → s < n ∧ fit x s = true ∧ fr s = true ∧ g0 ≤ x ∧ x < h + 1 := fun s x e => by
        by_cases hx : x = h
        · subst hx
          rcases p4 s x e with a | ⟨a, b, c⟩
          · have := V s x a; omega
          · exact ⟨a, b, c, hg, by omega⟩
        · obtain ⟨s2, e2⟩ := (p5 x hx).mp ⟨s, e⟩
          have hv := V s2 x e2
          rcases p4 s x e with a | ⟨a, b, c⟩
          · have hv := V s x a; exact ⟨hv.1, hv.2.1, hv.2.2.1, hv.2.2.2.1, by omega⟩
          · exact ⟨a, b, c, hv.2.2.2.1, by omega⟩
      have hfr : ∀ s, tk1 s = some h → (!fr s) = false := fun s e => by rw [(V1 s h e).2.2.1]; rfl
      have I1 : kuI fit n fr g0 (h + 1) tk1 Z := by
        refine ⟨V1, fun s s' x a b => ?_, fun s hz => ?_, fun x a b c => ?_⟩
        · by_cases hx : x = h
          · subst hx; exact p7 s s' a b (hfr s a) (hfr s' b)
          · exact p6 s s' x a b hx
        · obtain ⟨y, y1, y2⟩ := C s hz
          exact ⟨y, (p2 s hz).trans y1, y2⟩
        · have hx : x ≠ h := fun e => c ⟨s1, e ▸ q3⟩
          exact K x a (by omega) (fun e => c ((p5 x hx).mpr e))
      obtain ⟨tk2, Z2, J1, J2, J3⟩ := ih (h + 1) tk1 Z I1 (by omega)
      have hm : mtF n tk2 h = true := by rw [J2 h (by omega)]; exact (mtF_iff (fun s e => (V1 s h e).1)).mpr ⟨s1, q3⟩
      refine ⟨tk2, Z2, by rw [show h + (k + 1) = h + 1 + k by omega]; exact J1, fun x hx => ?_, ?_⟩
      · rw [J2 x (by omega)]
        apply beq_of_iff
        rw [mtF_iff (fun s e => (V1 s x e).1), mtF_iff (fun s e => (V s x e).1)]
        exact p5 x (by omega)
      · rw [J3, if_pos rfl, cntU, if_pos hm]
    | false =>
      obtain ⟨e1, e2⟩ := fo_mono (fit := fit) (n := n) 9 h (fun s => !fr s) tk hb
      have hc := fo_fail (fit := fit) (n := n) (tk := tk) 9 h (fun s => !fr s) (Nat.le_trans (cntU_le _ _ _) hn) hb
      generalize (fo fit n 9 h ((fun s => !fr s), tk)).2.2 = tk1 at e1 ⊢
      generalize (fo fit n 9 h ((fun s => !fr s), tk)).2.1 = tr1 at e2 hc
      subst e1
      obtain ⟨c1, c2⟩ := hc
      have I1 : kuI fit n fr g0 (h + 1) tk1 (fun s => Z s || (tr1 s && fr s)) := by
        refine ⟨fun s x e => ⟨(V s x e).1, (V s x e).2.1, (V s x e).2.2.1, (V s x e).2.2.2.1, by have := (V s x e).2.2.2.2; omega⟩, J, fun s hz => ?_, fun x a b c s f1 f2 f3 => ?_⟩
        · rw [Bool.or_eq_true] at hz
          rcases hz with hz | hz
          · obtain ⟨y, y1, y2⟩ := C s hz
            exact ⟨y, y1, fun s' a b c => by rw [Bool.or_eq_true]; exact Or.inl (y2 s' a b c)⟩
          · rw [Bool.and_eq_true] at hz
            obtain ⟨-, y, y1, y2⟩ := c2 s (by simp [hz.2]) hz.1
            exact ⟨y, y1, fun s' a b c => by rw [Bool.or_eq_true, Bool.and_eq_true]; exact Or.inr ⟨y2 s' a b, c⟩⟩
        · show (Z s || (tr1 s && fr s)) = true
          rw [Bool.or_eq_true, Bool.and_eq_true]
          by_cases hx : x = h
          · subst hx; exact Or.inr ⟨c1 s f1 f2, f3⟩
          · exact Or.inl (K x a (by omega) c s f1 f2 f3)
      obtain ⟨tk2, Z2, J1, J2, J3⟩ := ih (h + 1) tk1 _ I1 (by omega)
      have hm : ¬ mtF n tk2 h = true := by
        rw [J2 h (by omega), mtF_iff (fun s e => (V s h e).1)]
        rintro ⟨s, e⟩
        have := (V s h e).2.2.2.2; omega
      refine ⟨tk2, Z2, by rw [show h + (k + 1) = h + 1 + k by omega]; exact J1, fun x hx => J2 x (by omega), ?_⟩
      rw [J3, if_neg (by decide), cntU, if_neg hm]
/-- the largest share, by trying all -/
def mxU (f : Nat → Nat) : Nat → Nat → Nat → Nat
  | 0, _, b => b
  | k + 1, s, b => mxU f k (s + 1) (if b < f s then f s else b)
def dpB (fit : Nat → Nat → Bool) (n : Nat) : Nat → (Nat → Bool) → Nat
  | 0, _ => 0
  | k + 1, fr => mxU (fun s => if (fr s && fit (n - (k + 1)) s) = true then 1 + dpB fit n k (updB fr s false) else 0) n 0 (dpB fit n k fr)
theorem mxU_ge {f : Nat → Nat} : ∀ (k s b : Nat), b ≤ mxU f k s b ∧ ∀ j, s ≤ j → j < s + k → f j ≤ mxU f k s b := by
  intro k; induction k with
  | zero => intro s b; exact ⟨Nat.le_refl b, fun j a c => by omega⟩
  | succ k ih =>
    intro s b
    rw [mxU]
    obtain ⟨h1, h2⟩ := ih (s + 1) (if b < f s then f s else b)
    refine ⟨Nat.le_trans (by split <;> omega) h1, fun j a c => ?_⟩
    by_cases hj : j = s
    · subst hj; exact Nat.le_trans (by split <;> omega) h1
    · exact h2 j (by omega) (by omega)
theorem mxU_le {f : Nat → Nat} {M : Nat} : ∀ (k s b : Nat), b ≤ M → (∀ j, s ≤ j → j < s + k → f j ≤ M) → mxU f k s b ≤ M := by
  intro k; induction k with
  | zero => intro s b h _; exact h
  | succ k ih =>
    intro s b h hf
    rw [mxU]
    exact ih (s + 1) _ (by have := hf s (Nat.le_refl s) (by omega); split <;> omega) (fun j a c => hf j (by omega) (by omega))
theorem dpB_lower : ∀ (k : Nat) (fr : Nat → Bool) (tk : Nat → Option Nat), k ≤ n → (∀ s x, tk s = some x → s < n ∧ fit x s = true ∧ fr s = true) → (∀ s s' x, tk s = some x → tk s' = some x → s = s') → cntU (mtF n tk) k (n - k) ≤ dpB fit n k fr := by
  intro k; induction k with
  | zero => intro fr tk _ _ _; exact Nat.zero_le _
  | succ k ih =>
    intro fr tk hk V J
    rw [dpB, cntU, show n - (k + 1) + 1 = n - k by omega]
    generalize hf : (fun s => if (fr s && fit (n - (k + 1)) s) = true then 1 + dpB fit n k (updB fr s false) else 0) = f
    obtain ⟨h1, h2⟩ := mxU_ge (f := f) n 0 (dpB fit n k fr)
    by_cases hm : mtF n tk (n - (k + 1)) = true
    · rw [if_pos hm]
      obtain ⟨s, e⟩ := (mtF_iff (fun s e => (V s _ e).1)).mp hm
      obtain ⟨v1, v2, v3⟩ := V s _ e
      have hfs : f s = 1 + dpB fit n k (updB fr s false) := by rw [← hf]; simp [v2, v3]
      have hi := ih (updB fr s false) (updO tk s none) (by omega) (fun s' x a => ?_) (fun s' s'' x a b => ?_)
      · have hc : cntU (mtF n (updO tk s none)) k (n - k) = cntU (mtF n tk) k (n - k) := by
          refine cntU_congr k (n - k) (fun j a b => ?_)
          apply beq_of_iff
          rw [mtF_iff (fun s' q => ?_), mtF_iff (fun s' q => (V s' j q).1)]
          · constructor
            · rintro ⟨s', q⟩
              by_cases hs : s' = s
              · rw [hs, updO_eq] at q; cases q
              · rw [updO_ne hs] at q; exact ⟨s', q⟩
            · rintro ⟨s', q⟩
              refine ⟨s', ?_⟩
              rw [updO_ne (fun hs => ?_)]
              · exact q
              · rw [hs, e] at q; have := Option.some.inj q; omega
          · by_cases hs : s' = s
            · rw [hs, updO_eq] at q; cases q
            · rw [updO_ne hs] at q; exact (V s' j q).1
        have h3 := h2 s (Nat.zero_le _) (by omega)
        rw [hfs] at h3
        rw [hc] at hi
        omega
      · by_cases hs : s' = s
        · rw [hs, updO_eq] at a; cases a
        · rw [updO_ne hs] at a; rw [updB_ne hs]; exact V s' x a
      · by_cases hs : s' = s
        · rw [hs, updO_eq] at a; cases a
        · by_cases hs2 : s'' = s
          · rw [hs2, updO_eq] at b; cases b
          · rw [updO_ne hs] at a; rw [updO_ne hs2] at b; exact J s' s'' x a b
    · rw [if_neg hm]
      have := ih fr tk (by omega) V J
      omega
def mzF (n : Nat) (tk : Nat → Option Nat) (Z : Nat → Bool) (x : Nat) : Bool := (fndU (fun s => Z s && tk s == some x) n 0).isSome
theorem dpB_upper {fr : Nat → Bool} {g0 : Nat} {tk : Nat → Option Nat} {Z : Nat → Bool} (hI : kuI fit n fr g0 n tk Z) : ∀ (k : Nat) (fr' : Nat → Bool), k ≤ n - g0 → (∀ s, fr' s = true → fr s = true) → dpB fit n k fr' ≤ cntU (fun s => Z s && fr' s) n 0 + cntU (fun x => mtF n tk x && !mzF n tk Z x) k (n - k) := by
  obtain ⟨V, J, C, K⟩ := hI
  intro k; induction k with
  | zero => intro fr' _ _; exact Nat.zero_le _
  | succ k ih =>
    intro fr' hk hfr
    rw [dpB, cntU, show n - (k + 1) + 1 = n - k by omega]
    refine mxU_le n 0 _ ?_ (fun s _ hs => ?_)
    · have := ih fr' (by omega) hfr
      omega
    · split
      · rename_i hc
        rw [Bool.and_eq_true] at hc
        have hi := ih (updB fr' s false) (by omega) (fun s' e => hfr s' (by unfold updB at e; split at e; cases e; exact e))
        by_cases hz : Z s = true
        · have : cntU (fun s => Z s && fr' s) n 0 = cntU (fun s' => Z s' && updB fr' s false s') n 0 + 1 := by
            refine cnt_upd1 n 0 s (Nat.zero_le _) (by omega) ?_ ?_ ?_
            · simp [updB]
            · simp [hz, hc.1]
            · intro j hj; simp [updB, hj]
          omega
        · have hm : ((mtF n tk (n - (k + 1)) && !mzF n tk Z (n - (k + 1)))) = true := by
            rw [Bool.and_eq_true]
            constructor
            · cases hb : mtF n tk (n - (k + 1)) with
              | true => rfl
              | false =>
                refine absurd (K (n - (k + 1)) (by omega) (by omega) (fun q => ?_) s (by omega) hc.2 (hfr s hc.1)) hz
                rw [← mtF_iff (fun s e => (V s _ e).1), hb] at q; cases q
            · cases hb : mzF n tk Z (n - (k + 1)) with
              | false => rfl
              | true =>
                unfold mzF at hb
                obtain ⟨s0, -, -, e⟩ := (fndU_isSome n 0).mp hb
                rw [Bool.and_eq_true] at e
                obtain ⟨y, y1, y2⟩ := C s0 e.1
                have e2 : tk s0 = some (n - (k + 1)) := by simpa using e.2
                rw [e2] at y1; cases y1
                exact absurd (y2 s (by omega) hc.2 (hfr s hc.1)) hz
          rw [if_pos hm]
          have : cntU (fun s' => Z s' && updB fr' s false s') n 0 ≤ cntU (fun s => Z s && fr' s) n 0 := by
            refine cnt_mono n 0 (fun j _ _ hj => ?_)
            rw [Bool.and_eq_true] at hj ⊢
            refine ⟨hj.1, ?_⟩
            have := hj.2
            unfold updB at this; split at this
            · cases this
            · exact this
          omega
      · exact Nat.zero_le _
theorem cnt_pig {tk : Nat → Option Nat} {Z : Nat → Bool} {g0 k : Nat} (J : ∀ s s' x, tk s = some x → tk s' = some x → s = s') : ∀ (m i : Nat) (G : Nat → Bool), (∀ s, i ≤ s → s < i + m → Z s = true → ∃ x, tk s = some x ∧ g0 ≤ x ∧ x < g0 + k ∧ G x = true) → cntU Z m i ≤ cntU G k g0 := by
  intro m; induction m with
  | zero => intro i G _; exact Nat.zero_le _
  | succ m ih =>
    intro i G h
    rw [cntU]
    by_cases hz : Z i = true
    · rw [if_pos hz]
      obtain ⟨x, a, b, c, d⟩ := h i (Nat.le_refl i) (by omega) hz
      have h1 := ih (i + 1) (updB G x false) (fun s e1 e2 e3 => by
        obtain ⟨y, a', b', c', d'⟩ := h s (by omega) (by omega) e3
        refine ⟨y, a', b', c', ?_⟩
        rw [updB_ne (fun e => ?_)]
        · exact d'
        · have := J s i x (e ▸ a') a; omega)
      have h2 : cntU G k g0 = cntU (updB G x false) k g0 + 1 := cnt_upd1 k g0 x b c updB_eq d (fun j hj => (updB_ne hj).symm)
      omega
    · rw [if_neg hz]
      have := ih (i + 1) G (fun s e1 e2 e3 => h s (by omega) (by omega) e3)
      omega
theorem cnt_split {f g : Nat → Bool} : ∀ (k i : Nat), (∀ j, g j = true → f j = true) → cntU f k i = cntU g k i + cntU (fun j => f j && !g j) k i := by
  intro k; induction k with
  | zero => intro i _; rfl
  | succ k ih =>
    intro i h
    rw [cntU, cntU, cntU, ih (i + 1) h]
    have := h i
    cases hf : f i <;> cases hg : g i <;> simp_all <;> omega
theorem mos_dp {fr : Nat → Bool} {g : Nat} (hn : n ≤ 9) (hg : g ≤ n) : mosF fit n fr g = dpB fit n (n - g) fr := by
  obtain ⟨tk, Z, hI, -, e⟩ := mfU_kuhn (fit := fit) (n := n) (fr := fr) (g0 := g) hn (n - g) g (fun _ => none) (fun _ => false) ⟨fun s x e => (by cases e), fun s s' x e => (by cases e), fun s e => (by cases e), fun x a b => (by omega)⟩ (Nat.le_refl g)
  rw [show g + (n - g) = n by omega] at hI
  show mfU fit n fr (n - g) g (fun _ => none) = _
  rw [e]
  have hlo := dpB_lower (fit := fit) (n - g) fr tk (by omega) (fun s x q => ⟨(hI.1 s x q).1, (hI.1 s x q).2.1, (hI.1 s x q).2.2.1⟩) hI.2.1
  have hup := dpB_upper hI (n - g) fr (Nat.le_refl _) (fun _ h => h)
  rw [show n - (n - g) = g by omega] at hlo hup
  have h1 : cntU (fun s => Z s && fr s) n 0 ≤ cntU (mzF n tk Z) (n - g) g := by
    refine cnt_pig hI.2.1 n 0 _ (fun s _ hs hz => ?_)
    rw [Bool.and_eq_true] at hz
    obtain ⟨y, y1, y2⟩ := hI.2.2.1 s hz.1
    have hv := hI.1 s y y1
    refine ⟨y, y1, hv.2.2.2.1, by omega, ?_⟩
    exact (fndU_isSome n 0).mpr ⟨s, Nat.zero_le _, hs, by simp [hz.1, y1]⟩
  have h2 := cnt_split (f := mtF n tk) (g := mzF n tk Z) (n - g) g (fun j h => by
    obtain ⟨s, -, -, q⟩ := (fndU_isSome n 0).mp h
    rw [Bool.and_eq_true] at q
    exact (mtF_iff (fun s e => (hI.1 s _ e).1)).mpr ⟨s, by simpa using q.2⟩)
  omega
end KV
