/-! THE TEXT: letters as numbers t 0 .. t (L-1) -/
def dgt (t : Nat → Nat) (L p : Nat) : Bool := decide (p < L) && (decide (48 ≤ t p) && decide (t p ≤ 57))
def fig (t : Nat → Nat) (L p : Nat) : Nat := if dgt t L p = true then (if dgt t L (p + 1) = true then 2 else 1) else 0
def vlu (t : Nat → Nat) (L p : Nat) : Nat := if dgt t L p = true then (if dgt t L (p + 1) = true then (t p - 48) * 10 + (t (p + 1) - 48) else t p - 48) else 0
def sgn (t : Nat → Nat) (L p c : Nat) : Bool := decide (p < L) && (t p == c)
def nbh (c : Nat) : Nat := if c = 103 then 3 else if c = 104 then 2 else if c = 107 then 1 else if c = 108 then 1 else 0
def updN (f : Nat → Nat) (k x : Nat) : Nat → Nat := fun j => if j = k then x else f j
def rdU (t : Nat → Nat) (L w : Nat) : Nat → Nat → Nat → (Nat → Nat) → Option (Nat × (Nat → Nat))
  | 0, _, p, vs => some (p, vs)
  | k + 1, i, p, vs => if fig t L p = 0 then none else if sgn t L (p + fig t L p) (if i + 1 = w then 59 else 44) = true then rdU t L w k (i + 1) (p + fig t L p + 1) (updN vs i (vlu t L p)) else none
/-- a draft: guests, places, knob, heat, most heat, kinds, least, most -/
abbrev aD : Type := Nat × Int32 × Int32 × Int32 × Int32 × (Nat → Int32) × (Nat → Int32) × (Nat → Int32)
def telF (c : Nat) (vs : Nat → Nat) (d : aD) : Option aD :=
  if c = 103 then (if d.1 < 9 ∧ vs 0 ≤ 3 then some (d.1 + 1, d.2.1, d.2.2.1, d.2.2.2.1, d.2.2.2.2.1, upd d.2.2.2.2.2.1 d.1 (nI (vs 0)), upd d.2.2.2.2.2.2.1 d.1 (nI (vs 1)), upd d.2.2.2.2.2.2.2 d.1 (nI (vs 2))) else none)
  else if c = 104 then (if vs 0 ≤ 30 ∧ vs 1 ≤ 30 then some (d.1, d.2.1, d.2.2.1, nI (vs 0), nI (vs 1), d.2.2.2.2.2) else none)
  else if c = 107 then (if 1 ≤ vs 0 ∧ vs 0 ≤ 9 then some (d.1, d.2.1, nI (vs 0), d.2.2.2) else none)
  else if c = 108 then (if 2 ≤ vs 0 ∧ vs 0 ≤ 40 then some (d.1, nI (vs 0), d.2.2) else none)
  else none
def itmF (t : Nat → Nat) (L p : Nat) (d : aD) : Option (Nat × aD) := match rdU t L (nbh (t p)) (nbh (t p)) 0 (p + 1) (fun _ => 0) with
  | none => none
  | some (q, vs) => (telF (t p) vs d).map (fun d' => (q, d'))
def fltU (t : Nat → Nat) (L : Nat) : Nat → Nat → aD → Option Nat × aD
  | 0, _, d => (none, d)
  | k + 1, p, d => if p < L then (match itmF t L p d with
      | none => (some p, d)
      | some (q, d') => fltU t L k q d') else (none, d)
def d0 : aD := (0, 18, 3, 8, 12, (fun _ => 0), (fun _ => 0), (fun _ => 0))
def fltF (t : Nat → Nat) (L : Nat) : Option Nat × aD := fltU t L 200 0 d0
def rD (S : sSt) (pl : Nat) (d : aD) : Prop := d.1 ≤ 9 ∧ S pl 4 = nI d.1 ∧ S pl 0 = d.2.1 ∧ S pl 1 = d.2.2.1 ∧ S pl 2 = d.2.2.2.1 ∧ S pl 3 = d.2.2.2.2.1 ∧ ∀ i, i < d.1 → S (pl + 1) i = d.2.2.2.2.2.1 i ∧ S (pl + 2) i = d.2.2.2.2.2.2.1 i ∧ S (pl + 3) i = d.2.2.2.2.2.2.2 i
def rT (S : sSt) (tx : Nat) (t : Nat → Nat) (L : Nat) : Prop := L ≤ 200 ∧ S tx 2 = nI L ∧ (∀ i, i < L → S (tx + 1) i = nI (t i) ∧ t i ≤ 126)
def shT (B : sB) (tx : Nat) : Prop := B.2.1[tx]? = some (.inr (.inl (5, [some (tx + 1), some (tx + 2), none, none]))) ∧ B.2.1[tx + 1]? = some (.inl (1, 200)) ∧ B.2.1[tx + 2]? = some (.inl (0, 3))
/-- only the draft's cells changed -/
def frD (S S' : sSt) (pl : Nat) : Prop := ∀ a, (a < pl ∨ pl + 4 ≤ a) → S' a = S a
/-- of the text only the place and the numbers changed -/
def frT (S S' : sSt) (tx : Nat) : Prop := (∀ a, a ≠ tx → a ≠ tx + 2 → S' a = S a) ∧ S' tx 2 = S tx 2
theorem rT_fr {S S' : sSt} {tx L : Nat} {t : Nat → Nat} (h : frT S S' tx) (hT : rT S tx t L) : rT S' tx t L := ⟨hT.1, by rw [h.2]; exact hT.2.1, fun i hi => by rw [h.1 (tx + 1) (by omega) (by omega)]; exact hT.2.2 i hi⟩
theorem frT_trans {S S1 S2 : sSt} {tx : Nat} (h1 : frT S S1 tx) (h2 : frT S1 S2 tx) : frT S S2 tx := ⟨fun a x y => (h2.1 a x y).trans (h1.1 a x y), h2.2.trans h1.2⟩
theorem frD_trans {S S1 S2 : sSt} {pl : Nat} (h1 : frD S S1 pl) (h2 : frD S1 S2 pl) : frD S S2 pl := fun a x => (h2 a x).trans (h1 a x)
theorem nI_within {a lo hi : Nat} (h1 : a < 2 ^ 31) (h2 : lo < 2 ^ 31) (h3 : hi < 2 ^ 31) : (nI lo ≤ nI a ∧ nI a ≤ nI hi) ↔ (lo ≤ a ∧ a ≤ hi) := by rw [nI_leI h2 h1, nI_leI h1 h3]
theorem rD_put {S : sSt} {pl : Nat} {d : aD} (h : rD S pl d) : True := trivial
