/-! MASKS of nine bits, and the search for a share as the class does it -/
def mk (x : Int32) (f : Nat → Bool) : Prop := ∀ s, s < 9 → x.toBitVec.getLsbD s = f s
def bt (s : Nat) : Int32 := (1 : Int32) <<< (nI s &&& 31)
def updB (f : Nat → Bool) (k : Nat) (x : Bool) : Nat → Bool := fun j => if j = k then x else f j
def updO (f : Nat → Option Nat) (k : Nat) (x : Option Nat) : Nat → Option Nat := fun j => if j = k then x else f j
theorem bt_bit : ∀ s, s < 9 → ∀ j, j < 32 → (bt s).toBitVec.getLsbD j = decide (j = s) := by decide
theorem m1_bit : ∀ j, j < 32 → (-1 : Int32).toBitVec.getLsbD j = true := by decide
theorem bit_and (x y : Int32) (j : Nat) : (x &&& y).toBitVec.getLsbD j = (x.toBitVec.getLsbD j && y.toBitVec.getLsbD j) := by
  rw [Int32.toBitVec_and, BitVec.getLsbD_and]
theorem bit_or (x y : Int32) (j : Nat) : (x ||| y).toBitVec.getLsbD j = (x.toBitVec.getLsbD j || y.toBitVec.getLsbD j) := by
  rw [Int32.toBitVec_or, BitVec.getLsbD_or]
theorem bit_xor (x y : Int32) (j : Nat) : (x ^^^ y).toBitVec.getLsbD j = (x.toBitVec.getLsbD j ^^ y.toBitVec.getLsbD j) := by
  rw [Int32.toBitVec_xor, BitVec.getLsbD_xor]
theorem mk_and {x y : Int32} {f g : Nat → Bool} (hx : mk x f) (hy : mk y g) : mk (x &&& y) (fun s => f s && g s) := fun s hs => by rw [bit_and, hx s hs, hy s hs]
theorem mk_not {x : Int32} {f : Nat → Bool} (hx : mk x f) : mk (x ^^^ (-1)) (fun s => !f s) := fun s hs => by rw [bit_xor, hx s hs, m1_bit s (by omega), Bool.xor_true]
theorem mk_or {x : Int32} {f : Nat → Bool} {s : Nat} (hx : mk x f) (hs : s < 9) : mk (x ||| bt s) (updB f s true) := fun j hj => by
  rw [bit_or, hx j hj, bt_bit s hs j (by omega)]
  unfold updB
  by_cases h : j = s <;> simp [h]
theorem mk_off {x : Int32} {f : Nat → Bool} {s : Nat} (hx : mk x f) (hs : s < 9) : mk (x &&& (bt s ^^^ (-1))) (updB f s false) := fun j hj => by
  rw [bit_and, bit_xor, hx j hj, bt_bit s hs j (by omega), m1_bit j (by omega)]
  unfold updB
  by_cases h : j = s <;> simp [h]
theorem mk_test {x : Int32} {f : Nat → Bool} {s : Nat} (hx : mk x f) (hs : s < 9) : x &&& bt s = 0 ↔ f s = false := by
  constructor
  · intro e
    have h1 : (x &&& bt s).toBitVec.getLsbD s = (0 : Int32).toBitVec.getLsbD s := by rw [e]
    rw [bit_and, hx s hs, bt_bit s hs s (by omega)] at h1
    simpa using h1
  · intro e
    apply Int32.toBitVec_inj.mp
    apply BitVec.eq_of_getLsbD_eq
    intro j hj
    rw [bit_and, bt_bit s hs j hj]
    by_cases h : j = s
    · subst h; rw [hx j hs, e]; simp
    · simp [h]
abbrev aQ : Type := (Nat → Bool) × (Nat → Option Nat)
def foL (fit : Nat → Nat → Bool) (rec : Nat → aQ → Bool × aQ) : Nat → Nat → Nat → aQ → Bool × aQ
  | 0, _, _, st => (false, st)
  | k + 1, s, g, st => if (fit g s && !(st.1 s)) = true then (match st.2 s with
      | none => (true, updB st.1 s true, updO st.2 s (some g))
      | some g' => if (rec g' (updB st.1 s true, st.2)).1 = true then (true, (rec g' (updB st.1 s true, st.2)).2.1, updO (rec g' (updB st.1 s true, st.2)).2.2 s (some g)) else foL fit rec k (s + 1) g (rec g' (updB st.1 s true, st.2)).2)
    else foL fit rec k (s + 1) g st
def fo (fit : Nat → Nat → Bool) (n : Nat) : Nat → Nat → aQ → Bool × aQ
  | 0, _, st => (false, st)
  | e + 1, g, st => foL fit (fo fit n e) n 0 g st
def mfU (fit : Nat → Nat → Bool) (n : Nat) (fr : Nat → Bool) : Nat → Nat → (Nat → Option Nat) → Nat
  | 0, _, _ => 0
  | k + 1, g, tk => (if (fo fit n 9 g ((fun s => !fr s), tk)).1 = true then 1 else 0) + mfU fit n fr k (g + 1) (fo fit n 9 g ((fun s => !fr s), tk)).2.2
def mosF (fit : Nat → Nat → Bool) (n : Nat) (fr : Nat → Bool) (g : Nat) : Nat := mfU fit n fr (n - g) g (fun _ => none)
def lowU (fit : Nat → Nat → Bool) (n g : Nat) (fr : Nat → Bool) (mi : Nat) : Nat → Nat → Option Nat
  | 0, _ => none
  | k + 1, s => if ((fit g s && fr s) && (1 + mosF fit n (updB fr s false) (g + 1) == mi)) = true then some s else lowU fit n g fr mi k (s + 1)
def setU (fit : Nat → Nat → Bool) (n : Nat) : Nat → Nat → (Nat → Bool) → Nat → (Nat → Option Nat) → (Nat → Option Nat)
  | 0, _, _, _, ch => ch
  | k + 1, g, fr, mi, ch => match lowU fit n g fr mi n 0 with
      | none => setU fit n k (g + 1) fr mi (updO ch g none)
      | some s => setU fit n k (g + 1) (updB fr s false) (mi - 1) (updO ch g (some s))
def fitF (P : aP) (r : aR) (g s : Nat) : Bool := decide (s < P.1) && (canT P r g s && rgt P r g s)
def shrT (P : aP) (r : aR) : Nat := mosF (fitF P r) P.1 (fun _ => true) 0
def shrC (P : aP) (r : aR) : Nat → Option Nat := setU (fitF P r) P.1 P.1 0 (fun _ => true) (shrT P r) (fun _ => none)
def shK (B : sB) (sh : Nat) : Prop := B.2.1[sh]? = some (.inr (.inl (3, [some (sh + 1), some (sh + 2), none, none, some (sh + 3), none]))) ∧ B.2.1[sh + 1]? = some (.inl (0, 9)) ∧ B.2.1[sh + 2]? = some (.inl (0, 9)) ∧ B.2.1[sh + 3]? = some (.inl (0, 9))
def rK0 (S : sSt) (sh n : Nat) (fit : Nat → Nat → Bool) : Prop := n ≤ 9 ∧ S sh 3 = nI n ∧ ∀ g, g < n → mk (S (sh + 1) g) (fit g)
def rK (S : sSt) (sh n : Nat) (fit : Nat → Nat → Bool) (st : aQ) : Prop := rK0 S sh n fit ∧ mk (S sh 2) st.1 ∧ (∀ s, s < 9 → S (sh + 2) s = oI (st.2 s)) ∧ ∀ s g, s < 9 → st.2 s = some g → g < n
def frK (S S' : sSt) (sh : Nat) : Prop := (∀ a, a ≠ sh → a ≠ sh + 2 → S' a = S a) ∧ ∀ j, j ≠ 2 → S' sh j = S sh j
theorem frK_rfl {S : sSt} {sh : Nat} : frK S S sh := ⟨fun _ _ _ => rfl, fun _ _ => rfl⟩
theorem frK_trans {S S1 S2 : sSt} {sh : Nat} (h1 : frK S S1 sh) (h2 : frK S1 S2 sh) : frK S S2 sh := ⟨fun a x y => (h2.1 a x y).trans (h1.1 a x y), fun j x => (h2.2 j x).trans (h1.2 j x)⟩
theorem rK0_fr {S S' : sSt} {sh n : Nat} {fit : Nat → Nat → Bool} (h : frK S S' sh) (hK : rK0 S sh n fit) : rK0 S' sh n fit := ⟨hK.1, by rw [h.2 3 (by decide)]; exact hK.2.1, fun g hg => by rw [h.1 (sh + 1) (by omega) (by omega)]; exact hK.2.2 g hg⟩
theorem oI_eq4 {o : Option Nat} (h : ∀ g, o = some g → g < 9) : oI o = -4 ↔ o = none := by
  cases o with
  | none => simp [oI]
  | some g =>
    have := h g rfl
    simp only [oI]
    exact ⟨fun q => absurd q (nI_ne4 (by omega)), fun q => by cases q⟩
