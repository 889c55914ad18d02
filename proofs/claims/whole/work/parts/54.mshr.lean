/-! THE MODEL'S SHARE: the same choice -/
def frU (u s : Nat) : Bool := !u.testBit s
theorem frU_set (u s : Nat) : frU (u ||| 1 <<< s) = updB (frU u) s false := by
  funext j
  unfold frU updB
  rw [Nat.testBit_or, Nat.one_shiftLeft, Nat.testBit_two_pow]
  by_cases h : j = s
  · subst h; simp
  · rw [if_neg h]; simp [show ¬ s = j from fun e => h e.symm]
theorem frU_0 : frU 0 = fun _ => true := by funext j; simp [frU]
theorem bt_tst0 : ∀ u : Fin 512, ∀ s : Fin 9, (nI u.1 >>> (nI s.1 &&& 31)) &&& 1 = bI (u.1.testBit s.1 = true) := by decide +kernel
theorem bt_set0 : ∀ u : Fin 512, ∀ s : Fin 9, nI u.1 ||| ((1 : Int32) <<< (nI s.1 &&& 31)) = nI (u.1 ||| 1 <<< s.1) ∧ (u.1 ||| 1 <<< s.1) < 512 := by decide +kernel
theorem bt_tst {u s : Nat} (hu : u < 512) (hs : s < 9) : (nI u >>> (nI s &&& 31)) &&& 1 = bI (u.testBit s = true) := bt_tst0 ⟨u, hu⟩ ⟨s, hs⟩
theorem bt_set {u s : Nat} (hu : u < 512) (hs : s < 9) : nI u ||| ((1 : Int32) <<< (nI s &&& 31)) = nI (u ||| 1 <<< s) := (bt_set0 ⟨u, hu⟩ ⟨s, hs⟩).1
theorem bt_lt {u s : Nat} (hu : u < 512) (hs : s < 9) : (u ||| 1 <<< s) < 512 := (bt_set0 ⟨u, hu⟩ ⟨s, hs⟩).2
theorem or_0 (x : Int32) : x ||| 0 = x := by
  apply Int32.toBitVec_inj.mp
  rw [Int32.toBitVec_or]
  simp
section MS
variable {fit : Nat → Nat → Bool} {n : Nat}
theorem dpB_le : ∀ (k : Nat) (fr : Nat → Bool), dpB fit n k fr ≤ k := by
  intro k; induction k with
  | zero => intro fr; exact Nat.le_refl 0
  | succ k ih =>
    intro fr
    rw [dpB]
    refine mxU_le n 0 _ (Nat.le_succ_of_le (ih fr)) (fun j _ _ => ?_)
    split
    · have := ih (updB fr j false); omega
    · exact Nat.zero_le _
def pkF (fit : Nat → Nat → Bool) (n g : Nat) (fr : Nat → Bool) (s : Nat) : Bool := (fr s && fit g s) && (1 + dpB fit n (n - (g + 1)) (updB fr s false) == dpB fit n (n - g) fr)
def setM (fit : Nat → Nat → Bool) (n : Nat) : Nat → Nat → (Nat → Bool) → (Nat → Option Nat) → (Nat → Option Nat)
  | 0, _, _, ch => ch
  | k + 1, g, fr, ch => match fndU (pkF fit n g fr) n 0 with
      | none => setM fit n k (g + 1) fr (updO ch g none)
      | some s => setM fit n k (g + 1) (updB fr s false) (updO ch g (some s))
theorem low_pk {g : Nat} {fr : Nat → Bool} (hn : n ≤ 9) (hg : g < n) : ∀ (k s : Nat), lowU fit n g fr (dpB fit n (n - g) fr) k s = fndU (pkF fit n g fr) k s := by
  intro k; induction k with
  | zero => intro s; rfl
  | succ k ih =>
    intro s
    rw [lowU, fndU, ih (s + 1), mos_dp hn (by omega)]
    unfold pkF
    rw [Bool.and_comm (fr s) (fit g s)]
theorem mxU_pick {f : Nat → Nat} : ∀ (k s b : Nat), mxU f k s b = b ∨ ∃ j, s ≤ j ∧ j < s + k ∧ f j = mxU f k s b := by
  intro k; induction k with
  | zero => intro s b; exact Or.inl rfl
  | succ k ih =>
    intro s b
    rw [mxU]
    rcases ih (s + 1) (if b < f s then f s else b) with h | ⟨j, a, c, e⟩
    · rw [h]
      by_cases hb : b < f s
      · rw [if_pos hb]; exact Or.inr ⟨s, Nat.le_refl s, by omega, rfl⟩
      · rw [if_neg hb]; exact Or.inl rfl
    · exact Or.inr ⟨j, by omega, by omega, e⟩
theorem fndU_non {f : Nat → Bool} : ∀ (k i : Nat), fndU f k i = none → ∀ j, i ≤ j → j < i + k → f j = false := by
  intro k i h j a b
  cases hb : f j with
  | false => rfl
  | true =>
    have := (fndU_isSome (f := f) k i).mpr ⟨j, a, b, hb⟩
    rw [h] at this; cases this
theorem fndU_some {f : Nat → Bool} : ∀ (k i j : Nat), fndU f k i = some j → i ≤ j ∧ j < i + k ∧ f j = true := by
  intro k; induction k with
  | zero => intro i j h; cases h
  | succ k ih =>
    intro i j h
    rw [fndU] at h
    by_cases hf : f i = true
    · rw [if_pos hf] at h; cases h; exact ⟨Nat.le_refl _, by omega, hf⟩
    · rw [if_neg hf] at h
      have := ih (i + 1) j h
      exact ⟨by omega, by omega, this.2.2⟩
theorem set_eq (hn : n ≤ 9) : ∀ (k g : Nat) (fr : Nat → Bool) (ch : Nat → Option Nat), g + k = n → setU fit n k g fr (dpB fit n (n - g) fr) ch = setM fit n k g fr ch := by
  intro k; induction k with
  | zero => intro g fr ch _; rfl
  | succ k ih =>
    intro g fr ch hk
    rw [setU, setM, low_pk hn (by omega)]
    cases hp : fndU (pkF fit n g fr) n 0 with
    | none =>
      simp only
      rw [← ih (g + 1) fr _ (by omega)]
      congr 1
      have hno := fndU_non n 0 hp
      rw [show n - g = (n - (g + 1)) + 1 by omega]
      conv => lhs; rw [dpB]
      rcases mxU_pick (f := fun s => if (fr s && fit (n - (n - (g + 1) + 1)) s) = true then 1 + dpB fit n (n - (g + 1)) (updB fr s false) else 0) n 0 (dpB fit n (n - (g + 1)) fr) with h | ⟨j, a, c, e⟩
      · exact h
      · have hj := hno j a c
        have hle := (mxU_ge (f := fun s => if (fr s && fit (n - (n - (g + 1) + 1)) s) = true then 1 + dpB fit n (n - (g + 1)) (updB fr s false) else 0) n 0 (dpB fit n (n - (g + 1)) fr)).1
        rw [← e] at hle ⊢
        by_cases hc : (fr j && fit (n - (n - (g + 1) + 1)) j) = true
        · rw [if_pos hc] at e
          unfold pkF at hj
          rw [show n - (n - (g + 1) + 1) = g by omega] at hc e
          rw [hc, Bool.true_and, show n - g = (n - (g + 1)) + 1 by omega, dpB, show n - (n - (g + 1) + 1) = g by omega, ← e] at hj
          simp at hj
        · rw [if_neg hc] at hle ⊢; omega
    | some s =>
      simp only
      rw [← ih (g + 1) _ _ (by omega)]
      congr 1
      have := (fndU_some n 0 s hp).2.2
      unfold pkF at this
      rw [Bool.and_eq_true] at this
      have h2 := eq_of_beq this.2
      omega
/-- what is not yet decided does not look at what was -/
theorem setM_out : ∀ (k g : Nat) (fr : Nat → Bool) (ch ch' : Nat → Option Nat) (j : Nat), (g ≤ j → j < g + k → False) → ch j = ch' j → setM fit n k g fr ch j = ch' j := by
  intro k; induction k with
  | zero => intro g fr ch ch' j _ h; exact h
  | succ k ih =>
    intro g fr ch ch' j hj h
    rw [setM]
    have hne : j ≠ g := fun e => hj (by omega) (by omega)
    cases fndU (pkF fit n g fr) n 0 with
    | none => exact ih (g + 1) _ _ _ j (fun a b => hj (by omega) (by omega)) (by rw [updO_ne hne]; exact h)
    | some s => exact ih (g + 1) _ _ _ j (fun a b => hj (by omega) (by omega)) (by rw [updO_ne hne]; exact h)
end MS
theorem shrT_dp {P : aP} {r : aR} (hn : P.1 ≤ 9) : shrT P r = dpB (fitF P r) P.1 P.1 (fun _ => true) := mos_dp hn (Nat.zero_le _)
theorem shrC_set {P : aP} {r : aR} (hn : P.1 ≤ 9) : shrC P r = setM (fitF P r) P.1 P.1 0 (fun _ => true) (fun _ => none) := by
  unfold shrC
  rw [shrT_dp hn]
  exact set_eq hn P.1 0 _ _ (by omega)
def cnI (S : sSt) (P : aP) (r : aR) (g : Nat) : Prop := ∀ h, g ≤ h → h ≤ P.1 → ∀ u, u < 512 → S 117 (512 * h + u) = nI (dpB (fitF P r) P.1 (P.1 - h) (frU u))
def mxF (P : aP) (r : aR) (g u s : Nat) : Nat := if (frU u s && fitF P r g s) = true then 1 + dpB (fitF P r) P.1 (P.1 - (g + 1)) (updB (frU u) s false) else 0
theorem mxF_le {P : aP} {r : aR} {g u s : Nat} (hn : P.1 ≤ 9) : mxF P r g u s ≤ 10 := by
  unfold mxF
  split
  · have := dpB_le (fit := fitF P r) (n := P.1) (P.1 - (g + 1)) (updB (frU u) s false); omega
  · omega
theorem dpB_mx {P : aP} {r : aR} {g u : Nat} (hg : g < P.1) : dpB (fitF P r) P.1 (P.1 - g) (frU u) = mxU (mxF P r g u) P.1 0 (dpB (fitF P r) P.1 (P.1 - (g + 1)) (frU u)) := by
  rw [show P.1 - g = (P.1 - (g + 1)) + 1 by omega, dpB, show P.1 - (P.1 - (g + 1) + 1) = g by omega]
  rfl
