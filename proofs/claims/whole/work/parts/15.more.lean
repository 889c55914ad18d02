section XM
variable {B : sB} {E : State → Prop} {y : MethodName} {cc : ByteArray} {mL : Nat} {rt : Option FieldType} {d pc : Nat} {lv : List (Nat × Value)} {st : List Value} {S : sSt} {Q : Option Value → sSt → Prop}
theorem x_re {a b : Int32} (h : a = b) (k : WS B E y cc mL rt d pc lv (.int b :: st) S Q) : WS B E y cc mL rt d pc lv (.int a :: st) S Q := h ▸ k
theorem x_ialdN {a n j : Nat} (hsh : B.2.1[a]? = some (.inl (0, n))) (hd : decode cc pc = .ok (.iaload, 1)) (hj : j < n) (hN : n < 2 ^ 31) (k : WS B E y cc mL rt d (pc + 1) lv (.int (S a j) :: st) S Q) : WS B E y cc mL rt d pc lv (.int (nI j) :: .ref (s_ad B a) :: st) S Q :=
  x_iald hsh hd (vp_in_nI hj hN) (by rw [nI_clamp (by omega)]; exact k)
theorem x_caldN {a n j : Nat} (hsh : B.2.1[a]? = some (.inl (1, n))) (hd : decode cc pc = .ok (.caload, 1)) (hj : j < n) (hN : n < 2 ^ 31) (k : WS B E y cc mL rt d (pc + 1) lv (.int (S a j) :: st) S Q) : WS B E y cc mL rt d pc lv (.int (nI j) :: .ref (s_ad B a) :: st) S Q :=
  x_cald hsh hd (vp_in_nI hj hN) (by rw [nI_clamp (by omega)]; exact k)
theorem x_baldN {a n j : Nat} (hsh : B.2.1[a]? = some (.inl (2, n))) (hd : decode cc pc = .ok (.baload, 1)) (hj : j < n) (hN : n < 2 ^ 31) (k : WS B E y cc mL rt d (pc + 1) lv (.int (S a j) :: st) S Q) : WS B E y cc mL rt d pc lv (.int (nI j) :: .ref (s_ad B a) :: st) S Q :=
  x_bald hsh hd (vp_in_nI hj hN) (by rw [nI_clamp (by omega)]; exact k)
theorem x_iastN {a n j : Nat} {x0 : Int32} (hsh : B.2.1[a]? = some (.inl (0, n))) (hd : decode cc pc = .ok (.iastore, 1)) (hj : j < n) (hN : n < 2 ^ 31) (k : WS B E y cc mL rt d (pc + 1) lv st (s_put S a j x0) Q) : WS B E y cc mL rt d pc lv (.int x0 :: .int (nI j) :: .ref (s_ad B a) :: st) S Q :=
  x_iast hsh hd (vp_in_nI hj hN) (by rw [nI_clamp (by omega)]; exact k)
theorem x_castrN {a n j : Nat} {x0 : Int32} (hsh : B.2.1[a]? = some (.inl (1, n))) (hd : decode cc pc = .ok (.castore, 1)) (hj : j < n) (hN : n < 2 ^ 31) (k : WS B E y cc mL rt d (pc + 1) lv st (s_put S a j (vp_nar .char x0)) Q) : WS B E y cc mL rt d pc lv (.int x0 :: .int (nI j) :: .ref (s_ad B a) :: st) S Q :=
  x_castr hsh hd (vp_in_nI hj hN) (by rw [nI_clamp (by omega)]; exact k)
theorem x_bastN {a n j : Nat} {x0 : Int32} (hsh : B.2.1[a]? = some (.inl (2, n))) (hd : decode cc pc = .ok (.bastore, 1)) (hj : j < n) (hN : n < 2 ^ 31) (k : WS B E y cc mL rt d (pc + 1) lv st (s_put S a j (vp_nar .byte x0)) Q) : WS B E y cc mL rt d pc lv (.int x0 :: .int (nI j) :: .ref (s_ad B a) :: st) S Q :=
  x_bast hsh hd (vp_in_nI hj hN) (by rw [nI_clamp (by omega)]; exact k)
end XM
theorem sw_ne {x v : Int32} {n : Int} (hv : v.toInt = n) (h : ¬ x = v) : ¬ x.toInt = n := fun q => h (Int32.toInt_inj.mp (q.trans hv.symm))
theorem bI_congr {c c' : Prop} [Decidable c] [Decidable c'] (h : c ↔ c') : bI c = bI c' := by unfold bI; by_cases hc : c <;> simp [hc, ← h]
theorem bI_t {c : Prop} [Decidable c] (h : c) : (1 : Int32) = bI c := by simp [bI, h]
theorem bI_f {c : Prop} [Decidable c] (h : ¬ c) : (0 : Int32) = bI c := by simp [bI, h]
theorem qI_of {f f' : Int32} {S0 S1 : sSt} (h : f' = f) (h2 : S1 = S0) : qI f S0 (some (.int f')) S1 := ⟨by rw [h], h2⟩
/-! spec: counts and searches, by what is left to look at -/
def cntU (f : Nat → Bool) : Nat → Nat → Nat
  | 0, _ => 0
  | k + 1, i => (if f i = true then 1 else 0) + cntU f k (i + 1)
def fndU (f : Nat → Bool) : Nat → Nat → Option Nat
  | 0, _ => none
  | k + 1, i => if f i = true then some i else fndU f k (i + 1)
theorem cntU_le (f : Nat → Bool) : ∀ k i, cntU f k i ≤ k := by
  intro k; induction k with
  | zero => intro i; exact Nat.le_refl 0
  | succ k ih => intro i; unfold cntU; have := ih (i + 1); split <;> omega
theorem cntU_congr {f g : Nat → Bool} : ∀ k i, (∀ j, i ≤ j → j < i + k → f j = g j) → cntU f k i = cntU g k i := by
  intro k; induction k with
  | zero => intro i _; rfl
  | succ k ih => intro i h; unfold cntU; rw [h i (Nat.le_refl i) (by omega), ih (i + 1) (fun j h1 h2 => h j (by omega) (by omega))]
theorem fndU_congr {f g : Nat → Bool} : ∀ k i, (∀ j, i ≤ j → j < i + k → f j = g j) → fndU f k i = fndU g k i := by
  intro k; induction k with
  | zero => intro i _; rfl
  | succ k ih => intro i h; unfold fndU; rw [h i (Nat.le_refl i) (by omega), ih (i + 1) (fun j h1 h2 => h j (by omega) (by omega))]
/-! shapes -/
def shB (B : sB) (c pl : Nat) : Prop := B.2.1[c]? = some (.inr (.inl (0, [some pl, none, none, none, some (c + 1), some (c + 2), some (c + 3), some (c + 4), some (c + 5)]))) ∧ B.2.1[c + 1]? = some (.inl (0, 9)) ∧ B.2.1[c + 2]? = some (.inl (0, 9)) ∧ B.2.1[c + 3]? = some (.inl (0, 9)) ∧ B.2.1[c + 4]? = some (.inl (0, 9)) ∧ B.2.1[c + 5]? = some (.inl (0, 9))
def shP (B : sB) (pl : Nat) : Prop := B.2.1[pl]? = some (.inr (.inl (2, [none, none, none, none, none, some (pl + 1), some (pl + 2), some (pl + 3)]))) ∧ B.2.1[pl + 1]? = some (.inl (0, 9)) ∧ B.2.1[pl + 2]? = some (.inl (0, 9)) ∧ B.2.1[pl + 3]? = some (.inl (0, 9))
/-! a plan: guests, places, most heat, kinds, least, most; a row of 48: knob, heat, moments, where, lane, place, brown, eater -/
abbrev aP : Type := Nat × Int32 × Int32 × (Nat → Int32) × (Nat → Int32) × (Nat → Int32)
abbrev aR : Type := Nat → Int32
def rP (S : sSt) (pl : Nat) (P : aP) : Prop := P.1 ≤ 9 ∧ S pl 4 = nI P.1 ∧ S pl 0 = P.2.1 ∧ S pl 3 = P.2.2.1 ∧ ∀ i, i < P.1 → S (pl + 1) i = P.2.2.2.1 i ∧ S (pl + 2) i = P.2.2.2.2.1 i ∧ S (pl + 3) i = P.2.2.2.2.2 i
def rB (S : sSt) (c : Nat) (r : aR) : Prop := S c 1 = r 0 ∧ S c 2 = r 1 ∧ S c 3 = r 2 ∧ ∀ i, i < 9 → S (c + 1) i = r (3 + i) ∧ S (c + 2) i = r (12 + i) ∧ S (c + 3) i = r (21 + i) ∧ S (c + 4) i = r (30 + i) ∧ S (c + 5) i = r (39 + i)
section XM2
variable {B : sB} {E : State → Prop} {y : MethodName} {cc : ByteArray} {mL : Nat} {rt : Option FieldType} {d pc : Nat} {lv : List (Nat × Value)} {st : List Value} {S : sSt} {Q : Option Value → sSt → Prop}
theorem x_inc1N {i j : Nat} {lv' : List (Nat × Value)} (hd : decode cc pc = .ok (.iinc i 1, 3)) (hv0 : s_lk lv i = some (.int (nI j))) (hn : i < mL) (hlv : (i, Value.int (nI (j + 1))) :: lv.filter (fun q => !(q.1 == i) && !(q.1 + 1 == i && q.2.category == 2)) = lv') (k : WS B E y cc mL rt d (pc + 3) lv' st S Q) : WS B E y cc mL rt d pc lv st S Q :=
  x_iinc hd hv0 (nI_1 j) hn hlv k
end XM2
