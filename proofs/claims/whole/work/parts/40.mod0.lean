/-! THE MODEL'S CELLS -/
def shM (B : sB) : Prop := B.2.1[102]? = some (.inr (.inl (7, [some 103, none, some 104, some 105, some 106, some 107, some 108, some 109, some 110, some 111, none, none, some 112, some 113, some 114, some 115, none, some 116, none, some 117, some 118, some 119, some 120, some 121, some 122, none]))) ∧ B.2.1[103]? = some (.inl (2, 200)) ∧ B.2.1[104]? = some (.inl (0, 2)) ∧ B.2.1[105]? = some (.inl (0, 2)) ∧ B.2.1[106]? = some (.inl (0, 2)) ∧ B.2.1[107]? = some (.inl (0, 2)) ∧ B.2.1[108]? = some (.inl (0, 2)) ∧ B.2.1[109]? = some (.inl (0, 18)) ∧ B.2.1[110]? = some (.inl (0, 18)) ∧ B.2.1[111]? = some (.inl (0, 18)) ∧ B.2.1[112]? = some (.inl (0, 3)) ∧ B.2.1[113]? = some (.inl (0, 48)) ∧ B.2.1[114]? = some (.inl (0, 48)) ∧ B.2.1[115]? = some (.inl (0, 384)) ∧ B.2.1[116]? = some (.inl (0, 96)) ∧ B.2.1[117]? = some (.inl (0, 5120)) ∧ B.2.1[118]? = some (.inl (0, 9)) ∧ B.2.1[119]? = some (.inl (0, 6)) ∧ B.2.1[120]? = some (.inl (0, 6)) ∧ B.2.1[121]? = some (.inl (0, 6)) ∧ B.2.1[122]? = some (.inl (0, 6))
def ag (f r : aR) : Prop := ∀ k, k < 48 → f k = r k
def pM (S : sSt) (P : aP) : Prop := P.1 ≤ 9 ∧ S 104 0 = nI P.1 ∧ S 105 0 = P.2.1 ∧ S 108 0 = P.2.2.1 ∧ ∀ i, i < P.1 → S 109 i = P.2.2.2.1 i ∧ S 110 i = P.2.2.2.2.1 i ∧ S 111 i = P.2.2.2.2.2 i
def chM (S S' : sSt) (a : Nat) (r : aR) : Prop := ag (S' a) r ∧ ∀ b, b ≠ a → S' b = S b
def qM (S : sSt) (a : Nat) (r : aR) : Option Value → sSt → Prop := fun v S' => v = none ∧ chM S S' a r
def qIM (f : Int32) (S : sSt) (a : Nat) (r : aR) : Option Value → sSt → Prop := fun v S' => v = some (.int f) ∧ chM S S' a r
theorem chM_rfl {S : sSt} {a : Nat} {r : aR} (h : ag (S a) r) : chM S S a r := ⟨h, fun _ _ => rfl⟩
theorem chM_trans {S S1 S2 : sSt} {a : Nat} {r1 r2 : aR} (h1 : chM S S1 a r1) (h2 : chM S1 S2 a r2) : chM S S2 a r2 := ⟨h2.1, fun b hb => (h2.2 b hb).trans (h1.2 b hb)⟩
theorem chM_put {S S' : sSt} {a j : Nat} {r : aR} {v : Int32} (h : chM S S' a r) : chM S (s_put S' a j v) a (upd r j v) := by
  refine ⟨fun k hk => ?_, fun b hb => by rw [s_put_ne hb]; exact h.2 b hb⟩
  rw [s_put_eq]
  unfold upd
  split
  · rfl
  · exact h.1 k hk
theorem pM_ch {S S' : sSt} {a : Nat} {r : aR} {P : aP} (h : chM S S' a r) (ha : 112 ≤ a) (hP : pM S P) : pM S' P := by
  obtain ⟨h1, h2, h3, h4, h5⟩ := hP
  have e : ∀ b, b < 112 → S' b = S b := fun b hb => h.2 b (by omega)
  exact ⟨h1, by rw [e 104 (by omega)]; exact h2, by rw [e 105 (by omega)]; exact h3, by rw [e 108 (by omega)]; exact h4, fun i hi => by rw [e 109 (by omega), e 110 (by omega), e 111 (by omega)]; exact h5 i hi⟩
theorem pM_ag {S S' : sSt} {P : aP} (h : ∀ b, 104 ≤ b → b < 112 → S' b = S b) (hP : pM S P) : pM S' P := by
  obtain ⟨h1, h2, h3, h4, h5⟩ := hP
  exact ⟨h1, by rw [h 104 (by omega) (by omega)]; exact h2, by rw [h 105 (by omega) (by omega)]; exact h3, by rw [h 108 (by omega) (by omega)]; exact h4, fun i hi => by rw [h 109 (by omega) (by omega), h 110 (by omega) (by omega), h 111 (by omega) (by omega)]; exact h5 i hi⟩
def falU (P : aP) : Nat → Nat → aR → Nat
  | 0, _, _ => 0
  | k + 1, i, r => (if r (3 + i) = 1 ∧ P.2.1 ≤ r (21 + i) + r 0 then 1 else 0) + falU P k (i + 1) (carF P r i)
theorem falU_le (P : aP) : ∀ k i r, falU P k i r ≤ k := by
  intro k; induction k with
  | zero => intro i r; exact Nat.le_refl 0
  | succ k ih => intro i r; rw [falU]; have := ih (i + 1) (carF P r i); split <;> omega
/-- the array that is asked: now or tried -/
def isA (B : sB) (a : Nat) : Prop := (a = 113 ∨ a = 114) ∧ B.2.1[a]? = some (.inl (0, 48))
