/-! WHAT HOLDS OF THE ABSTRACT STATE stays so -/
def iD (d : aD) : Prop := d.1 ≤ 9 ∧ (2 ≤ d.2.1.toInt ∧ d.2.1.toInt ≤ 40) ∧ (1 ≤ d.2.2.1.toInt ∧ d.2.2.1.toInt ≤ 9) ∧ (0 ≤ d.2.2.2.1.toInt ∧ d.2.2.2.1.toInt ≤ 30) ∧ (0 ≤ d.2.2.2.2.1.toInt ∧ d.2.2.2.2.1.toInt ≤ 30) ∧ ∀ i, i < d.1 → 0 ≤ (d.2.2.2.2.2.1 i).toInt ∧ (d.2.2.2.2.2.1 i).toInt ≤ 3
theorem nI_rng {a lo hi : Nat} (h : lo ≤ a ∧ a ≤ hi) (hh : hi < 2 ^ 31) : (lo : Int) ≤ (nI a).toInt ∧ (nI a).toInt ≤ (hi : Int) := by
  rw [nI_toInt (by omega)]; omega
theorem telF_iD {c : Nat} {vs : Nat → Nat} {d d' : aD} (hd : iD d) (h : telF c vs d = some d') : iD d' := by
  obtain ⟨h1, h2, h3, h4, h5, h6⟩ := hd
  unfold telF at h
  split at h
  · split at h
    · rename_i hc
      cases h
      refine ⟨by show d.1 + 1 ≤ 9; omega, h2, h3, h4, h5, fun i hi => ?_⟩
      have hi : i < d.1 + 1 := hi
      show 0 ≤ (upd d.2.2.2.2.2.1 d.1 (nI (vs 0)) i).toInt ∧ (upd d.2.2.2.2.2.1 d.1 (nI (vs 0)) i).toInt ≤ 3
      by_cases hid : i = d.1
      · rw [hid, upd_eq]; exact nI_rng (lo := 0) (hi := 3) ⟨Nat.zero_le _, hc.2⟩ (by decide)
      · rw [upd_ne hid]; exact h6 i (by omega)
    · cases h
  · split at h
    · split at h
      · rename_i hc
        cases h
        exact ⟨h1, h2, h3, nI_rng (lo := 0) (hi := 30) ⟨Nat.zero_le _, hc.1⟩ (by decide), nI_rng (lo := 0) (hi := 30) ⟨Nat.zero_le _, hc.2⟩ (by decide), h6⟩
      · cases h
    · split at h
      · split at h
        · rename_i hc
          cases h
          exact ⟨h1, h2, nI_rng (lo := 1) (hi := 9) hc (by decide), h4, h5, h6⟩
        · cases h
      · split at h
        · split at h
          · rename_i hc
            cases h
            exact ⟨h1, nI_rng (lo := 2) (hi := 40) hc (by decide), h3, h4, h5, h6⟩
          · cases h
        · cases h
theorem itmF_iD {t : Nat → Nat} {L p q : Nat} {d d' : aD} (hd : iD d) (h : itmF t L p d = some (q, d')) : iD d' := by
  unfold itmF at h
  split at h
  · cases h
  · rename_i q' vs _
    cases ht : telF (t p) vs d with
    | none => rw [ht] at h; cases h
    | some d1 => rw [ht] at h; cases h; exact telF_iD hd ht
theorem fltU_iD {t : Nat → Nat} {L : Nat} : ∀ (k p : Nat) (d : aD), iD d → iD (fltU t L k p d).2 := by
  intro k; induction k with
  | zero => intro p d hd; exact hd
  | succ k ih =>
    intro p d hd
    rw [fltU]
    split
    · cases hi : itmF t L p d with
      | none => exact hd
      | some x => obtain ⟨q, d'⟩ := x; exact ih q d' (itmF_iD hd hi)
    · exact hd
theorem iD_0 : iD d0 := by
  refine ⟨by decide, by decide, by decide, by decide, by decide, fun i hi => absurd hi (Nat.not_lt_zero i)⟩
theorem iA_plan {T : Nat × (Nat → Nat)} {d : aD} (hd : iD d) (h1 : 1 ≤ d.1) : iA (T, planD d, bgnF d.2.2.1 d.2.2.2.1, [], [], f0) := by
  obtain ⟨a1, a2, a3, a4, a5, a6⟩ := hd
  exact ⟨⟨h1, a1, a2, a5, a6⟩, iR_bgn a3 a4 a1, fun r h => (by cases h), fun r h => (by cases h), fun i hi => absurd hi (Nat.not_lt_zero i)⟩
theorem iA_pst {P : aP} {r : aR} {acts : List aR} (h : iR P r) (h2 : ∀ q ∈ acts, iR P q) : ∀ q ∈ pst r acts, iR P q := by
  intro q hq
  have hq := List.mem_of_mem_take hq
  rcases List.mem_cons.mp hq with e | e
  · rw [e]; exact h
  · exact h2 q e
section IV
variable {A : aA}
theorem i_write {x : Int32} (h : iA A) : iA (o_write A x).2 := by
  obtain ⟨⟨L, t⟩, P, r, acts, kept, f⟩ := A
  rw [o_write]; split
  · split <;> exact h
  · exact h
theorem i_wipe (h : iA A) : iA (o_wipe A).2 := h
theorem i_fault (h : iA A) : iA (o_fault A).2 := h
theorem i_lay (h : iA A) : iA (o_lay A).2 := by
  obtain ⟨⟨L, t⟩, P, r, acts, kept, f⟩ := A
  rw [o_lay]; split
  · rename_i hc
    exact iA_plan (fltU_iD 200 0 d0 iD_0) (Nat.pos_of_ne_zero hc.2)
  · exact h
theorem i_guest {x w : Int32} (h : iA A) : iA (o_guest A x w).2 := h
theorem i_slice {x w : Int32} (h : iA A) : iA (o_slice A x w).2 := h
theorem i_putIn {x l : Int32} (h : iA A) : iA (o_putIn A x l).2 := by
  obtain ⟨T, P, r, acts, kept, f⟩ := A
  obtain ⟨jP, jR, jA, jE, jF⟩ := id h
  rw [o_putIn]; split
  · rename_i hc
    rw [Bool.and_eq_true] at hc
    split
    · exact ⟨jP, iR_put jP (gok_nI hc.1).1 jR, iA_pst jR jA, jE, jF⟩
    · exact h
  · exact h
theorem i_pass {x : Int32} (h : iA A) : iA (o_pass A x).2 := by
  obtain ⟨T, P, r, acts, kept, f⟩ := A
  obtain ⟨jP, jR, jA, jE, jF⟩ := id h
  rw [o_pass]; split
  · split
    · exact h
    · exact ⟨jP, iR_momN' jP _ _ jR, iA_pst jR jA, jE, jF⟩
  · exact h
theorem i_knob {x : Int32} (h : iA A) : iA (o_knob A x).2 := by
  obtain ⟨T, P, r, acts, kept, f⟩ := A
  obtain ⟨jP, jR, jA, jE, jF⟩ := id h
  rw [o_knob]; split
  · rename_i hc
    rw [wn_iff, Int32.le_iff_toInt_le, Int32.le_iff_toInt_le] at hc
    exact ⟨jP, iR_knob hc jR, iA_pst jR jA, jE, jF⟩
  · exact h
theorem i_take {x y : Int32} (h : iA A) : iA (o_take A x y).2 := by
  obtain ⟨T, P, r, acts, kept, f⟩ := A
  obtain ⟨jP, jR, jA, jE, jF⟩ := id h
  rw [o_take]; split
  · rename_i hc
    rw [Bool.and_eq_true] at hc
    split
    · rename_i hcan
      rw [canT, Bool.and_eq_true, Bool.and_eq_true] at hcan
      exact ⟨jP, iR_eat jP (gok_nI hc.1).1 (gok_nI hc.2).1 hcan.2.2 jR, iA_pst jR jA, jE, jF⟩
    · exact h
  · exact h
theorem i_undo (h : iA A) : iA (o_undo A).2 := by
  obtain ⟨T, P, r, acts, kept, f⟩ := A
  obtain ⟨jP, jR, jA, jE, jF⟩ := id h
  cases acts with
  | nil => exact h
  | cons q acts => exact ⟨jP, jA q (List.mem_cons_self ..), fun z hz => jA z (List.mem_cons_of_mem _ hz), jE, jF⟩
theorem i_falls {x : Int32} (h : iA A) : iA (o_falls A x).2 := h
theorem i_willBe {x : Int32} (h : iA A) : iA (o_willBe A x).2 := h
theorem i_content (h : iA A) : iA (o_content A).2 := h
theorem i_knobFor {x l : Int32} (h : iA A) : iA (o_knobFor A x l).2 := h
theorem i_often {x l : Int32} (h : iA A) : iA (o_often A x l).2 := h
theorem i_waits {x l : Int32} (h : iA A) : iA (o_waits A x l).2 := h
theorem i_harm {x : Int32} (h : iA A) : iA (o_harm A x).2 := h
theorem i_share {x : Int32} (h : iA A) : iA (o_share A x).2 := h
theorem i_round (h : iA A) : iA (o_round A).2 := h
theorem i_seen {k l n v : Int32} (h : iA A) : iA (o_seen A k l n v).2 := by
  obtain ⟨T, P, r, acts, kept, f⟩ := A
  obtain ⟨jP, jR, jA, jE, jF⟩ := id h
  rw [o_seen]; split
  · rename_i hc
    simp only [Bool.and_eq_true, wn_iff, Int32.le_iff_toInt_le] at hc
    split
    · refine ⟨jP, jR, jA, jE, fun i hi => ?_⟩
      have hi : i < f.1 + 1 := hi
      by_cases hid : i = f.1
      · subst hid
        simp only [addF, upd_eq]
        exact ⟨hc.1, hc.2.2.1⟩
      · have := jF i (show i < f.1 by omega)
        simp [addF, upd, hid]
        exact this
    · exact h
  · exact h
theorem i_forget (h : iA A) : iA (o_forget A).2 := by
  obtain ⟨T, P, r, acts, kept, f⟩ := A
  exact ⟨h.1, h.2.1, h.2.2.1, h.2.2.2.1, fun i hi => absurd hi (Nat.not_lt_zero i)⟩
theorem i_hot {w : Int32} (h : iA A) : iA (o_hot A w).2 := h
theorem i_left {x n w : Int32} (h : iA A) : iA (o_left A x n w).2 := h
theorem i_morning {z n w : Int32} (h : iA A) : iA (o_morning A z n w).2 := h
theorem i_keep (h : iA A) : iA (o_keep A).2 := by
  obtain ⟨T, P, r, acts, kept, f⟩ := A
  obtain ⟨jP, jR, jA, jE, jF⟩ := id h
  rw [o_keep]; split
  · refine ⟨jP, jR, jA, fun q hq => ?_, jF⟩
    rcases List.mem_cons.mp hq with e | e
    · rw [e]; exact jR
    · exact jE q e
  · exact h
theorem i_back (h : iA A) : iA (o_back A).2 := by
  obtain ⟨T, P, r, acts, kept, f⟩ := A
  obtain ⟨jP, jR, jA, jE, jF⟩ := id h
  cases kept with
  | nil => exact h
  | cons q kept => exact ⟨jP, jE q (List.mem_cons_self ..), fun z hz => (by cases hz), fun z hz => jE z (List.mem_cons_of_mem _ hz), jF⟩
theorem i_count {w : Int32} (h : iA A) : iA (o_count A w).2 := h
end IV
