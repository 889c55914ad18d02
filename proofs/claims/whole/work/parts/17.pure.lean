theorem upd_eq (f : Nat → Int32) (k : Nat) (x : Int32) : upd f k x k = x := by simp [upd]
theorem upd_ne {f : Nat → Int32} {k j : Nat} {x : Int32} (h : j ≠ k) : upd f k x j = f j := by simp [upd, h]
section XG
variable {B : sB} {E : State → Prop} {y : MethodName} {cc : ByteArray} {mL : Nat} {rt : Option FieldType} {d pc : Nat} {lv : List (Nat × Value)} {st : List Value} {S : sSt} {Q : Option Value → sSt → Prop}
theorem x_gen {Pz : sSt → Prop} (h : Pz S) (k : ∀ S', Pz S' → WS B E y cc mL rt d pc lv st S' Q) : WS B E y cc mL rt d pc lv st S Q := k S h
end XG
theorem chB_w {S S' : sSt} {c i : Nat} {r : aR} {v : Int32} (h : chB S S' c r) (hi : i < 9) : chB S (s_put S' (c + 1) i v) c (upd r (3 + i) v) := by
  obtain ⟨⟨h0, h1, h2, h3⟩, hf⟩ := h
  refine ⟨⟨?_, ?_, ?_, fun j hj => ?_⟩, fun a ha => ?_⟩
  · rw [s_put_ne (by omega), upd_ne (by omega)]; exact h0
  · rw [s_put_ne (by omega), upd_ne (by omega)]; exact h1
  · rw [s_put_ne (by omega), upd_ne (by omega)]; exact h2
  · obtain ⟨g1, g2, g3, g4, g5⟩ := h3 j hj
    exact ⟨by
      by_cases hji : j = i
      · subst hji; rw [s_put_eq, if_pos rfl, upd_eq]
      · rw [s_put_eq, if_neg hji, upd_ne (by omega)]; exact g1, by rw [s_put_ne (by omega), upd_ne (by omega)]; exact g2, by rw [s_put_ne (by omega), upd_ne (by omega)]; exact g3, by rw [s_put_ne (by omega), upd_ne (by omega)]; exact g4, by rw [s_put_ne (by omega), upd_ne (by omega)]; exact g5⟩
  · rw [s_put_ne (by omega)]; exact hf a ha
theorem chB_l {S S' : sSt} {c i : Nat} {r : aR} {v : Int32} (h : chB S S' c r) (hi : i < 9) : chB S (s_put S' (c + 2) i v) c (upd r (12 + i) v) := by
  obtain ⟨⟨h0, h1, h2, h3⟩, hf⟩ := h
  refine ⟨⟨?_, ?_, ?_, fun j hj => ?_⟩, fun a ha => ?_⟩
  · rw [s_put_ne (by omega), upd_ne (by omega)]; exact h0
  · rw [s_put_ne (by omega), upd_ne (by omega)]; exact h1
  · rw [s_put_ne (by omega), upd_ne (by omega)]; exact h2
  · obtain ⟨g1, g2, g3, g4, g5⟩ := h3 j hj
    exact ⟨by rw [s_put_ne (by omega), upd_ne (by omega)]; exact g1, by
      by_cases hji : j = i
      · subst hji; rw [s_put_eq, if_pos rfl, upd_eq]
      · rw [s_put_eq, if_neg hji, upd_ne (by omega)]; exact g2, by rw [s_put_ne (by omega), upd_ne (by omega)]; exact g3, by rw [s_put_ne (by omega), upd_ne (by omega)]; exact g4, by rw [s_put_ne (by omega), upd_ne (by omega)]; exact g5⟩
  · rw [s_put_ne (by omega)]; exact hf a ha
theorem chB_p {S S' : sSt} {c i : Nat} {r : aR} {v : Int32} (h : chB S S' c r) (hi : i < 9) : chB S (s_put S' (c + 3) i v) c (upd r (21 + i) v) := by
  obtain ⟨⟨h0, h1, h2, h3⟩, hf⟩ := h
  refine ⟨⟨?_, ?_, ?_, fun j hj => ?_⟩, fun a ha => ?_⟩
  · rw [s_put_ne (by omega), upd_ne (by omega)]; exact h0
  · rw [s_put_ne (by omega), upd_ne (by omega)]; exact h1
  · rw [s_put_ne (by omega), upd_ne (by omega)]; exact h2
  · obtain ⟨g1, g2, g3, g4, g5⟩ := h3 j hj
    exact ⟨by rw [s_put_ne (by omega), upd_ne (by omega)]; exact g1, by rw [s_put_ne (by omega), upd_ne (by omega)]; exact g2, by
      by_cases hji : j = i
      · subst hji; rw [s_put_eq, if_pos rfl, upd_eq]
      · rw [s_put_eq, if_neg hji, upd_ne (by omega)]; exact g3, by rw [s_put_ne (by omega), upd_ne (by omega)]; exact g4, by rw [s_put_ne (by omega), upd_ne (by omega)]; exact g5⟩
  · rw [s_put_ne (by omega)]; exact hf a ha
theorem chB_b {S S' : sSt} {c i : Nat} {r : aR} {v : Int32} (h : chB S S' c r) (hi : i < 9) : chB S (s_put S' (c + 4) i v) c (upd r (30 + i) v) := by
  obtain ⟨⟨h0, h1, h2, h3⟩, hf⟩ := h
  refine ⟨⟨?_, ?_, ?_, fun j hj => ?_⟩, fun a ha => ?_⟩
  · rw [s_put_ne (by omega), upd_ne (by omega)]; exact h0
  · rw [s_put_ne (by omega), upd_ne (by omega)]; exact h1
  · rw [s_put_ne (by omega), upd_ne (by omega)]; exact h2
  · obtain ⟨g1, g2, g3, g4, g5⟩ := h3 j hj
    exact ⟨by rw [s_put_ne (by omega), upd_ne (by omega)]; exact g1, by rw [s_put_ne (by omega), upd_ne (by omega)]; exact g2, by rw [s_put_ne (by omega), upd_ne (by omega)]; exact g3, by
      by_cases hji : j = i
      · subst hji; rw [s_put_eq, if_pos rfl, upd_eq]
      · rw [s_put_eq, if_neg hji, upd_ne (by omega)]; exact g4, by rw [s_put_ne (by omega), upd_ne (by omega)]; exact g5⟩
  · rw [s_put_ne (by omega)]; exact hf a ha
theorem chB_e {S S' : sSt} {c i : Nat} {r : aR} {v : Int32} (h : chB S S' c r) (hi : i < 9) : chB S (s_put S' (c + 5) i v) c (upd r (39 + i) v) := by
  obtain ⟨⟨h0, h1, h2, h3⟩, hf⟩ := h
  refine ⟨⟨?_, ?_, ?_, fun j hj => ?_⟩, fun a ha => ?_⟩
  · rw [s_put_ne (by omega), upd_ne (by omega)]; exact h0
  · rw [s_put_ne (by omega), upd_ne (by omega)]; exact h1
  · rw [s_put_ne (by omega), upd_ne (by omega)]; exact h2
  · obtain ⟨g1, g2, g3, g4, g5⟩ := h3 j hj
    exact ⟨by rw [s_put_ne (by omega), upd_ne (by omega)]; exact g1, by rw [s_put_ne (by omega), upd_ne (by omega)]; exact g2, by rw [s_put_ne (by omega), upd_ne (by omega)]; exact g3, by rw [s_put_ne (by omega), upd_ne (by omega)]; exact g4, by
      by_cases hji : j = i
      · subst hji; rw [s_put_eq, if_pos rfl, upd_eq]
      · rw [s_put_eq, if_neg hji, upd_ne (by omega)]; exact g5⟩
  · rw [s_put_ne (by omega)]; exact hf a ha
theorem chB_k {S S' : sSt} {c : Nat} {r : aR} {v : Int32} (h : chB S S' c r) : chB S (s_put S' c 1 v) c (upd r 0 v) := by
  obtain ⟨⟨h0, h1, h2, h3⟩, hf⟩ := h
  refine ⟨⟨?_, ?_, ?_, fun j hj => ?_⟩, fun a ha => ?_⟩
  · rw [s_put_eq, if_pos rfl, upd_eq]
  · rw [s_put_eq, if_neg (by decide), upd_ne (by decide)]; exact h1
  · rw [s_put_eq, if_neg (by decide), upd_ne (by decide)]; exact h2
  · obtain ⟨g1, g2, g3, g4, g5⟩ := h3 j hj
    refine ⟨?_, ?_, ?_, ?_, ?_⟩ <;> rw [s_put_ne (by omega), upd_ne (by omega)] <;> assumption
  · rw [s_put_ne (by omega)]; exact hf a ha
theorem chB_h {S S' : sSt} {c : Nat} {r : aR} {v : Int32} (h : chB S S' c r) : chB S (s_put S' c 2 v) c (upd r 1 v) := by
  obtain ⟨⟨h0, h1, h2, h3⟩, hf⟩ := h
  refine ⟨⟨?_, ?_, ?_, fun j hj => ?_⟩, fun a ha => ?_⟩
  · rw [s_put_eq, if_neg (by decide), upd_ne (by decide)]; exact h0
  · rw [s_put_eq, if_pos rfl, upd_eq]
  · rw [s_put_eq, if_neg (by decide), upd_ne (by decide)]; exact h2
  · obtain ⟨g1, g2, g3, g4, g5⟩ := h3 j hj
    refine ⟨?_, ?_, ?_, ?_, ?_⟩ <;> rw [s_put_ne (by omega), upd_ne (by omega)] <;> assumption
  · rw [s_put_ne (by omega)]; exact hf a ha
theorem chB_m {S S' : sSt} {c : Nat} {r : aR} {v : Int32} (h : chB S S' c r) : chB S (s_put S' c 3 v) c (upd r 2 v) := by
  obtain ⟨⟨h0, h1, h2, h3⟩, hf⟩ := h
  refine ⟨⟨?_, ?_, ?_, fun j hj => ?_⟩, fun a ha => ?_⟩
  · rw [s_put_eq, if_neg (by decide), upd_ne (by decide)]; exact h0
  · rw [s_put_eq, if_neg (by decide), upd_ne (by decide)]; exact h1
  · rw [s_put_eq, if_pos rfl, upd_eq]
  · obtain ⟨g1, g2, g3, g4, g5⟩ := h3 j hj
    refine ⟨?_, ?_, ?_, ?_, ?_⟩ <;> rw [s_put_ne (by omega), upd_ne (by omega)] <;> assumption
  · rw [s_put_ne (by omega)]; exact hf a ha
theorem nI_of3 {x : Int32} {n : Nat} (h0 : 0 ≤ x.toInt) (h1 : x.toInt ≤ n) (hn : n < 2 ^ 31) : ∃ j : Nat, j ≤ n ∧ x = nI j := by
  obtain ⟨j, hj, rfl⟩ := nI_of (x := x) (by rw [Int32.lt_iff_toInt_lt]; simp; omega)
  rw [nI_toInt hj] at h1
  exact ⟨j, by omega, rfl⟩
theorem brw_cl {k h : Int32} {ln : Int32} (hh : 0 ≤ h.toInt ∧ h.toInt ≤ 30) : (if (0 : Int32) < (h + (if ln = 0 then 2 else 0)) - 3 then (h + (if ln = 0 then 2 else 0)) - 3 else 0) = (if (h + (if ln = 0 then 2 else 0)) < 3 then 0 else (h + (if ln = 0 then 2 else 0)) - 3) := by
  obtain ⟨j, hj, rfl⟩ := nI_of3 (n := 30) hh.1 (by omega) (by decide)
  have key : ∀ q : Nat, q ≤ 40 → (if (0 : Int32) < nI q - 3 then nI q - 3 else 0) = (if nI q < 3 then 0 else nI q - 3) := by decide
  by_cases hl : ln = 0
  · simp only [if_pos hl]
    rw [show nI j + 2 = nI (j + 2) from nI_add j 2]
    exact key _ (by omega)
  · simp only [if_neg hl]
    rw [show nI j + 0 = nI (j + 0) from nI_add j 0]
    exact key _ (by omega)
theorem heat_cl {P : aP} {on : Nat} {h : Int32} (hon : on ≤ 9) (h0 : on ≠ 0) (hh : 0 ≤ h.toInt ∧ h.toInt ≤ 30) : (if (0 : Int32) < h - nI on / 2 then h - nI on / 2 else 0) = heatF P on h := by
  obtain ⟨j, hj, rfl⟩ := nI_of3 (n := 30) hh.1 (by omega) (by decide)
  rw [heatF, if_neg h0]
  have key : ∀ o : Nat, o ≤ 9 → ∀ q : Nat, q ≤ 30 → (if (0 : Int32) < nI q - nI o / 2 then nI q - nI o / 2 else 0) = (if nI q < nI (o / 2) then 0 else nI q - nI (o / 2)) := by decide
  exact key on hon j hj
theorem carF_lo {P : aP} {r : aR} {g a : Nat} (ha : a < 3) : carF P r g a = r a := by
  unfold carF
  split
  · split
    · rw [upd_ne (by omega), upd_ne (by omega), upd_ne (by omega)]
    · rw [upd_ne (by omega), upd_ne (by omega)]
  · rfl
theorem carU_lo {P : aP} {a : Nat} (ha : a < 3) : ∀ (k i : Nat) (r : aR), carU P k i r a = r a := by
  intro k; induction k with
  | zero => intro i r; rfl
  | succ k ih => intro i r; rw [carU, ih, carF_lo ha]
theorem onF_le (P : aP) (r : aR) (x : Int32) : onF P r x ≤ P.1 := cntU_le _ _ _
