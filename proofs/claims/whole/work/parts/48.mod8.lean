/-! THE MODEL READS -/
def vN (t : Nat → Nat) (p : Nat) : Nat → Nat
  | 0 => 0
  | n + 1 => 10 * vN t p n + (t (p + n) - 48)
def NR (t : Nat → Nat) (L p n : Nat) : Prop := n ≤ 3 ∧ (∀ j, j < n → dgt t L (p + j) = true) ∧ (n < 3 → dgt t L (p + n) = false)
def fok (t : Nat → Nat) (L p c : Nat) : Bool := decide (fig t L p ≠ 0) && sgn t L (p + fig t L p) c
def nxt (t : Nat → Nat) (L p : Nat) : Nat := p + fig t L p + 1
theorem NR_fig {t : Nat → Nat} {L p n : Nat} (h : NR t L p n) (h1 : n ≤ 2) : fig t L p = n ∧ vlu t L p = vN t p n := by
  obtain ⟨-, h2, h3⟩ := h
  have h4 : n = 0 ∨ n = 1 ∨ n = 2 := by omega
  rcases h4 with rfl | rfl | rfl
  · have := h3 (by omega); simp only [Nat.add_zero] at this; simp [fig, vlu, this, vN]
  · have a := h2 0 (by omega); have b := h3 (by omega)
    simp only [Nat.add_zero] at a
    simp [fig, vlu, a, b, vN]
  · have a := h2 0 (by omega); have b := h2 1 (by omega)
    simp only [Nat.add_zero] at a
    simp [fig, vlu, a, b, vN]
    omega
theorem NR_fok {t : Nat → Nat} {L p n c : Nat} (h : NR t L p n) (hc : c = 44 ∨ c = 59) : ((1 ≤ n ∧ n ≤ 2) ∧ sgn t L (p + n) c = true) ↔ fok t L p c = true := by
  by_cases h2 : n ≤ 2
  · obtain ⟨e1, e2⟩ := NR_fig h h2
    unfold fok
    rw [e1, Bool.and_eq_true, decide_eq_true_eq]
    constructor
    · rintro ⟨⟨a, b⟩, c⟩; exact ⟨by omega, c⟩
    · rintro ⟨a, b⟩; exact ⟨⟨by omega, h2⟩, b⟩
  · obtain ⟨a0, a1, a2⟩ := h
    have hn : n = 3 := by omega
    subst hn
    have d0 := a1 0 (by omega); have d1 := a1 1 (by omega); have d2 := a1 2 (by omega)
    simp only [Nat.add_zero] at d0
    have hf : fig t L p = 2 := by simp [fig, d0, d1]
    constructor
    · rintro ⟨⟨_, b⟩, _⟩; omega
    · intro q
      unfold fok at q
      rw [hf, Bool.and_eq_true] at q
      have h5 := dgt_le d2
      have h6 := q.2
      simp [sgn] at h6
      omega
theorem vN_le {t : Nat → Nat} {L p : Nat} : ∀ n, n ≤ 3 → (∀ j, j < n → dgt t L (p + j) = true) → vN t p n ≤ 999 := by
  intro n h h2
  have h4 : n = 0 ∨ n = 1 ∨ n = 2 ∨ n = 3 := by omega
  rcases h4 with rfl | rfl | rfl | rfl
  · simp [vN]
  · have a := dgt_le (h2 0 (by omega)); simp only [Nat.add_zero] at a; simp [vN]; omega
  · have a := dgt_le (h2 0 (by omega)); have b := dgt_le (h2 1 (by omega)); simp only [Nat.add_zero] at a; simp [vN]; omega
  · have a := dgt_le (h2 0 (by omega)); have b := dgt_le (h2 1 (by omega)); have c := dgt_le (h2 2 (by omega)); simp only [Nat.add_zero] at a; simp [vN]; omega
theorem rd_step {t : Nat → Nat} {L w k i p : Nat} {vs : Nat → Nat} {c : Nat} (hc : (if i + 1 = w then 59 else 44) = c) : rdU t L w (k + 1) i p vs = if fok t L p c = true then rdU t L w k (i + 1) (nxt t L p) (updN vs i (vlu t L p)) else none := by
  rw [rdU, hc]
  by_cases h1 : fig t L p = 0
  · rw [if_pos h1, if_neg (by unfold fok; simp [h1])]
  · rw [if_neg h1]
    by_cases h2 : sgn t L (p + fig t L p) c = true
    · rw [if_pos h2, if_pos (by unfold fok; simp [h1, h2])]; rfl
    · rw [if_neg h2, if_neg (by unfold fok; simp [h2])]
theorem itm_l {t : Nat → Nat} {L p : Nat} {d : aD} (h : t p = 108) : itmF t L p d = if fok t L (p + 1) 59 = true ∧ 2 ≤ vlu t L (p + 1) ∧ vlu t L (p + 1) ≤ 40 then some (nxt t L (p + 1), (d.1, nI (vlu t L (p + 1)), d.2.2)) else none := by
  rw [itmF_K, h]
  show itmK t L 1 108 d 1 0 (p + 1) (fun _ => 0) = _
  unfold itmK
  rw [rd_step (c := 59) rfl]
  by_cases h1 : fok t L (p + 1) 59 = true
  · rw [if_pos h1, rdU]
    show ((telF 108 _ d).map _) = _
    unfold telF
    rw [if_neg (by decide), if_neg (by decide), if_neg (by decide), if_pos rfl]
    by_cases h4 : 2 ≤ vlu t L (p + 1) ∧ vlu t L (p + 1) ≤ 40
    · simp [updN, h4, h1]
    · simp [updN, h4]
  · rw [if_neg h1, if_neg (fun z => h1 z.1)]; rfl
theorem itm_k {t : Nat → Nat} {L p : Nat} {d : aD} (h : t p = 107) : itmF t L p d = if fok t L (p + 1) 59 = true ∧ 1 ≤ vlu t L (p + 1) ∧ vlu t L (p + 1) ≤ 9 then some (nxt t L (p + 1), (d.1, d.2.1, nI (vlu t L (p + 1)), d.2.2.2)) else none := by
  rw [itmF_K, h]
  show itmK t L 1 107 d 1 0 (p + 1) (fun _ => 0) = _
  unfold itmK
  rw [rd_step (c := 59) rfl]
  by_cases h1 : fok t L (p + 1) 59 = true
  · rw [if_pos h1, rdU]
    show ((telF 107 _ d).map _) = _
    unfold telF
    rw [if_neg (by decide), if_neg (by decide), if_pos rfl]
    by_cases h4 : 1 ≤ vlu t L (p + 1) ∧ vlu t L (p + 1) ≤ 9
    · simp [updN, h4, h1]
    · simp [updN, h4]
  · rw [if_neg h1, if_neg (fun z => h1 z.1)]; rfl
theorem itm_h {t : Nat → Nat} {L p : Nat} {d : aD} (h : t p = 104) : itmF t L p d = if fok t L (p + 1) 44 = true ∧ fok t L (nxt t L (p + 1)) 59 = true ∧ vlu t L (p + 1) ≤ 30 ∧ vlu t L (nxt t L (p + 1)) ≤ 30 then some (nxt t L (nxt t L (p + 1)), (d.1, d.2.1, d.2.2.1, nI (vlu t L (p + 1)), nI (vlu t L (nxt t L (p + 1))), d.2.2.2.2.2)) else none := by
  rw [itmF_K, h]
  show itmK t L 2 104 d 2 0 (p + 1) (fun _ => 0) = _
  unfold itmK
  rw [rd_step (c := 44) rfl]
  by_cases h1 : fok t L (p + 1) 44 = true
  · rw [if_pos h1, rd_step (c := 59) rfl]
    by_cases h2 : fok t L (nxt t L (p + 1)) 59 = true
    · rw [if_pos h2, rdU]
      show ((telF 104 _ d).map _) = _
      unfold telF
      rw [if_neg (by decide), if_pos rfl]
      by_cases h4 : vlu t L (p + 1) ≤ 30 ∧ vlu t L (nxt t L (p + 1)) ≤ 30
      · simp [updN, h4, h1, h2]
      · simp [updN, h4]
    · rw [if_neg h2, if_neg (fun z => h2 z.2.1)]; rfl
  · rw [if_neg h1, if_neg (fun z => h1 z.1)]; rfl
theorem itm_g {t : Nat → Nat} {L p : Nat} {d : aD} (h : t p = 103) : itmF t L p d = if fok t L (p + 1) 44 = true ∧ fok t L (nxt t L (p + 1)) 44 = true ∧ fok t L (nxt t L (nxt t L (p + 1))) 59 = true ∧ d.1 < 9 ∧ vlu t L (p + 1) ≤ 3 then some (nxt t L (nxt t L (nxt t L (p + 1))), (d.1 + 1, d.2.1, d.2.2.1, d.2.2.2.1, d.2.2.2.2.1, upd d.2.2.2.2.2.1 d.1 (nI (vlu t L (p + 1))), upd d.2.2.2.2.2.2.1 d.1 (nI (vlu t L (nxt t L (p + 1)))), upd d.2.2.2.2.2.2.2 d.1 (nI (vlu t L (nxt t L (nxt t L (p + 1))))))) else none := by
  rw [itmF_K, h]
  show itmK t L 3 103 d 3 0 (p + 1) (fun _ => 0) = _
  unfold itmK
  rw [rd_step (c := 44) rfl]
  by_cases h1 : fok t L (p + 1) 44 = true
  · rw [if_pos h1, rd_step (c := 44) rfl]
    by_cases h2 : fok t L (nxt t L (p + 1)) 44 = true
    · rw [if_pos h2, rd_step (c := 59) rfl]
      by_cases h3 : fok t L (nxt t L (nxt t L (p + 1))) 59 = true
      · rw [if_pos h3, rdU]
        show ((telF 103 _ d).map _) = _
        unfold telF
        rw [if_pos rfl]
        by_cases h4 : d.1 < 9 ∧ vlu t L (p + 1) ≤ 3
        · simp [updN, h4, h1, h2, h3]
        · simp [updN, h4]
      · rw [if_neg h3, if_neg (fun z => h3 z.2.2.1)]; rfl
    · rw [if_neg h2, if_neg (fun z => h2 z.2.1)]; rfl
  · rw [if_neg h1, if_neg (fun z => h1 z.1)]; rfl
theorem itm_n {t : Nat → Nat} {L p : Nat} {d : aD} (h3 : t p ≠ 103) (h4 : t p ≠ 104) (h7 : t p ≠ 107) (h8 : t p ≠ 108) : itmF t L p d = none := by
  rw [itmF_K]
  unfold itmK
  have e : ∀ vs, telF (t p) vs d = none := fun vs => by simp [telF, h3, h4, h7, h8]
  cases rdU t L (nbh (t p)) (nbh (t p)) 0 (p + 1) (fun _ => 0) with
  | none => rfl
  | some x => simp [e]
def dM (S : sSt) (d : aD) : Prop := d.1 ≤ 9 ∧ S 104 1 = nI d.1 ∧ S 105 1 = d.2.1 ∧ S 106 1 = d.2.2.1 ∧ S 107 1 = d.2.2.2.1 ∧ S 108 1 = d.2.2.2.2.1 ∧ ∀ i, i < d.1 → S 109 (9 + i) = d.2.2.2.2.2.1 i ∧ S 110 (9 + i) = d.2.2.2.2.2.2.1 i ∧ S 111 (9 + i) = d.2.2.2.2.2.2.2 i
/-- what reading may change in the model -/
def frI (S S1 : sSt) : Prop := (∀ b, b ≠ 102 → (b < 104 ∨ 113 ≤ b) → S1 b = S b) ∧ (∀ j, j ≠ 10 → j ≠ 11 → S1 102 j = S 102 j) ∧ S1 104 0 = S 104 0 ∧ S1 105 0 = S 105 0 ∧ S1 108 0 = S 108 0 ∧ ∀ i, i < 9 → S1 109 i = S 109 i ∧ S1 110 i = S 110 i ∧ S1 111 i = S 111 i
/-- only the place, the mark and what was told -/
def frJ (S S1 : sSt) : Prop := (∀ b, b ≠ 102 → b ≠ 112 → S1 b = S b) ∧ ∀ j, j ≠ 10 → j ≠ 11 → S1 102 j = S 102 j
theorem frJ_rfl {S : sSt} : frJ S S := ⟨fun _ _ _ => rfl, fun _ _ _ => rfl⟩
theorem frJ_trans {S S1 S2 : sSt} (h1 : frJ S S1) (h2 : frJ S1 S2) : frJ S S2 := ⟨fun b x y => (h2.1 b x y).trans (h1.1 b x y), fun j x y => (h2.2 j x y).trans (h1.2 j x y)⟩
theorem frI_J {S S1 : sSt} (h : frJ S S1) : frI S S1 := ⟨fun b x y => h.1 b x (by omega), h.2, by rw [h.1 104 (by omega) (by omega)], by rw [h.1 105 (by omega) (by omega)], by rw [h.1 108 (by omega) (by omega)], fun i _ => by rw [h.1 109 (by omega) (by omega), h.1 110 (by omega) (by omega), h.1 111 (by omega) (by omega)]; exact ⟨rfl, rfl, rfl⟩⟩
theorem frI_trans {S S1 S2 : sSt} (h1 : frI S S1) (h2 : frI S1 S2) : frI S S2 := by
  obtain ⟨a1, a2, a3, a4, a5, a6⟩ := h1
  obtain ⟨b1, b2, b3, b4, b5, b6⟩ := h2
  refine ⟨fun b x y => (b1 b x y).trans (a1 b x y), fun j x y => (b2 j x y).trans (a2 j x y), b3.trans a3, b4.trans a4, b5.trans a5, fun i hi => ?_⟩
  obtain ⟨c1, c2, c3⟩ := a6 i hi
  obtain ⟨e1, e2, e3⟩ := b6 i hi
  exact ⟨e1.trans c1, e2.trans c2, e3.trans c3⟩
theorem dM_J {S S1 : sSt} {d : aD} (h : frJ S S1) (hd : dM S d) : dM S1 d := by
  obtain ⟨g1, g2, g3, g4, g5, g6, g7⟩ := hd
  have e : ∀ b, 104 ≤ b → b < 112 → S1 b = S b := fun b x y => h.1 b (by omega) (by omega)
  exact ⟨g1, by rw [e 104 (by omega) (by omega)]; exact g2, by rw [e 105 (by omega) (by omega)]; exact g3, by rw [e 106 (by omega) (by omega)]; exact g4, by rw [e 107 (by omega) (by omega)]; exact g5, by rw [e 108 (by omega) (by omega)]; exact g6, fun i hi => by rw [e 109 (by omega) (by omega), e 110 (by omega) (by omega), e 111 (by omega) (by omega)]; exact g7 i hi⟩
theorem tM_J {S S1 : sSt} {t : Nat → Nat} {L : Nat} (h : frJ S S1) (hT : tM S t L) : tM S1 t L := tM_ag (h.2 1 (by decide) (by decide)) (h.1 103 (by omega) (by omega)) hT
theorem tM_I {S S1 : sSt} {t : Nat → Nat} {L : Nat} (h : frI S S1) (hT : tM S t L) : tM S1 t L := tM_ag (h.2.1 1 (by decide) (by decide)) (h.1 103 (by omega) (by omega)) hT
theorem RM_frI {S S1 : sSt} {A : aA} (hX : RM S A) (h : frI S S1) : RM S1 A ∧ frM S S1 := by
  obtain ⟨a1, a2, a3, a4, a5, a6⟩ := hX
  obtain ⟨g1, g2, g3, g4, g5⟩ := a2
  obtain ⟨h1, h2, h3, h4, h5, h6⟩ := id h
  refine ⟨⟨tM_I h a1, ⟨g1, by rw [h3]; exact g2, by rw [h4]; exact g3, by rw [h5]; exact g4, fun i hi => ?_⟩, by rw [h1 113 (by omega) (by omega)]; exact a3, aM_ag (h2 16 (by decide) (by decide)) (h1 115 (by omega) (by omega)) a4, eM_ag (h2 18 (by decide) (by decide)) (h1 116 (by omega) (by omega)) a5, fM_ag (h2 25 (by decide) (by decide)) (fun a x y => h1 a (by omega) (by omega)) a6⟩, fun a ha => h1 a (by omega) (by omega)⟩
  obtain ⟨c1, c2, c3⟩ := h6 i (by omega)
  rw [c1, c2, c3]; exact g5 i hi
def hre (t : Nat → Nat) (L p : Nat) : Nat := if p < L then t p else 0
theorem hre_dgt {t : Nat → Nat} {L p : Nat} : (48 ≤ hre t L p ∧ hre t L p ≤ 57) ↔ dgt t L p = true := by
  unfold hre dgt
  by_cases h : p < L <;> simp [h]
theorem hre_sgn {t : Nat → Nat} {L p c : Nat} (hc : c ≠ 0) : hre t L p = c ↔ sgn t L p c = true := by
  unfold hre sgn
  by_cases h : p < L
  · simp [h]
  · simp [h]; omega
