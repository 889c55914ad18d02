theorem min8 : ∀ n : Nat, n ≤ 8 → (if nI (n + 1) < 8 then nI (n + 1) else 8) = nI (min 8 (n + 1)) := by decide
/-! THE PAST: a ring of eight belts -/
def shA (B : sB) (pa pl : Nat) : Prop := B.2.1[pa]? = some (.inr (.inl (1, [some (pa + 1), none, none]))) ∧ B.2.1[pa + 1]? = some (.inr (.inr ((List.range 8).map (fun i => pa + 2 + 6 * i)))) ∧ ∀ i, i < 8 → shB B (pa + 2 + 6 * i) pl
def rA (S : sSt) (pa : Nat) (acts : List aR) : Prop := ∃ nx, nx < 8 ∧ S pa 1 = nI nx ∧ acts.length ≤ 8 ∧ S pa 2 = nI acts.length ∧ ∀ i r, acts[i]? = some r → rB S (pa + 2 + 6 * ((nx + 7 - i) % 8)) r
def frA (S S' : sSt) (pa : Nat) : Prop := ∀ a, (a < pa ∨ pa + 50 ≤ a) → S' a = S a
theorem rs_get {pa nx : Nat} (h : nx < 8) : ((List.range 8).map (fun i => pa + 2 + 6 * i))[nx]? = some (pa + 2 + 6 * nx) := by
  simp [h]
theorem rs_len {pa : Nat} : ((List.range 8).map (fun i => pa + 2 + 6 * i)).length = 8 := by simp
theorem rB_fr {S S' : sSt} {c : Nat} {r : aR} (h : ∀ a, c ≤ a → a < c + 6 → S' a = S a) (hB : rB S c r) : rB S' c r := by
  obtain ⟨h1, h2, h3, h4⟩ := hB
  refine ⟨by rw [h c (by omega) (by omega)]; exact h1, by rw [h c (by omega) (by omega)]; exact h2, by rw [h c (by omega) (by omega)]; exact h3, fun i hi => ?_⟩
  rw [h (c + 1) (by omega) (by omega), h (c + 2) (by omega) (by omega), h (c + 3) (by omega) (by omega), h (c + 4) (by omega) (by omega), h (c + 5) (by omega) (by omega)]
  exact h4 i hi

set_option maxHeartbeats 1000000 in
set_option maxRecDepth 20000 in
theorem c_Aclear {B : sB} {S : sSt} {pa pl : Nat} {acts : List aR} (ha : shA B pa pl) (hA : rA S pa acts) : CS B yX1_clear cX1_clear 1 none 1 [.ref (s_ad B pa)] S (fun v S1 => v = none ∧ rA S1 pa [] ∧ ∀ a, a ≠ pa → S1 a = S a) := by
  refine cs_intro (lv := [(0, .ref (s_ad B pa))]) rfl ?_
  obtain ⟨ha0, ha1, ha2⟩ := ha
  obtain ⟨nx, h1, h2, h3, h4, h5⟩ := hA
  refine x_aload_n dX1_clear_0 rfl rfl ?_
  refine x_iconst (v := 0) dX1_clear_1 (by decide) ?_
  refine pX1_20 dX1_clear_2 rfl (by assumption) rfl ?_
  refine x_return dX1_clear_5 rfl ?_
  refine ⟨rfl, ⟨nx, h1, by rw [s_put_eq, if_neg (by decide)]; exact h2, by decide, by rw [s_put_eq, if_pos rfl]; rfl, fun i r h => by cases h⟩, fun a ha => s_put_ne ha⟩

set_option maxHeartbeats 1000000 in
set_option maxRecDepth 20000 in
theorem c_remember {B : sB} {S : sSt} {pa pl c : Nat} {r : aR} {acts : List aR} (ha : shA B pa pl) (hA : rA S pa acts) (hc : shB B c pl) (hB : rB S c r) (hlt : c + 6 ≤ pa) : CS B yX1_remember cX1_remember 2 none 2 [.ref (s_ad B pa), .ref (s_ad B c)] S (fun v S1 => v = none ∧ rA S1 pa ((r :: acts).take 8) ∧ frA S S1 pa) := by
  refine cs_intro (lv := [(0, .ref (s_ad B pa)), (1, .ref (s_ad B c))]) rfl ?_
  obtain ⟨ha0, ha1, ha2⟩ := ha
  obtain ⟨nx, h1, h2, h3, h4, h5⟩ := hA
  have hbx := (ha2 nx h1).1
  refine x_aload_n dX1_remember_0 rfl rfl ?_
  refine gX1_11 dX1_remember_1 rfl (by assumption) rfl ?_
  refine x_aload_n dX1_remember_4 rfl rfl ?_
  refine gX1_24 dX1_remember_5 rfl (by assumption) rfl ?_
  rw [h2]
  refine x_aald (by assumption) dX1_remember_8 (vp_in_nI (by rw [rs_len]; exact h1) (by rw [rs_len]; decide)) (by rw [nI_clamp (by omega)]; exact rs_get h1) ?_
  refine x_aload_n dX1_remember_9 rfl rfl ?_
  refine kX1_27r dX1_remember_10 rfl (by assumption) (c_copyFrom (ha2 nx h1) hc hB (by omega)) (by decide) (Nat.le_of_ble_eq_true rfl) (fun S1 hq => ?_)
  obtain ⟨-, q1, q2⟩ := hq
  have e1 : S1 pa 1 = nI nx := by rw [q2 pa (by omega)]; exact h2
  have e2 : S1 pa 2 = nI acts.length := by rw [q2 pa (by omega)]; exact h4
  refine x_aload_n dX1_remember_13 rfl rfl ?_
  refine x_aload_n dX1_remember_14 rfl rfl ?_
  refine gX1_24 dX1_remember_15 rfl (by assumption) rfl ?_
  rw [e1]
  refine x_iconst (v := 1) dX1_remember_18 (by decide) ?_
  refine x_iadd dX1_remember_19 ?_
  refine x_re (nI_1 nx) ?_
  refine x_bipush (v := 8) dX1_remember_20 (by decide) ?_
  refine x_irem dX1_remember_22 (by decide) ?_
  refine x_re (b := nI ((nx + 1) % 8)) (pk_rem (d := 8) (by omega) (by decide) (by decide)) ?_
  refine pX1_24 dX1_remember_23 rfl (by assumption) rfl ?_
  refine x_aload_n dX1_remember_26 rfl rfl ?_
  refine x_bipush (v := 8) dX1_remember_27 (by decide) ?_
  refine x_aload_n dX1_remember_29 rfl rfl ?_
  refine gX1_20 dX1_remember_30 rfl (by assumption) rfl ?_
  rw [show s_put S1 pa 1 (nI ((nx + 1) % 8)) pa 2 = nI acts.length from by rw [s_put_eq, if_neg (by decide)]; exact e2]
  refine x_iconst (v := 1) dX1_remember_33 (by decide) ?_
  refine x_iadd dX1_remember_34 ?_
  refine x_re (nI_1 acts.length) ?_
  refine kX1_31 dX1_remember_35 rfl (by decide) (Nat.le_of_ble_eq_true rfl) ?_
  refine x_re (b := nI ((r :: acts).take 8).length) (by rw [List.length_take, List.length_cons]; exact min8 _ h3) ?_
  refine pX1_20 dX1_remember_38 rfl (by assumption) rfl ?_
  refine x_return dX1_remember_41 rfl ?_
  refine ⟨rfl, ⟨(nx + 1) % 8, by omega, ?_, by rw [List.length_take]; omega, ?_, fun i r' hr => ?_⟩, fun a ha => ?_⟩
  · rw [s_put_eq, if_neg (by decide), s_put_eq, if_pos rfl]
  · rw [s_put_eq, if_pos rfl]
  · have hi : i < 8 ∧ (r :: acts)[i]? = some r' := by
      rw [List.getElem?_take] at hr
      split at hr
      · exact ⟨by assumption, hr⟩
      · cases hr
    have hs : ∀ a, a ≠ pa → s_put (s_put S1 pa 1 (nI ((nx + 1) % 8))) pa 2 (nI ((r :: acts).take 8).length) a = S1 a := fun a h => by rw [s_put_ne h, s_put_ne h]
    cases i with
    | zero =>
      have e : (r :: acts)[0]? = some r' := hi.2
      cases e
      rw [show ((nx + 1) % 8 + 7 - 0) % 8 = nx by omega]
      exact rB_fr (fun a x y => hs a (by omega)) q1
    | succ i =>
      have e : acts[i]? = some r' := by have := hi.2; rwa [List.getElem?_cons_succ] at this
      rw [show ((nx + 1) % 8 + 7 - (i + 1)) % 8 = (nx + 7 - i) % 8 by omega]
      refine rB_fr (fun a x y => (hs a (by omega)).trans (q2 a ?_)) (h5 i r' e)
      omega
  · rw [s_put_ne (by omega), s_put_ne (by omega)]; exact q2 a (by omega)

set_option maxHeartbeats 1000000 in
set_option maxRecDepth 20000 in
theorem c_bringBack {B : sB} {S : sSt} {pa pl c : Nat} {r : aR} {acts : List aR} (ha : shA B pa pl) (hA : rA S pa (r :: acts)) (hc : shB B c pl) (hlt : c + 6 ≤ pa) : CS B yX1_bringBack cX1_bringBack 2 none 2 [.ref (s_ad B pa), .ref (s_ad B c)] S (fun v S1 => v = none ∧ rA S1 pa acts ∧ rB S1 c r ∧ ∀ a, (a < c ∨ c + 6 ≤ a) → (a < pa ∨ pa + 50 ≤ a) → S1 a = S a) := by
  refine cs_intro (lv := [(0, .ref (s_ad B pa)), (1, .ref (s_ad B c))]) rfl ?_
  obtain ⟨ha0, ha1, ha2⟩ := ha
  have hcs := hc.1
  obtain ⟨nx, h1, h2, h3, h4, h5⟩ := hA
  have h3b : acts.length + 1 ≤ 8 := h3
  have hx8 : (nx + 7) % 8 < 8 := by omega
  refine x_aload_n dX1_bringBack_0 rfl rfl ?_
  refine x_aload_n dX1_bringBack_1 rfl rfl ?_
  refine gX1_24 dX1_bringBack_2 rfl (by assumption) rfl ?_
  rw [h2]
  refine x_bipush (v := 8) dX1_bringBack_5 (by decide) ?_
  refine x_iadd dX1_bringBack_7 ?_
  refine x_re (b := nI (nx + 8)) (nI_add nx 8) ?_
  refine x_iconst (v := 1) dX1_bringBack_8 (by decide) ?_
  refine x_isub dX1_bringBack_9 ?_
  refine x_re (b := nI (nx + 7)) (nI_pred (nx + 7)) ?_
  refine x_bipush (v := 8) dX1_bringBack_10 (by decide) ?_
  refine x_irem dX1_bringBack_12 (by decide) ?_
  refine x_re (b := nI ((nx + 7) % 8)) (pk_rem (d := 8) (by omega) (by decide) (by decide)) ?_
  refine pX1_24 dX1_bringBack_13 rfl (by assumption) rfl ?_
  refine x_aload_n dX1_bringBack_16 rfl rfl ?_
  refine x_aload_n dX1_bringBack_17 rfl rfl ?_
  refine gX1_11 dX1_bringBack_18 rfl (by assumption) rfl ?_
  refine x_aload_n dX1_bringBack_21 rfl rfl ?_
  refine gX1_24 dX1_bringBack_22 rfl (by assumption) rfl ?_
  rw [show s_put S pa 1 (nI ((nx + 7) % 8)) pa 1 = nI ((nx + 7) % 8) from by rw [s_put_eq, if_pos rfl]]
  refine x_aald (by assumption) dX1_bringBack_25 (vp_in_nI (by rw [rs_len]; exact hx8) (by rw [rs_len]; decide)) (by rw [nI_clamp (by omega)]; exact rs_get hx8) ?_
  refine kX1_27r dX1_bringBack_26 rfl (by assumption) (c_copyFrom hc (ha2 _ hx8) (rB_fr (fun a x y => s_put_ne (by omega)) (h5 0 r rfl)) (by omega)) (by decide) (Nat.le_of_ble_eq_true rfl) (fun S1 hq => ?_)
  obtain ⟨-, q1, q2⟩ := hq
  have e1 : S1 pa 1 = nI ((nx + 7) % 8) := by rw [q2 pa (by omega), s_put_eq, if_pos rfl]
  have e2 : S1 pa 2 = nI (acts.length + 1) := by rw [q2 pa (by omega), s_put_eq, if_neg (by decide)]; exact h4
  refine x_aload_n dX1_bringBack_29 rfl rfl ?_
  refine x_dup dX1_bringBack_30 rfl ?_
  refine gX1_20 dX1_bringBack_31 rfl (by assumption) rfl ?_
  rw [e2]
  refine x_iconst (v := 1) dX1_bringBack_34 (by decide) ?_
  refine x_isub dX1_bringBack_35 ?_
  refine x_re (nI_pred acts.length) ?_
  refine pX1_20 dX1_bringBack_36 rfl (by assumption) rfl ?_
  refine x_return dX1_bringBack_39 rfl ?_
  refine ⟨rfl, ⟨(nx + 7) % 8, hx8, by rw [s_put_eq, if_neg (by decide)]; exact e1, by omega, by rw [s_put_eq, if_pos rfl], fun i r' hr => ?_⟩, rB_fr (fun a x y => s_put_ne (by omega)) q1, fun a x y => by rw [s_put_ne (by omega), q2 a x, s_put_ne (by omega)]⟩
  have hi : i < acts.length := (List.getElem?_eq_some_iff.mp hr).1
  rw [show ((nx + 7) % 8 + 7 - i) % 8 = (nx + 7 - (i + 1)) % 8 by omega]
  refine rB_fr (fun a x y => ?_) (h5 (i + 1) r' (by rw [List.getElem?_cons_succ]; exact hr))
  rw [s_put_ne (by omega), q2 a (by omega), s_put_ne (by omega)]

/-! WHAT WAS SEEN -/
abbrev aF : Type := Nat × aR × aR × aR × aR
def shS (B : sB) (si : Nat) : Prop := B.2.1[si]? = some (.inr (.inl (4, [some (si + 1), some (si + 2), some (si + 3), some (si + 4), none]))) ∧ B.2.1[si + 1]? = some (.inl (0, 6)) ∧ B.2.1[si + 2]? = some (.inl (0, 6)) ∧ B.2.1[si + 3]? = some (.inl (0, 6)) ∧ B.2.1[si + 4]? = some (.inl (0, 6))
def rF (S : sSt) (si : Nat) (f : aF) : Prop := f.1 ≤ 6 ∧ S si 4 = nI f.1 ∧ ∀ i, i < f.1 → S (si + 1) i = f.2.1 i ∧ S (si + 2) i = f.2.2.1 i ∧ S (si + 3) i = f.2.2.2.1 i ∧ S (si + 4) i = f.2.2.2.2 i
def addF (f : aF) (k l n v : Int32) : aF := (f.1 + 1, upd f.2.1 f.1 k, upd f.2.2.1 f.1 l, upd f.2.2.2.1 f.1 n, upd f.2.2.2.2 f.1 v)
def iF (f : aF) : Prop := ∀ i, i < f.1 → (0 ≤ (f.2.1 i).toInt ∧ (f.2.1 i).toInt ≤ 3) ∧ (1 ≤ (f.2.2.2.1 i).toInt ∧ (f.2.2.2.1 i).toInt ≤ 9)
def mthF (len k : Int32) : Int32 := (len + k - 1) / k
def fitU (f : aF) (len h : Int32) : Nat → Nat → Bool
  | 0, _ => true
  | k + 1, i => if mthF len (f.2.2.2.1 i) * brwF (f.2.1 i) (h + (if f.2.2.1 i = 0 then 2 else 0)) = f.2.2.2.2 i then fitU f len h k (i + 1) else false

set_option maxHeartbeats 1000000 in
set_option maxRecDepth 20000 in
theorem c_Sadd {B : sB} {S : sSt} {si : Nat} {f : aF} {x1 x2 x3 x4 : Int32} (hs : shS B si) (hF : rF S si f) : CS B yX4_add cX4_add 5 (some .boolean) 1 [.ref (s_ad B si), .int x1, .int x2, .int x3, .int x4] S (fun v S1 => v = some (.int (bI (f.1 < 6))) ∧ rF S1 si (if f.1 < 6 then addF f x1 x2 x3 x4 else f) ∧ ∀ a, (a < si ∨ si + 5 ≤ a) → S1 a = S a) := by
  refine cs_intro (lv := [(0, .ref (s_ad B si)), (1, .int x1), (2, .int x2), (3, .int x3), (4, .int x4)]) rfl ?_
  obtain ⟨hs0, hs1, hs2, hs3, hs4⟩ := hs
  obtain ⟨g1, g2, g3⟩ := id hF
  refine x_aload_n dX4_add_0 rfl rfl ?_
  refine gX4_24 dX4_add_1 rfl (by assumption) rfl ?_
  rw [g2]
  refine x_bipush (v := 6) dX4_add_4 (by decide) ?_
  refine x_icmp_lt (tgt := 11) dX4_add_6 (by decide) (fun c_6 => ?_) (fun c_6 => ?_)
  · have h6 : f.1 < 6 := by
      rcases Nat.lt_or_ge f.1 6 with h | h
      · exact h
      · exact absurd c_6 (nI_nlt (b := 6) h (by omega))
    refine x_aload_n dX4_add_11 rfl rfl ?_
    refine gX4_9 dX4_add_12 rfl (by assumption) rfl ?_
    refine x_aload_n dX4_add_15 rfl rfl ?_
    refine gX4_24 dX4_add_16 rfl (by assumption) rfl ?_
    rw [g2]
    refine x_iload_n dX4_add_19 rfl rfl ?_
    refine x_iastN (by assumption) dX4_add_20 h6 (by decide) ?_
    refine x_aload_n dX4_add_21 rfl rfl ?_
    refine gX4_15 dX4_add_22 rfl (by assumption) rfl ?_
    refine x_aload_n dX4_add_25 rfl rfl ?_
    refine gX4_24 dX4_add_26 rfl (by assumption) rfl ?_
    rw [s_put_ne (by omega), g2]
    refine x_iload_n dX4_add_29 rfl rfl ?_
    refine x_iastN (by assumption) dX4_add_30 h6 (by decide) ?_
    refine x_aload_n dX4_add_31 rfl rfl ?_
    refine gX4_18 dX4_add_32 rfl (by assumption) rfl ?_
    refine x_aload_n dX4_add_35 rfl rfl ?_
    refine gX4_24 dX4_add_36 rfl (by assumption) rfl ?_
    rw [s_put_ne (by omega), s_put_ne (by omega), g2]
    refine x_iload_n dX4_add_39 rfl rfl ?_
    refine x_iastN (by assumption) dX4_add_40 h6 (by decide) ?_
    refine x_aload_n dX4_add_41 rfl rfl ?_
    refine gX4_21 dX4_add_42 rfl (by assumption) rfl ?_
    refine x_aload_n dX4_add_45 rfl rfl ?_
    refine gX4_24 dX4_add_46 rfl (by assumption) rfl ?_
    rw [s_put_ne (by omega), s_put_ne (by omega), s_put_ne (by omega), g2]
    refine x_iload dX4_add_49 rfl ?_
    refine x_iastN (by assumption) dX4_add_51 h6 (by decide) ?_
    refine x_aload_n dX4_add_52 rfl rfl ?_
    refine x_dup dX4_add_53 rfl ?_
    refine gX4_24 dX4_add_54 rfl (by assumption) rfl ?_
    rw [show s_put (s_put (s_put (s_put S (si + 1) f.1 x1) (si + 2) f.1 x2) (si + 3) f.1 x3) (si + 4) f.1 x4 si 4 = nI f.1 from by rw [s_put_ne (by omega), s_put_ne (by omega), s_put_ne (by omega), s_put_ne (by omega)]; exact g2]
    refine x_iconst (v := 1) dX4_add_57 (by decide) ?_
    refine x_iadd dX4_add_58 ?_
    refine pX4_24 dX4_add_59 rfl (by assumption) rfl ?_
    refine x_iconst (v := 1) dX4_add_62 (by decide) ?_
    refine x_ireturn dX4_add_63 rfl (by first | rfl | exact bI_nar _) ?_
    refine ⟨by simp [bI, h6], ?_, fun a ha => by rw [s_put_ne (by omega), s_put_ne (by omega), s_put_ne (by omega), s_put_ne (by omega), s_put_ne (by omega)]⟩
    simp only [if_pos h6]
    refine ⟨h6, by rw [s_put_eq, if_pos rfl]; exact nI_1 f.1, fun i hi => ?_⟩
    have hi : i < f.1 + 1 := hi
    by_cases hid : i = f.1
    · subst hid; simp [s_put, upd, addF]
    · have h7 := g3 i (by omega)
      simp [s_put, upd, addF, hid, h7]
  · have h6 : ¬ f.1 < 6 := fun h => c_6 (nI_lt (b := 6) h (by decide))
    refine x_iconst (v := 0) dX4_add_9 (by decide) ?_
    refine x_ireturn dX4_add_10 rfl (by first | rfl | exact bI_nar _) ?_
    exact ⟨by simp [bI, h6], by simp only [if_neg h6]; exact hF, fun _ _ => rfl⟩

set_option maxHeartbeats 1000000 in
set_option maxRecDepth 20000 in
theorem c_momentsThrough {B : sB} {S : sSt} {x k : Int32} (hk : 1 ≤ k.toInt) : CS B yX6_momentsThrough cX6_momentsThrough 2 (some .int) 1 [.int x, .int k] S (qI (mthF x k) S) := by
  refine cs_intro (lv := [(0, .int x), (1, .int k)]) rfl ?_
  refine x_iload_n dX6_momentsThrough_0 rfl rfl ?_
  refine x_iconst (v := 1) dX6_momentsThrough_1 (by decide) ?_
  refine x_icmp_ge (tgt := 9) dX6_momentsThrough_2 (by decide) (fun c_2 => ?_) (fun c_2 => ?_)
  · refine x_iload_n dX6_momentsThrough_9 rfl rfl ?_
    refine x_iload_n dX6_momentsThrough_10 rfl rfl ?_
    refine x_iadd dX6_momentsThrough_11 ?_
    refine x_iconst (v := 1) dX6_momentsThrough_12 (by decide) ?_
    refine x_isub dX6_momentsThrough_13 ?_
    refine x_iload_n dX6_momentsThrough_14 rfl rfl ?_
    refine x_idiv dX6_momentsThrough_15 (by intro h; rw [h] at hk; exact absurd hk (by decide)) ?_
    refine x_ireturn dX6_momentsThrough_16 rfl rfl ?_
    exact ⟨rfl, rfl⟩
  · exact absurd (by rw [Int32.le_iff_toInt_le]; exact hk) c_2

set_option maxHeartbeats 1000000 in
set_option maxRecDepth 20000 in
theorem l_fit {B : sB} {S : sSt} {si : Nat} {f : aF} {h len : Int32} (hs : shS B si) (hF : rF S si f) (hi9 : iF f) (hh : 0 ≤ h.toInt ∧ h.toInt ≤ 30) :
    ∀ (k i : Nat), i + k = f.1 → WS B (fun _ => True) yX4_fit cX4_fit 5 (some .boolean) 2 2 [(3, .int (nI i)), (0, .ref (s_ad B si)), (1, .int h), (2, .int len)] [] S (qI (bI (fitU f len h k i = true)) S) := by
  obtain ⟨hs0, hs1, hs2, hs3, hs4⟩ := hs
  obtain ⟨g1, hn, g3⟩ := id hF
  intro k
  induction k with
  | zero =>
    intro i hi
    refine x_iload_n dX4_fit_2 rfl rfl ?_
    refine x_aload_n dX4_fit_3 rfl rfl ?_
    refine gX4_24 dX4_fit_4 rfl (by assumption) rfl ?_
    refine x_icmp_ge (tgt := 58) dX4_fit_7 (by decide) (fun c_7 => ?_) (fun c_7 => ?_)
    · refine x_iconst (v := 1) dX4_fit_58 (by decide) ?_
      refine x_ireturn dX4_fit_59 rfl (by first | rfl | exact bI_nar _) ?_
      exact ⟨rfl, rfl⟩
    · exact absurd (by rw [hn, ← hi]; exact nI_le (by omega) (by omega)) c_7
  | succ k ih =>
    intro i hi
    obtain ⟨e1, e2, e3, e4⟩ := g3 i (by omega)
    have hi1 := hi9 i (by omega)
    refine x_iload_n dX4_fit_2 rfl rfl ?_
    refine x_aload_n dX4_fit_3 rfl rfl ?_
    refine gX4_24 dX4_fit_4 rfl (by assumption) rfl ?_
    refine x_icmp_ge (tgt := 58) dX4_fit_7 (by decide) (fun c_7 => ?_) (fun c_7 => ?_)
    · exact absurd c_7 (by rw [hn]; exact nI_ge (by omega) (by omega))
    · refine x_iload_n dX4_fit_10 rfl rfl ?_
      refine x_aload_n dX4_fit_11 rfl rfl ?_
      refine gX4_18 dX4_fit_12 rfl (by assumption) rfl ?_
      refine x_iload_n dX4_fit_15 rfl rfl ?_
      first | refine x_ialdN (by assumption) dX4_fit_16 (by omega) (by decide) ?_ | refine x_iald (by assumption) dX4_fit_16 (by assumption) ?_
      refine kX4_28 dX4_fit_17 rfl (c_momentsThrough (by rw [e3]; exact hi1.2.1)) (by decide) (Nat.le_of_ble_eq_true rfl) ?_
      refine x_istore (lv' := [(4, _), (3, _), (0, _), (1, _), (2, _)]) dX4_fit_20 (by decide) rfl ?_
      refine x_iload dX4_fit_22 rfl ?_
      refine x_aload_n dX4_fit_24 rfl rfl ?_
      refine gX4_9 dX4_fit_25 rfl (by assumption) rfl ?_
      refine x_iload_n dX4_fit_28 rfl rfl ?_
      first | refine x_ialdN (by assumption) dX4_fit_29 (by omega) (by decide) ?_ | refine x_iald (by assumption) dX4_fit_29 (by assumption) ?_
      refine x_aload_n dX4_fit_30 rfl rfl ?_
      refine gX4_15 dX4_fit_31 rfl (by assumption) rfl ?_
      refine x_iload_n dX4_fit_34 rfl rfl ?_
      first | refine x_ialdN (by assumption) dX4_fit_35 (by omega) (by decide) ?_ | refine x_iald (by assumption) dX4_fit_35 (by assumption) ?_
      refine x_iload_n dX4_fit_36 rfl rfl ?_
      refine kX4_32 dX4_fit_37 rfl (c_browning (by rw [e1]; exact hi1.1) hh) (by decide) (Nat.le_of_ble_eq_true rfl) ?_
      refine x_imul dX4_fit_40 ?_
      refine x_aload_n dX4_fit_41 rfl rfl ?_
      refine gX4_21 dX4_fit_42 rfl (by assumption) rfl ?_
      refine x_iload_n dX4_fit_45 rfl rfl ?_
      first | refine x_ialdN (by assumption) dX4_fit_46 (by omega) (by decide) ?_ | refine x_iald (by assumption) dX4_fit_46 (by assumption) ?_
      rw [e1, e2, e3, e4]
      refine x_icmp_eq (tgt := 52) dX4_fit_47 (by decide) (fun c_47 => ?_) (fun c_47 => ?_)
      · have hE := c_47
        first | refine x_inc1N (lv' := [(3, _), (4, _), (0, _), (1, _), (2, _)]) dX4_fit_52 rfl (by decide) rfl ?_ | refine x_iinc (v := _ + 1) (lv' := [(3, _), (4, _), (0, _), (1, _), (2, _)]) dX4_fit_52 rfl rfl (by decide) rfl ?_
        refine x_goto (tgt := 2) dX4_fit_55 (by decide) ?_
        refine x_wk [0, 2, 3, 4] rfl ?_
        rw [fitU, if_pos hE]
        exact ih (i + 1) (by omega)
      · have hE := c_47
        refine x_iconst (v := 0) dX4_fit_50 (by decide) ?_
        refine x_ireturn dX4_fit_51 rfl (by first | rfl | exact bI_nar _) ?_
        rw [fitU, if_neg hE]
        exact ⟨rfl, rfl⟩

set_option maxHeartbeats 1000000 in
set_option maxRecDepth 20000 in
theorem c_fit {B : sB} {S : sSt} {si : Nat} {f : aF} {h len : Int32} (hs : shS B si) (hF : rF S si f) (hi9 : iF f) (hh : 0 ≤ h.toInt ∧ h.toInt ≤ 30) : CS B yX4_fit cX4_fit 5 (some .boolean) 2 [.ref (s_ad B si), .int h, .int len] S (qI (bI (fitU f len h f.1 0 = true)) S) := by
  refine cs_intro (lv := [(0, .ref (s_ad B si)), (1, .int h), (2, .int len)]) rfl ?_
  refine x_iconst (v := 0) dX4_fit_0 (by decide) ?_
  refine x_istore_n (lv' := [(3, _), (0, _), (1, _), (2, _)]) dX4_fit_1 rfl (by decide) rfl ?_
  exact l_fit hs hF hi9 hh f.1 0 (by omega)
