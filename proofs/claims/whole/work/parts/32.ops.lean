/-! THE ABSTRACT STATE AND ITS CALLS: ((L, t), P, r, acts, kept, f) -/
abbrev aA : Type := (Nat × (Nat → Nat)) × aP × aR × List aR × List aR × aF
def shX (B : sB) : Prop := B.2.1[0]? = some (.inr (.inl (6, [some 1, some 4, some 8, some 12, some 18, some 24, some 30, some 80, none, some 81, some 86]))) ∧ shT B 1 ∧ shP B 4 ∧ shP B 8 ∧ shB B 12 8 ∧ shB B 18 8 ∧ shB B 24 8 ∧ shA B 30 8 ∧ B.2.1[80]? = some (.inr (.inr [90, 96])) ∧ shS B 81 ∧ shK B 86 ∧ shB B 90 8 ∧ shB B 96 8
def rE (S : sSt) (kept : List aR) : Prop := kept.length ≤ 2 ∧ S 0 8 = nI kept.length ∧ ∀ i r, kept[i]? = some r → rB S (90 + 6 * (kept.length - 1 - i)) r
def RX (S : sSt) (A : aA) : Prop := rT S 1 A.1.2 A.1.1 ∧ rP S 8 A.2.1 ∧ rB S 12 A.2.2.1 ∧ rA S 30 A.2.2.2.1 ∧ rE S A.2.2.2.2.1 ∧ rF S 81 A.2.2.2.2.2
def frX (S S' : sSt) : Prop := ∀ a, 102 ≤ a → S' a = S a
def iA (A : aA) : Prop := iP A.2.1 ∧ iR A.2.1 A.2.2.1 ∧ (∀ r ∈ A.2.2.2.1, iR A.2.1 r) ∧ (∀ r ∈ A.2.2.2.2.1, iR A.2.1 r) ∧ iF A.2.2.2.2.2
def qO (S : sSt) (o : Int32 × aA) : Option Value → sSt → Prop := fun v S1 => v = some (.int o.1) ∧ RX S1 o.2 ∧ frX S S1
theorem qO_of {S S1 : sSt} {o : Int32 × aA} {v v' : Int32} {A' : aA} (e : o = (v', A')) (h1 : v = v') (h2 : RX S1 A') (h3 : frX S S1) : qO S o (some (.int v)) S1 := by
  subst e; subst h1; exact ⟨rfl, h2, h3⟩
theorem frX_rfl {S : sSt} : frX S S := fun _ _ => rfl
theorem frX_trans {S S1 S2 : sSt} (h1 : frX S S1) (h2 : frX S1 S2) : frX S S2 := fun a h => (h2 a h).trans (h1 a h)
theorem rP_ag {S S1 : sSt} {pl : Nat} {P : aP} (h : ∀ a, pl ≤ a → a < pl + 4 → S1 a = S a) (hP : rP S pl P) : rP S1 pl P := by
  obtain ⟨h1, h2, h3, h4, h5⟩ := hP
  exact ⟨h1, by rw [h pl (by omega) (by omega)]; exact h2, by rw [h pl (by omega) (by omega)]; exact h3, by rw [h pl (by omega) (by omega)]; exact h4, fun i hi => by rw [h (pl + 1) (by omega) (by omega), h (pl + 2) (by omega) (by omega), h (pl + 3) (by omega) (by omega)]; exact h5 i hi⟩
theorem rT_ag {S S1 : sSt} {tx L : Nat} {t : Nat → Nat} (h : S1 tx 2 = S tx 2) (h2 : S1 (tx + 1) = S (tx + 1)) (hT : rT S tx t L) : rT S1 tx t L := ⟨hT.1, by rw [h]; exact hT.2.1, fun i hi => by rw [h2]; exact hT.2.2 i hi⟩
theorem rA_ag {S S1 : sSt} {pa : Nat} {acts : List aR} (h : ∀ a, pa ≤ a → a < pa + 50 → S1 a = S a) (hA : rA S pa acts) : rA S1 pa acts := by
  obtain ⟨nx, h1, h2, h3, h4, h5⟩ := hA
  exact ⟨nx, h1, by rw [h pa (by omega) (by omega)]; exact h2, h3, by rw [h pa (by omega) (by omega)]; exact h4, fun i r hr => rB_fr (fun a x y => h a (by omega) (by omega)) (h5 i r hr)⟩
theorem rE_ag {S S1 : sSt} {kept : List aR} (h : ∀ a, 90 ≤ a → a < 102 → S1 a = S a) (h0 : S1 0 = S 0) (hE : rE S kept) : rE S1 kept := by
  obtain ⟨h1, h2, h3⟩ := hE
  refine ⟨h1, by rw [h0]; exact h2, fun i r hr => rB_fr (fun a x y => h a (by omega) ?_) (h3 i r hr)⟩
  have := (List.getElem?_eq_some_iff.mp hr).1
  omega
theorem rF_ag {S S1 : sSt} {si : Nat} {f : aF} (h : ∀ a, si ≤ a → a < si + 5 → S1 a = S a) (hF : rF S si f) : rF S1 si f := by
  obtain ⟨h1, h2, h3⟩ := hF
  exact ⟨h1, by rw [h si (by omega) (by omega)]; exact h2, fun i hi => by rw [h (si + 1) (by omega) (by omega), h (si + 2) (by omega) (by omega), h (si + 3) (by omega) (by omega), h (si + 4) (by omega) (by omega)]; exact h3 i hi⟩
/-- the cells of drafts, tries and shares -/
def scr (a : Nat) : Prop := a = 1 ∨ a = 3 ∨ (4 ≤ a ∧ a < 8) ∨ (18 ≤ a ∧ a < 30) ∨ (86 ≤ a ∧ a < 90)
/-- now and the past are what they are; all else stays, but drafts, tries, shares -/
theorem RX_upd {S S1 : sSt} {T : Nat × (Nat → Nat)} {P : aP} {r r' : aR} {acts acts' kept : List aR} {f : aF} (hX : RX S (T, P, r, acts, kept, f)) (hB : rB S1 12 r') (hA : rA S1 30 acts') (hs : ∀ a, a < 102 → ¬ scr a → ¬ (12 ≤ a ∧ a < 18) → ¬ (30 ≤ a ∧ a < 80) → S1 a = S a) (h1 : S1 1 2 = S 1 2) : RX S1 (T, P, r', acts', kept, f) := by
  obtain ⟨a1, a2, a3, a4, a5, a6⟩ := hX
  have hs' : ∀ a, a < 102 → (a = 0 ∨ a = 2 ∨ (8 ≤ a ∧ a < 12) ∨ (80 ≤ a ∧ a < 86) ∨ 90 ≤ a) → S1 a = S a := fun a h1 h2 => hs a h1 (by unfold scr; omega) (by omega) (by omega)
  exact ⟨rT_ag h1 (hs' 2 (by omega) (by omega)) a1, rP_ag (fun a x y => hs' a (by omega) (by omega)) a2, hB, hA, rE_ag (fun a x y => hs' a y (by omega)) (hs' 0 (by omega) (by omega)) a5, rF_ag (fun a x y => hs' a (by omega) (by omega)) a6⟩
theorem RX_scr {S S1 : sSt} {A : aA} (hX : RX S A) (hs : ∀ a, a < 102 → ¬ scr a → S1 a = S a) (h1 : S1 1 2 = S 1 2) : RX S1 A := by
  obtain ⟨T, P, r, acts, kept, f⟩ := A
  exact RX_upd hX (rB_fr (fun a x y => hs a (by omega) (by unfold scr; omega)) hX.2.2.1) (rA_ag (fun a x y => hs a (by omega) (by unfold scr; omega)) hX.2.2.2.1) (fun a x y _ _ => hs a x y) h1
/-! calls -/
def gst (P : aP) (x : Int32) : Prop := 0 ≤ x.toInt ∧ x.toInt < P.1
def gok (P : aP) (x : Int32) : Bool := decide (0 ≤ x.toInt) && decide (x.toInt < P.1)
theorem gok_nI {P : aP} {x : Int32} (h : gok P x = true) : x.toNatClampNeg < P.1 ∧ x = nI x.toNatClampNeg := by
  rw [gok, Bool.and_eq_true, decide_eq_true_eq, decide_eq_true_eq] at h
  have h0 : ¬ x < 0 := by rw [Int32.lt_iff_toInt_lt]; have e : (0 : Int32).toInt = 0 := by decide
                          omega
  obtain ⟨j, hj, rfl⟩ := nI_of h0
  rw [nI_clamp hj]
  rw [nI_toInt hj] at h
  exact ⟨by omega, rfl⟩
def wn (x : Int32) (a b : Int32) : Bool := decide (a ≤ x) && decide (x ≤ b)
theorem wn_iff {x a b : Int32} : wn x a b = true ↔ (a ≤ x ∧ x ≤ b) := by rw [wn, Bool.and_eq_true, decide_eq_true_eq, decide_eq_true_eq]
def planD (d : aD) : aP := (d.1, d.2.1, d.2.2.2.2.1, d.2.2.2.2.2.1, d.2.2.2.2.2.2.1, d.2.2.2.2.2.2.2)
def f0 : aF := (0, (fun _ => 0), (fun _ => 0), (fun _ => 0), (fun _ => 0))
def pst (r : aR) (acts : List aR) : List aR := (r :: acts).take 8
def momN (P : aP) : Nat → aR → aR
  | 0, r => r
  | k + 1, r => momN P k (momF P r)
def oftU (P : aP) (g : Nat) (l : Int32) : Nat → Nat → aR → Option Nat
  | 0, _, _ => none
  | k + 1, i, r => if rgt P (rideF P r g l) g g = true then some i else oftU P g l k (i + 1) (rideF P r g l)
def waiU (P : aP) (g : Nat) (l : Int32) : Nat → Nat → aR → Option Nat
  | 0, _, _ => none
  | k + 1, i, r => if rgt P (rideF P r g l) g g = true then some i else waiU P g l k (i + 1) (momF P r)
def harU (P : aP) (r : aR) : Nat → Nat → aR → Int32 → Int32
  | 0, _, _, a => a
  | k + 1, i, q, a => harU P r k (i + 1) (tilU P 40 i q) (if (r (3 + i) == 1 && rgt P (tilU P 40 i q) i i) = true then a ||| bt i else a)
def harF (P : aP) (r : aR) (k : Int32) : Int32 := harU P r P.1 0 (upd r 0 k) 0
def drw (z i : Nat) : Nat := (7919 * z + 6151 * i + 1) * (7919 * z + 6151 * i + 1) % 65521 / 4
def mrnU (P : aP) (z : Nat) : Nat → Nat → aR → aR
  | 0, _, r => r
  | k + 1, i, r => mrnU P z k (i + 1) (momF P (actF P r (drw z i)))
def o_write : aA → Int32 → Int32 × aA
  | ((L, t), R), x => if wn x 32 126 = true then (if L < 200 then (nI (L + 1), ((L + 1, updN t L x.toNatClampNeg), R)) else (-3, ((L, t), R))) else (-1, ((L, t), R))
def o_wipe : aA → Int32 × aA
  | ((L, t), R) => (nI L, ((0, t), R))
def o_fault : aA → Int32 × aA
  | ((L, t), R) => (oI (fltF t L).1, ((L, t), R))
def o_lay : aA → Int32 × aA
  | ((L, t), R) => if (fltF t L).1 = none ∧ (fltF t L).2.1 ≠ 0 then (nI (fltF t L).2.1, ((L, t), planD (fltF t L).2, bgnF (fltF t L).2.2.2.1 (fltF t L).2.2.2.2.1, [], [], f0)) else (-2, ((L, t), R))
def o_guest : aA → Int32 → Int32 → Int32 × aA
  | (T, P, r, R), x, w => (if gok P x = true then (if w = 0 then P.2.2.2.1 x.toNatClampNeg else if w = 1 then P.2.2.2.2.1 x.toNatClampNeg else if w = 2 then P.2.2.2.2.2 x.toNatClampNeg else if w = 3 then oI (etn P r x.toNatClampNeg) else -1) else -1, (T, P, r, R))
def o_slice : aA → Int32 → Int32 → Int32 × aA
  | (T, P, r, R), x, w => (if gok P x = true then (if w = 0 then r (3 + x.toNatClampNeg) else if w = 1 then (if r (3 + x.toNatClampNeg) = 1 then r (12 + x.toNatClampNeg) else -4) else if w = 2 then (if r (3 + x.toNatClampNeg) = 1 then r (21 + x.toNatClampNeg) else -4) else if w = 3 then r (30 + x.toNatClampNeg) else if w = 4 then r (39 + x.toNatClampNeg) else if w = 5 then bI (rgt P r x.toNatClampNeg x.toNatClampNeg = true) else -1) else -1, (T, P, r, R))
def o_putIn : aA → Int32 → Int32 → Int32 × aA
  | (T, P, r, acts, R), x, l => if (gok P x && wn l 0 1) = true then (if (loose r x.toNatClampNeg && freeL P r l) = true then (nI (onF P (putF r x.toNatClampNeg l) 1), (T, P, putF r x.toNatClampNeg l, pst r acts, R)) else (-2, (T, P, r, acts, R))) else (-1, (T, P, r, acts, R))
def o_pass : aA → Int32 → Int32 × aA
  | (T, P, r, acts, R), x => if wn x 1 60 = true then (if 999 < r 2 + x then (-2, (T, P, r, acts, R)) else (nI (onF P r 1) - nI (onF P (momN P x.toNatClampNeg r) 1), (T, P, momN P x.toNatClampNeg r, pst r acts, R))) else (-1, (T, P, r, acts, R))
def o_knob : aA → Int32 → Int32 × aA
  | (T, P, r, acts, R), x => if wn x 1 9 = true then (r 0, (T, P, upd r 0 x, pst r acts, R)) else (-1, (T, P, r, acts, R))
def o_take : aA → Int32 → Int32 → Int32 × aA
  | (T, P, r, acts, R), x, y => if (gok P x && gok P y) = true then (if canT P r x.toNatClampNeg y.toNatClampNeg = true then (bI (rgt P (eatF r x.toNatClampNeg y.toNatClampNeg) x.toNatClampNeg y.toNatClampNeg = true), (T, P, eatF r x.toNatClampNeg y.toNatClampNeg, pst r acts, R)) else (-2, (T, P, r, acts, R))) else (-1, (T, P, r, acts, R))
def o_undo : aA → Int32 × aA
  | (T, P, r, [], R) => (-2, (T, P, r, [], R))
  | (T, P, _, q :: acts, R) => (nI acts.length, (T, P, q, acts, R))
def o_falls : aA → Int32 → Int32 × aA
  | (T, P, r, R), x => (if gok P x = true then (if r (3 + x.toNatClampNeg) = 1 then mthF (P.2.1 - r (21 + x.toNatClampNeg)) (r 0) else -4) else -1, (T, P, r, R))
def o_willBe : aA → Int32 → Int32 × aA
  | (T, P, r, R), x => (if gok P x = true then (if r (3 + x.toNatClampNeg) = 3 then -4 else tilU P 40 x.toNatClampNeg r (30 + x.toNatClampNeg)) else -1, (T, P, r, R))
def o_content : aA → Int32 × aA
  | (T, P, r, R) => (conU P r P.1 0 0, (T, P, r, R))
def refF (P : aP) (r : aR) (x l : Int32) : Int32 := if (gok P x && wn l 0 1) = true then (if loose r x.toNatClampNeg = true then 0 else -2) else -1
def o_knobFor : aA → Int32 → Int32 → Int32 × aA
  | (T, P, r, R), x, l => (if refF P r x l = 0 then oI (fndU (fun k => rgt P (rideF P (upd r 0 (nI k)) x.toNatClampNeg l) x.toNatClampNeg x.toNatClampNeg) 9 1) else refF P r x l, (T, P, r, R))
def o_often : aA → Int32 → Int32 → Int32 × aA
  | (T, P, r, R), x, l => (if refF P r x l = 0 then oI (oftU P x.toNatClampNeg l 5 1 r) else refF P r x l, (T, P, r, R))
def o_waits : aA → Int32 → Int32 → Int32 × aA
  | (T, P, r, R), x, l => (if refF P r x l = 0 then oI (waiU P x.toNatClampNeg l 31 0 r) else refF P r x l, (T, P, r, R))
def o_harm : aA → Int32 → Int32 × aA
  | (T, P, r, R), x => (if wn x 1 9 = true then harF P r (r 0) &&& (harF P r x ^^^ (-1)) else -1, (T, P, r, R))
def o_share : aA → Int32 → Int32 × aA
  | (T, P, r, R), x => (if x = -1 then nI (shrT P r) else if gok P x = true then oI (shrC P r x.toNatClampNeg) else -1, (T, P, r, R))
def o_round : aA → Int32 × aA
  | (T, P, r, R) => (nI (cntU (fun g => (shrC P r g).isSome && !(shrC P r g == some g)) P.1 0), (T, P, r, R))
def o_seen : aA → Int32 → Int32 → Int32 → Int32 → Int32 × aA
  | (T, P, r, acts, kept, f), k, l, n, v => if (wn k 0 3 && (wn l 0 1 && (wn n 1 9 && wn v 0 999))) = true then (if f.1 < 6 then (nI (f.1 + 1), (T, P, r, acts, kept, addF f k l n v)) else (-3, (T, P, r, acts, kept, f))) else (-1, (T, P, r, acts, kept, f))
def o_forget : aA → Int32 × aA
  | (T, P, r, acts, kept, f) => (nI f.1, (T, P, r, acts, kept, (0, f.2)))
def o_hot : aA → Int32 → Int32 × aA
  | (T, P, r, acts, kept, f), w => (if wn w 0 1 = true then (if w = 0 then nI (cntU (fun h => fitU f P.2.1 (nI h) f.1 0) 31 0) else oI (fndU (fun h => fitU f P.2.1 (nI h) f.1 0) 31 0)) else -1, (T, P, r, acts, kept, f))
def alkF (P : aP) (r : aR) (g : Nat) : Nat := cntU (fun s => (r (3 + s) == 2) && (P.2.2.2.1 s == P.2.2.2.1 g)) P.1 0
def o_left : aA → Int32 → Int32 → Int32 → Int32 × aA
  | (T, P, r, R), x, n, w => (if (gok P x && (wn n 0 8 && wn w 0 1)) = true then (if r (3 + x.toNatClampNeg) = 2 then (if w = 0 then nI ((alkF P r x.toNatClampNeg - n.toNatClampNeg) / Nat.gcd (alkF P r x.toNatClampNeg - n.toNatClampNeg) (alkF P r x.toNatClampNeg)) else nI (alkF P r x.toNatClampNeg / Nat.gcd (alkF P r x.toNatClampNeg - n.toNatClampNeg) (alkF P r x.toNatClampNeg))) else -2) else -1, (T, P, r, R))
def o_morning : aA → Int32 → Int32 → Int32 → Int32 × aA
  | (T, P, r, R), z, n, w => (if (wn z 0 9999 && (wn n 1 40 && wn w 0 1)) = true then (if w = 0 then conU P (mrnU P z.toNatClampNeg n.toNatClampNeg 0 r) P.1 0 0 else mrnU P z.toNatClampNeg n.toNatClampNeg 0 r 1) else -1, (T, P, r, R))
def o_keep : aA → Int32 × aA
  | (T, P, r, acts, kept, f) => if kept.length < 2 then (nI (kept.length + 1), (T, P, r, acts, r :: kept, f)) else (-3, (T, P, r, acts, kept, f))
def o_back : aA → Int32 × aA
  | (T, P, r, acts, [], f) => (-2, (T, P, r, acts, [], f))
  | (T, P, _, _, q :: kept, f) => (nI kept.length, (T, P, q, [], kept, f))
def o_count : aA → Int32 → Int32 × aA
  | ((L, t), P, r, acts, kept, f), w => (if w = 0 then nI P.1 else if w = 1 then P.2.1 else if w = 2 then r 0 else if w = 3 then r 1 else if w = 4 then r 2 else if w = 5 then nI (onF P r 1) else if w = 6 then nI (onF P r 2) else if w = 7 then nI (onF P r 3) else if w = 8 then nI f.1 else if w = 9 then nI acts.length else if w = 10 then nI kept.length else if w = 11 then nI L else -1, ((L, t), P, r, acts, kept, f))
