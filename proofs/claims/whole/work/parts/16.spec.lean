/-! THE SPEC: what a row of 48 becomes -/
def brwF (k b : Int32) : Int32 := if k = 0 then b else if k = 1 then b / 2 else if k = 2 then (if b < 3 then 0 else b - 3) else 2 * b
def carF (P : aP) (r : aR) (g : Nat) : aR :=
  if r (3 + g) = 1 then
    (if P.2.1 ≤ r (21 + g) + r 0 then upd (upd (upd r (30 + g) (r (30 + g) + brwF (P.2.2.2.1 g) (r 1 + (if r (12 + g) = 0 then 2 else 0)))) (21 + g) (r (21 + g) + r 0)) (3 + g) 2
     else upd (upd r (30 + g) (r (30 + g) + brwF (P.2.2.2.1 g) (r 1 + (if r (12 + g) = 0 then 2 else 0)))) (21 + g) (r (21 + g) + r 0))
  else r
def carU (P : aP) : Nat → Nat → aR → aR
  | 0, _, r => r
  | k + 1, i, r => carU P k (i + 1) (carF P r i)
def onF (P : aP) (r : aR) (x : Int32) : Nat := cntU (fun g => r (3 + g) == x) P.1 0
def heatF (P : aP) (on : Nat) (h : Int32) : Int32 := if on = 0 then (if h < P.2.2.1 then h + 1 else h) else (if h < nI (on / 2) then 0 else h - nI (on / 2))
def momF (P : aP) (r : aR) : aR := upd (upd (carU P P.1 0 r) 1 (heatF P (onF P r 1) ((carU P P.1 0 r) 1))) 2 ((carU P P.1 0 r) 2 + 1)
def putF (r : aR) (g : Nat) (lane : Int32) : aR := upd (upd (upd r (3 + g) 1) (12 + g) lane) (21 + g) 0
def eatF (r : aR) (g s : Nat) : aR := upd (upd r (3 + s) 3) (39 + s) (nI g)
def rgt (P : aP) (r : aR) (g s : Nat) : Bool := decide (P.2.2.2.2.1 g ≤ r (30 + s)) && decide (r (30 + s) ≤ P.2.2.2.2.2 g)
def etn (P : aP) (r : aR) (g : Nat) : Option Nat := fndU (fun s => r (39 + s) == nI g) P.1 0
def canT (P : aP) (r : aR) (g s : Nat) : Bool := (r (3 + s) == 2) && ((P.2.2.2.1 s == P.2.2.2.1 g) && (etn P r g).isNone)
def freeL (P : aP) (r : aR) (lane : Int32) : Bool := (fndU (fun g => (r (3 + g) == 1) && ((r (12 + g) == lane) && (r (21 + g) == 0))) P.1 0).isNone
def loose (r : aR) (g : Nat) : Bool := (r (3 + g) == 0) || (r (3 + g) == 2)
def tilU (P : aP) : Nat → Nat → aR → aR
  | 0, _, r => r
  | k + 1, g, r => if r (3 + g) = 1 then tilU P k g (momF P r) else r
def rideF (P : aP) (r : aR) (g : Nat) (lane : Int32) : aR := tilU P 40 g (putF r g lane)
def conU (P : aP) (r : aR) : Nat → Nat → Int32 → Int32
  | 0, _, a => a
  | k + 1, i, a => conU P r k (i + 1) (if r (39 + i) = -4 then a else if rgt P r (r (39 + i)).toNatClampNeg i = true then a ||| ((1 : Int32) <<< (r (39 + i) &&& 31)) else a)
def lowF (P : aP) (r : aR) (g : Nat) : aR := match fndU (fun s => canT P r g s && rgt P r g s) P.1 0 with
  | some s => eatF r g s
  | none => r
def actF (P : aP) (r : aR) (dr : Nat) : aR := lowF P (if (r (3 + dr % P.1) == 0 && freeL P r (nI (dr / 16 % 2))) = true then putF r (dr % P.1) (nI (dr / 16 % 2)) else r) (dr % P.1)
/-! what holds of a plan and of a row -/
def iP (P : aP) : Prop := 1 ≤ P.1 ∧ P.1 ≤ 9 ∧ (2 ≤ P.2.1.toInt ∧ P.2.1.toInt ≤ 40) ∧ (0 ≤ P.2.2.1.toInt ∧ P.2.2.1.toInt ≤ 30) ∧ ∀ i, i < P.1 → 0 ≤ (P.2.2.2.1 i).toInt ∧ (P.2.2.2.1 i).toInt ≤ 3
def iR (P : aP) (r : aR) : Prop := (1 ≤ (r 0).toInt ∧ (r 0).toInt ≤ 9) ∧ (0 ≤ (r 1).toInt ∧ (r 1).toInt ≤ 30) ∧ (∀ i, i < P.1 → r (3 + i) = 1 → 0 ≤ (r (21 + i)).toInt ∧ (r (21 + i)).toInt < P.2.1.toInt) ∧ (∀ i, i < P.1 → r (39 + i) = -4 ∨ ∃ j, j < P.1 ∧ r (39 + i) = nI j) ∧ ∀ i j, i < P.1 → j < P.1 → r (39 + i) = r (39 + j) → r (39 + i) ≠ -4 → i = j
/-! changes of one belt -/
def chB (S S' : sSt) (c : Nat) (r' : aR) : Prop := rB S' c r' ∧ ∀ a, (a < c ∨ c + 6 ≤ a) → S' a = S a
def qB (S : sSt) (c : Nat) (r' : aR) : Option Value → sSt → Prop := fun v S' => v = none ∧ chB S S' c r'
def qIB (f : Int32) (S : sSt) (c : Nat) (r' : aR) : Option Value → sSt → Prop := fun v S' => v = some (.int f) ∧ chB S S' c r'
theorem rP_ch {S S' : sSt} {c pl : Nat} {r' : aR} {P : aP} (h : chB S S' c r') (hlt : pl + 4 ≤ c) (hP : rP S pl P) : rP S' pl P := by
  obtain ⟨h1, h2, h3, h4, h5⟩ := hP
  have e : ∀ a, a < c → S' a = S a := fun a ha => h.2 a (Or.inl ha)
  exact ⟨h1, by rw [e pl (by omega)]; exact h2, by rw [e pl (by omega)]; exact h3, by rw [e pl (by omega)]; exact h4, fun i hi => by rw [e (pl + 1) (by omega), e (pl + 2) (by omega), e (pl + 3) (by omega)]; exact h5 i hi⟩
theorem chB_trans {S S1 S2 : sSt} {c : Nat} {r1 r2 : aR} (h1 : chB S S1 c r1) (h2 : chB S1 S2 c r2) : chB S S2 c r2 := ⟨h2.1, fun a ha => (h2.2 a ha).trans (h1.2 a ha)⟩
theorem chB_rfl {S : sSt} {c : Nat} {r : aR} (h : rB S c r) : chB S S c r := ⟨h, fun _ _ => rfl⟩
theorem s_put_ne {S : sSt} {k i a : Nat} {v : Int32} (h : a ≠ k) : s_put S k i v a = S a := s_put_o S k i v a h
theorem s_put_eq {S : sSt} {k i b : Nat} {v : Int32} : s_put S k i v k b = if b = i then v else S k b := by simp [s_put]
