/-! THE STATIC LAYER: behind the constructors no reference is ever written again, so a heap is a list of shapes and a table of ints.
    WS: the walk's judgement over that table, in any machine that stands in the method. -/
abbrev sG : Type := va_G × (Nat → Nat) × (Nat → ClassId)
abbrev sShp : Type := (Nat × Nat) ⊕ (Nat × List (Option Nat)) ⊕ List Nat
abbrev sSt : Type := Nat → Nat → Int32
abbrev sB : Type := sG × List sShp × (Nat → Prop)
def s_ty : Nat → FieldType
  | 0 => .int
  | 1 => .char
  | 2 => .byte
  | _ => .object RX0
def s_fv (ad : Nat → Nat) (f : Nat → Int32) : Nat → List (Option Nat) → List Value
  | _, [] => []
  | j, none :: l => .int (f j) :: s_fv ad f (j + 1) l
  | j, some r :: l => .ref (ad r) :: s_fv ad f (j + 1) l
def s_cell (G : sG) (x : sShp) (f : Nat → Int32) : va_E := match x with
  | .inl (t, n) => .inl (G.2.2 t, n, .inl f)
  | .inr (.inl (ci, fl)) => .inr (ci, s_fv G.2.1 f 0 fl)
  | .inr (.inr l) => .inl (G.2.2 3, l.length, .inr (.inr (.inr (.inr (fun j => (l[j]?).map G.2.1)))))
def s_w (B : sB) (S : sSt) : va_W := B.2.1.mapIdx (fun k x => (B.1.2.1 k, s_cell B.1 x (S k)))
abbrev s_tys (G : sG) : List (ClassId × FieldType) := [(G.2.2 0, .int), (G.2.2 1, .char), (G.2.2 2, .byte), (G.2.2 3, .object RX0)]
abbrev s_ad (B : sB) (k : Nat) : Nat := B.1.2.1 k
def s_put (S : sSt) (k i : Nat) (v : Int32) : sSt := fun a b => if a = k then (if b = i then v else S k b) else S a b
def sT : List Cond := lw_tbl.filter goodWord
def sNw : List Cond := lw_tbl.filter (fun w => match w with | .methodLinkNest _ _ _ _ => true | .fieldLinkNest _ _ _ _ _ _ => true | _ => false)
def sAp (B : sB) : Prop := (∀ i j : Nat, i < B.2.1.length → j < B.2.1.length → B.1.2.1 i = B.1.2.1 j → i = j) ∧ ∀ k : Nat, k < B.2.1.length → B.2.2 (B.1.2.1 k)
def sKn (B : sB) (U : State) : Prop := va_K B.1.1 vwCl (s_tys B.1) U ∧ ∀ w ∈ sNw, va_Nw w U
def sCtx (B : sB) (E : State → Prop) (y : MethodName) (cc : ByteArray) (mL : Nat) (rt : Option FieldType) (d : Nat) (p : Program) (R : Room) (s : State) (m : MethodId) (args : Array Value) (meth : Method) (c : Code) : Prop :=
  p.tables.exec = Jvm.exec ∧ c.code = cc ∧ c.maxLocals = mL ∧ meth.sig.returnType = rt ∧ meth.locks = false ∧ s.vm.findClass y.cls = some m.cls ∧ (∀ w ∈ sT, w.before args s = true) ∧ d ≤ R.frames ∧ 100 * d ≤ R.locals ∧ sKn B s ∧ sAp B ∧ E s
def sEnd (cc : ByteArray) (rt : Option FieldType) (pc : Nat) (v : Option Value) : Prop := (v = none ∧ rt = none ∧ decode cc pc = .ok (.return_, 1)) ∨ ∃ (x : Int32) (ty : FieldType), v = some (.int x) ∧ rt = some ty ∧ narrow ty (.int x) = .int x ∧ decode cc pc = .ok (.ireturn, 1)
def WS (B : sB) (E : State → Prop) (y : MethodName) (cc : ByteArray) (mL : Nat) (rt : Option FieldType) (d pc : Nat) (lv : List (Nat × Value)) (st : List Value) (S : sSt) (Q : Option Value → sSt → Prop) : Prop :=
  ∀ (p : Program) (l : Launch) (e : Env) (R : Room) (s : State) (m : MethodId) (args : Array Value) (below : List Frame) (meth : Method) (c : Code), sCtx B E y cc mL rt d p R s m args meth c →
  ∀ (H : Heap) (locs : List Loc) (cells slots : Nat) (ls : Array Slot) (QQ : State → Prop), va_P B.1.1 vwCl (s_w B S) H → va_S B.2.2 s.heap H locs → lv_has ls mL lv → cells ≤ R.cells ∧ slots ≤ R.slots →
  (∀ (v : Option Value) (S' : sSt) (H' : Heap) (locs' : List Loc) (pc' : Nat) (ls' : Array Slot), Q v S' → va_P B.1.1 vwCl (s_w B S') H' → va_S B.2.2 s.heap H' locs' → sEnd cc rt pc' v → W p l e R s m args below meth c H' locs' cells slots QQ (F0 m pc' ls' v.toList)) →
  W p l e R s m args below meth c H locs cells slots QQ (F0 m pc ls st)
def CS (B : sB) (y : MethodName) (cc : ByteArray) (mL : Nat) (rt : Option FieldType) (d : Nat) (av : List Value) (S : sSt) (Q : Option Value → sSt → Prop) : Prop :=
  WS B (fun _ => True) y cc mL rt d 0 (lv_args 0 av) [] S Q
theorem s_fv_get {ad : Nat → Nat} {f : Nat → Int32} {fl : List (Option Nat)} : ∀ {j i : Nat}, (s_fv ad f j fl)[i]? = (fl[i]?).map (fun x => match x with | none => Value.int (f (j + i)) | some r => Value.ref (ad r)) := by
  induction fl with
  | nil => intro j i; simp [s_fv]
  | cons a t ih =>
    intro j i
    cases a with
    | none =>
      cases i with
      | zero => simp [s_fv]
      | succ i => simp only [s_fv, List.getElem?_cons_succ, ih]; rw [show j + 1 + i = j + (i + 1) by omega]
    | some r =>
      cases i with
      | zero => simp [s_fv]
      | succ i => simp only [s_fv, List.getElem?_cons_succ, ih]; rw [show j + 1 + i = j + (i + 1) by omega]
theorem s_fv_len {ad : Nat → Nat} {f : Nat → Int32} {fl : List (Option Nat)} : ∀ {j : Nat}, (s_fv ad f j fl).length = fl.length := by
  induction fl with
  | nil => intro j; rfl
  | cons a t ih => intro j; cases a <;> simp [s_fv, ih]
theorem s_w_get {B : sB} {S : sSt} {k : Nat} {x : sShp} (h : B.2.1[k]? = some x) : (s_w B S)[k]? = some (B.1.2.1 k, s_cell B.1 x (S k)) := by
  simp [s_w, List.getElem?_mapIdx, h]
theorem s_w_len {B : sB} {S : sSt} : (s_w B S).length = B.2.1.length := by simp [s_w]
theorem s_w_D {B : sB} (h : sAp B) (S : sSt) : va_D B.2.2 (s_w B S) := by
  have g : ∀ (k : Nat) (q : Nat × va_E), (s_w B S)[k]? = some q → k < B.2.1.length ∧ q.1 = B.1.2.1 k := by
    intro k q hq
    simp only [s_w, List.getElem?_mapIdx, Option.map_eq_some_iff] at hq
    obtain ⟨x, h1, h2⟩ := hq
    exact ⟨(List.getElem?_eq_some_iff.mp h1).1, by rw [← h2]⟩
  refine ⟨fun i j p q hp hq e => ?_, fun k q hq => ?_⟩
  · obtain ⟨a1, a2⟩ := g i p hp
    obtain ⟨b1, b2⟩ := g j q hq
    exact h.1 i j a1 b1 (by rw [← a2, ← b2, e])
  · obtain ⟨a1, a2⟩ := g k q hq
    rw [a2]; exact h.2 k a1
theorem s_w_set {B : sB} {S S' : sSt} {k : Nat} {x : sShp} (h : B.2.1[k]? = some x) (ho : ∀ j, j ≠ k → S' j = S j) : (s_w B S).set k (B.1.2.1 k, s_cell B.1 x (S' k)) = s_w B S' := by
  apply List.ext_getElem?
  intro j
  have hk := (List.getElem?_eq_some_iff.mp h).1
  by_cases hj : j = k
  · subst hj
    rw [List.getElem?_set_self (by rw [s_w_len]; exact hk), s_w_get h]
  · rw [List.getElem?_set_ne (fun q => hj q.symm)]
    simp only [s_w, List.getElem?_mapIdx]
    cases hx : B.2.1[j]? with
    | none => rfl
    | some z => simp only [Option.map_some]; rw [ho j hj]
theorem s_put_k (S : sSt) (k i : Nat) (v : Int32) : s_put S k i v k = upd (S k) i v := by
  funext b; simp [s_put, upd]
theorem s_put_o (S : sSt) (k i : Nat) (v : Int32) : ∀ j, j ≠ k → s_put S k i v j = S j := by
  intro j hj; funext b; simp [s_put, hj]
def s_cp (S : sSt) (k : Nat) (g : Nat → Int32) : sSt := fun a => if a = k then g else S a
theorem s_cp_k (S : sSt) (k : Nat) (g : Nat → Int32) : s_cp S k g k = g := by simp [s_cp]
theorem s_cp_o (S : sSt) (k : Nat) (g : Nat → Int32) : ∀ j, j ≠ k → s_cp S k g j = S j := by intro j hj; simp [s_cp, hj]
theorem s_fv_set {ad : Nat → Nat} {f : Nat → Int32} {fl : List (Option Nat)} {i : Nat} {v : Int32} (h : fl[i]? = some none) : (s_fv ad f 0 fl).set i (.int v) = s_fv ad (upd f i v) 0 fl := by
  apply List.ext_getElem?
  intro j
  by_cases hj : j = i
  · subst hj
    rw [List.getElem?_set_self (by rw [s_fv_len]; exact (List.getElem?_eq_some_iff.mp h).1), s_fv_get, h]
    simp [upd]
  · rw [List.getElem?_set_ne (fun q => hj q.symm), s_fv_get, s_fv_get]
    cases hx : fl[j]? with
    | none => rfl
    | some z =>
      cases z with
      | none => simp [upd, hj]
      | some r => rfl
