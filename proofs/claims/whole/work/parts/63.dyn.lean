/-! CONSTRUCTORS: a judgement over an explicit world ws, that grows -/
def dCtx (B : sB) (E : State → Prop) (y : MethodName) (cc : ByteArray) (mL d cm sm : Nat) (p : Program) (R : Room) (s : State) (m : MethodId) (args : Array Value) (meth : Method) (c : Code) : Prop :=
  p.tables.exec = Jvm.exec ∧ c.code = cc ∧ c.maxLocals = mL ∧ meth.sig.returnType = none ∧ meth.locks = false ∧ s.vm.findClass y.cls = some m.cls ∧ (∀ w ∈ sT, w.before args s = true) ∧ d ≤ R.frames ∧ 100 * d ≤ R.locals ∧ sKn B s ∧ (∀ q, s.heap.size ≤ q → B.2.2 q) ∧ E s ∧ meth.name = "<init>" ∧ (cm ≤ R.cells ∧ sm ≤ R.slots) ∧ va_AO RX0 s
def DS (B : sB) (E : State → Prop) (y : MethodName) (cc : ByteArray) (mL d cm sm pc : Nat) (lv : List (Nat × Value)) (st : List Value) (cu su : Nat) (ws : va_W) (Q : va_W → Prop) : Prop :=
  ∀ (p : Program) (l : Launch) (e : Env) (R : Room) (s : State) (m : MethodId) (args : Array Value) (below : List Frame) (meth : Method) (c : Code), dCtx B E y cc mL d cm sm p R s m args meth c →
  ∀ (H : Heap) (locs : List Loc) (ls : Array Slot) (QQ : State → Prop), va_P B.1.1 vwCl ws H → va_D B.2.2 ws → va_S B.2.2 s.heap H locs → lv_has ls mL lv → cu ≤ cm ∧ su ≤ sm →
  (∀ (ws' : va_W) (H' : Heap) (locs' : List Loc) (pc' : Nat) (ls' : Array Slot), Q ws' → va_P B.1.1 vwCl ws' H' → va_D B.2.2 ws' → va_S B.2.2 s.heap H' locs' → decode cc pc' = .ok (.return_, 1) → W p l e R s m args below meth c H' locs' cm sm QQ (F0 m pc' ls' [])) →
  W p l e R s m args below meth c H locs cu su QQ (F0 m pc ls st)
section DY
variable {B : sB} {E : State → Prop} {y : MethodName} {cc : ByteArray} {mL d cm sm pc : Nat} {lv : List (Nat × Value)} {st : List Value} {cu su : Nat} {ws : va_W} {Q : va_W → Prop}
theorem d_eq {ws' : va_W} (h : ws = ws') (k : DS B E y cc mL d cm sm pc lv st cu su ws' Q) : DS B E y cc mL d cm sm pc lv st cu su ws Q := h ▸ k
theorem d_iconst {n : Int} {v : Int32} (hd : decode cc pc = .ok (.iconst n, 1)) (hv : Int32.ofInt n = v) (k : DS B E y cc mL d cm sm (pc + 1) lv (.int v :: st) cu su ws Q) : DS B E y cc mL d cm sm pc lv st cu su ws Q := by
  intro p l e R s m args below meth c C H locs ls QQ hP hD hS hl hc fin
  exact lv_iconst C.1 C.2.1 hd hv (k p l e R s m args below meth c C H locs ls QQ hP hD hS hl hc fin)
theorem d_bipush {n : Int} {v : Int32} (hd : decode cc pc = .ok (.bipush n, 2)) (hv : (Int8.ofInt n).toInt32 = v) (k : DS B E y cc mL d cm sm (pc + 2) lv (.int v :: st) cu su ws Q) : DS B E y cc mL d cm sm pc lv st cu su ws Q := by
  intro p l e R s m args below meth c C H locs ls QQ hP hD hS hl hc fin
  exact lv_bipush C.1 C.2.1 hd hv (k p l e R s m args below meth c C H locs ls QQ hP hD hS hl hc fin)
theorem d_sipush {n : Int} {v : Int32} (hd : decode cc pc = .ok (.sipush n, 3)) (hv : (Int16.ofInt n).toInt32 = v) (k : DS B E y cc mL d cm sm (pc + 3) lv (.int v :: st) cu su ws Q) : DS B E y cc mL d cm sm pc lv st cu su ws Q := by
  intro p l e R s m args below meth c C H locs ls QQ hP hD hS hl hc fin
  exact lv_sipush C.1 C.2.1 hd hv (k p l e R s m args below meth c C H locs ls QQ hP hD hS hl hc fin)
theorem d_dup {va : Value} (hd : decode cc pc = .ok (.dup, 1)) (hv : va.category = 1) (k : DS B E y cc mL d cm sm (pc + 1) lv (va :: va :: st) cu su ws Q) : DS B E y cc mL d cm sm pc lv (va :: st) cu su ws Q := by
  intro p l e R s m args below meth c C H locs ls QQ hP hD hS hl hc fin
  exact lv_dup C.1 C.2.1 hd hv (k p l e R s m args below meth c C H locs ls QQ hP hD hS hl hc fin)
theorem d_aload_n {n : Fin 4} {i : Nat} {x0 : Nat} (hd : decode cc pc = .ok (.aload_n n, 1)) (hi : (n : Nat) = i) (hv : s_lk lv i = some (.ref x0)) (k : DS B E y cc mL d cm sm (pc + 1) lv (.ref x0 :: st) cu su ws Q) : DS B E y cc mL d cm sm pc lv st cu su ws Q := by
  intro p l e R s m args below meth c C H locs ls QQ hP hD hS hl hc fin
  exact lv_aload_n C.1 C.2.1 hd hi (s_lk_at hl hv) (k p l e R s m args below meth c C H locs ls QQ hP hD hS hl hc fin)
theorem d_iload_n {n : Fin 4} {i : Nat} {x0 : Int32} (hd : decode cc pc = .ok (.iload_n n, 1)) (hi : (n : Nat) = i) (hv : s_lk lv i = some (.int x0)) (k : DS B E y cc mL d cm sm (pc + 1) lv (.int x0 :: st) cu su ws Q) : DS B E y cc mL d cm sm pc lv st cu su ws Q := by
  intro p l e R s m args below meth c C H locs ls QQ hP hD hS hl hc fin
  exact lv_iload_n C.1 C.2.1 hd hi (s_lk_at hl hv) (k p l e R s m args below meth c C H locs ls QQ hP hD hS hl hc fin)
theorem d_istore_n {n : Fin 4} {i : Nat} {x0 : Int32} {lv' : List (Nat × Value)} (hd : decode cc pc = .ok (.istore_n n, 1)) (hi : (n : Nat) = i) (hn : i < mL) (hlv : (i, Value.int x0) :: lv.filter (fun q => !(q.1 == i) && !(q.1 + 1 == i && q.2.category == 2)) = lv') (k : DS B E y cc mL d cm sm (pc + 1) lv' st cu su ws Q) : DS B E y cc mL d cm sm pc lv (.int x0 :: st) cu su ws Q := by
  intro p l e R s m args below meth c C H locs ls QQ hP hD hS hl hc fin
  exact lv_istore_n C.1 C.2.1 hd hi hl hn hlv (fun ls hl => k p l e R s m args below meth c C H locs ls QQ hP hD hS hl hc fin)
theorem d_iinc {i : Nat} {n : Int} {x0 v : Int32} {lv' : List (Nat × Value)} (hd : decode cc pc = .ok (.iinc i n, 3)) (hv0 : s_lk lv i = some (.int x0)) (hv : x0 + Int32.ofInt n = v) (hn : i < mL) (hlv : (i, Value.int v) :: lv.filter (fun q => !(q.1 == i) && !(q.1 + 1 == i && q.2.category == 2)) = lv') (k : DS B E y cc mL d cm sm (pc + 3) lv' st cu su ws Q) : DS B E y cc mL d cm sm pc lv st cu su ws Q := by
  intro p l e R s m args below meth c C H locs ls QQ hP hD hS hl hc fin
  obtain ⟨j, hj⟩ := List.getElem?_of_mem (s_lk_mem hv0)
  exact lv_iinc C.1 C.2.1 hd hl hj hv hn hlv (fun ls hl => k p l e R s m args below meth c C H locs ls QQ hP hD hS hl hc fin)
theorem d_goto {off : Int} {tgt : Nat} (hd : decode cc pc = .ok (.goto off, 3)) (ht : (pc : Int) + off = (tgt : Int)) (k : DS B E y cc mL d cm sm tgt lv st cu su ws Q) : DS B E y cc mL d cm sm pc lv st cu su ws Q := by
  intro p l e R s m args below meth c C H locs ls QQ hP hD hS hl hc fin
  exact lv_goto C.1 C.2.1 hd ht (k p l e R s m args below meth c C H locs ls QQ hP hD hS hl hc fin)
theorem d_icmp_ge {x0 y0 : Int32} {off : Int} {tgt : Nat} (hd : decode cc pc = .ok (.if_icmp .ge off, 3)) (ht : (pc : Int) + off = (tgt : Int)) (kt : y0 ≤ x0 → DS B E y cc mL d cm sm tgt lv st cu su ws Q) (kf : ¬ y0 ≤ x0 → DS B E y cc mL d cm sm (pc + 3) lv st cu su ws Q) : DS B E y cc mL d cm sm pc lv (.int y0 :: .int x0 :: st) cu su ws Q := by
  intro p l e R s m args below meth c C H locs ls QQ hP hD hS hl hc fin
  exact lv_icmp_ge C.1 C.2.1 hd ht (fun h => kt h p l e R s m args below meth c C H locs ls QQ hP hD hS hl hc fin) (fun h => kf h p l e R s m args below meth c C H locs ls QQ hP hD hS hl hc fin)
theorem d_return (hd : decode cc pc = .ok (.return_, 1)) (hq : Q ws) : DS B E y cc mL d cm sm pc lv [] cu su ws Q := by
  intro p l e R s m args below meth c C H locs ls QQ hP hD hS hl hc fin
  exact W.widen hc.1 hc.2 (fin ws H locs pc ls hq hP hD hS hd)
theorem d_post {Q' : va_W → Prop} (hq : ∀ w, Q w → Q' w) (k : DS B E y cc mL d cm sm pc lv st cu su ws Q) : DS B E y cc mL d cm sm pc lv st cu su ws Q' := by
  intro p l e R s m args below meth c C H locs ls QQ hP hD hS hl hc fin
  exact k p l e R s m args below meth c C H locs ls QQ hP hD hS hl hc (fun ws' H' locs' pc' ls' h => fin ws' H' locs' pc' ls' (hq ws' h))
/-- Object's own constructor -/
theorem d_obj {a i : Nat} (hw : Cond.methodLink y.cls i objectInit ∈ sT) (hd1 : 1 ≤ d) (hd : decode cc pc = .ok (.invokespecial i, 3)) (k : DS B E y cc mL d cm sm (pc + 3) lv [] cu su ws Q) : DS B E y cc mL d cm sm pc lv [.ref a] cu su ws Q := by
  intro p l e R s m args below meth c C H locs ls QQ hP hD hS hl hc fin
  have hts := C.2.2.2.2.2.2.1
  have hf := C.2.2.2.2.2.2.2.1
  have hlo := C.2.2.2.2.2.2.2.2.1
  exact W.objInit C.1 C.2.1 C.2.2.2.2.2.1 (hts _ hw) (hts _ (sT_1 21 rfl rfl)) (hts _ (sT_1 22 rfl rfl)) rfl (by rw [C.2.2.1]; exact hl.1) rfl hd (by omega) (by show 2 * 0 + 0 + 12 ≤ R.locals; omega) (k p l e R s m args below meth c C H locs ls QQ hP hD hS hl hc fin)
theorem d_new {C0 : String} {T : u_T} {N ci index : Nat} {ty : Nat → FieldType} {fs : List Value} (hcl : vwCl[ci]? = some (C0, T, N)) (hin : ∀ w ∈ u_ws C0 T N, w ∈ sT) (hty : ∀ k, k < N → parseFieldDescriptor (T k).2.2.1 = some (ty k)) (hw : Cond.classLink y.cls index C0 ∈ sT) (hw2 : Cond.instantiable C0 N ∈ sT) (hw3 : Cond.initialized C0 ∈ sT) (hfs : ∀ j, j < N → defaultValue (ty j) = vp_V fs j) (hcu : cu + 1 ≤ cm) (hsu : su + N ≤ sm) (hd : decode cc pc = .ok (.new index, 3))
    (k : ∀ q, DS B E y cc mL d cm sm (pc + 3) lv (.ref q :: st) (cu + 1) (su + N) (ws ++ [(q, .inr (ci, fs))]) Q) : DS B E y cc mL d cm sm pc lv st cu su ws Q := by
  intro p l e R s m args below meth c C H locs ls QQ hP hD hS hl hc fin
  have hts := C.2.2.2.2.2.2.1
  have hr := C.2.2.2.2.2.2.2.2.2.2.2.2.2.1
  exact va_new (ci := ci) (fs := fs) C.1 C.2.1 hts hin ty hty C.2.2.2.2.2.1 (hts _ hw) (hts _ hw2) (hts _ hw3) C.2.2.2.2.2.2.2.2.2.1.1 hP hD hS C.2.2.2.2.2.2.2.2.2.2.1 hcl hfs (Nat.le_trans hcu hr.1) (Nat.le_trans hsu hr.2) hd (fun q H1 hP1 hD1 hS1 => k q p l e R s m args below meth c C H1 locs ls QQ hP1 hD1 hS1 hl ⟨hcu, hsu⟩ fin)
theorem d_newa {atype : ArrayType} {ty : FieldType} {t n : Nat} {z : Int32} (hty : newarray.typeOf atype = ty) (ht : ∀ G : sG, (s_tys G)[t]? = some (G.2.2 t, ty)) (hra : ∀ (U : State) (cA : ClassId), va_RA U cA ty = (U.vm.findClass ("[" ++ ty.toString) = some cA)) (hw : Cond.arrayClass (newarray.typeOf atype) ∈ sT) (ha : ∀ cA : ClassId, vp_cell cA (n, .inl (fun _ => 0)) = arrV cA n (fun _ => defaultValue ty)) (hz : ¬ z < 0) (hz2 : z.toNatClampNeg = n) (hby : n * componentBytes ty ≤ 536870912) (hcu : cu + 1 ≤ cm) (hsu : su + n ≤ sm) (hd : decode cc pc = .ok (.newarray atype, 2))
    (k : ∀ q, DS B E y cc mL d cm sm (pc + 2) lv (.ref q :: st) (cu + 1) (su + n) (ws ++ [(q, .inl (B.1.2.2 t, n, .inl (fun _ => 0)))]) Q) : DS B E y cc mL d cm sm pc lv (.int z :: st) cu su ws Q := by
  intro p l e R s m args below meth c C H locs ls QQ hP hD hS hl hc fin
  have hts := C.2.2.2.2.2.2.1
  have hr := C.2.2.2.2.2.2.2.2.2.2.2.2.2.1
  have hK := C.2.2.2.2.2.2.2.2.2.1.1
  refine va_newa C.1 C.2.1 (hts _ hw) hty hK hP hD hS C.2.2.2.2.2.2.2.2.2.2.1 (a0 := (n, .inl (fun _ => 0))) ha hz hz2 hby (Nat.le_trans hcu hr.1) (Nat.le_trans hsu hr.2) hd (fun q cA H1 hK1 hP1 hD1 hS1 => ?_)
  have e1 := (hK1.2 (s_tys B.1).length (cA, ty) (by simp)).2
  have e2 := (hK.2 t _ (ht B.1)).2
  rw [hra] at e1 e2
  have e3 : B.1.2.2 t = cA := Option.some.inj (e2.symm.trans e1)
  subst e3
  exact k q p l e R s m args below meth c C H1 locs ls QQ hP1 hD1 hS1 hl ⟨hcu, hsu⟩ fin
theorem d_newq {index n : Nat} {z : Int32} (hw : Cond.classLink y.cls index RX0 ∈ sT) (hz : ¬ z < 0) (hz2 : z.toNatClampNeg = n) (hby : n * 4 ≤ 536870912) (hcu : cu + 1 ≤ cm) (hsu : su + n ≤ sm) (hd : decode cc pc = .ok (.anewarray index, 3))
    (k : ∀ q, DS B E y cc mL d cm sm (pc + 3) lv (.ref q :: st) (cu + 1) (su + n) (ws ++ [(q, .inl (B.1.2.2 3, n, .inr (.inr (.inr (.inr (fun _ => none))))))]) Q) : DS B E y cc mL d cm sm pc lv (.int z :: st) cu su ws Q := by
  intro p l e R s m args below meth c C H locs ls QQ hP hD hS hl hc fin
  have hts := C.2.2.2.2.2.2.1
  have hr := C.2.2.2.2.2.2.2.2.2.2.2.2.2.1
  have hK := C.2.2.2.2.2.2.2.2.2.1.1
  refine va_newq C.1 C.2.1 C.2.2.2.2.2.1 (hts _ hw) C.2.2.2.2.2.2.2.2.2.2.2.2.2.2 hK hP hD hS C.2.2.2.2.2.2.2.2.2.2.1 hz hz2 hby (Nat.le_trans hcu hr.1) (Nat.le_trans hsu hr.2) hd (fun q cA H1 hK1 hP1 hD1 hS1 => ?_)
  obtain ⟨_, _, -, -, -, e1⟩ := (hK1.2 (s_tys B.1).length (cA, .object RX0) (by simp)).2
  obtain ⟨_, _, -, -, -, e2⟩ := (hK.2 3 _ (show (s_tys B.1)[3]? = some (B.1.2.2 3, .object RX0) from rfl)).2
  have e3 : B.1.2.2 3 = cA := Option.some.inj (e2.symm.trans e1)
  subst e3
  exact k q p l e R s m args below meth c C H1 locs ls QQ hP1 hD1 hS1 hl ⟨hcu, hsu⟩ fin
theorem set_mid {α : Type} (X r : List α) (a b : α) : (X ++ a :: r).set X.length b = X ++ b :: r := by simp
theorem get_mid {α : Type} (X r : List α) (a : α) : (X ++ a :: r)[X.length]? = some a := by simp
/-- a final field of the object that stands behind X -/
theorem d_putF {X r : va_W} {C0 : String} {T : u_T} {N ci index a j : Nat} {ty : Nat → FieldType} {tv : FieldType} {fs : List Value} {v : Value} (hcl : vwCl[ci]? = some (C0, T, N)) (hin : ∀ w ∈ u_ws C0 T N, w ∈ sT) (hty : ∀ k, k < N → parseFieldDescriptor (T k).2.2.1 = some (ty k)) (hnm : ∀ a, a < N → ∀ b, b < N → a ≠ b → (T a).2.1 ≠ (T b).2.1) (hj : j < N) (hw : Cond.fieldLink y.cls index (T j).1 (T j).2.1 (T j).2.2.1 ∈ sT) (hfin : (T j).2.2.2 = true) (hdecl : (T j).1 = y.cls) (hdes : parseFieldDescriptor (T j).2.2.1 = some tv) (hn : narrow tv v = v) (hfit : fits tv v = true) (hlen : j < fs.length) (hd : decode cc pc = .ok (.putfield index, 3))
    (k : DS B E y cc mL d cm sm (pc + 3) lv st cu su (X ++ (a, .inr (ci, fs.set j v)) :: r) Q) : DS B E y cc mL d cm sm pc lv (v :: .ref a :: st) cu su (X ++ (a, .inr (ci, fs)) :: r) Q := by
  intro p l e R s m args below meth c C H locs ls QQ hP hD hS hl hc fin
  have hts := C.2.2.2.2.2.2.1
  refine va_putF C.1 C.2.1 hts hin ty hty hnm C.2.2.2.2.2.1 C.2.2.2.2.2.2.2.2.2.1.1 hP hD hS X.length (get_mid X r _) hcl j hj (hts _ hw) (fun _ h => h) hfin C.2.2.2.2.2.2.2.2.2.2.2.2.1 hdecl hdes hn hfit hlen hd (fun H1 locs1 hP1 hD1 hS1 => ?_)
  rw [set_mid] at hP1 hD1
  exact k p l e R s m args below meth c C H1 locs1 ls QQ hP1 hD1 hS1 hl hc fin
theorem d_get {X r : va_W} {C0 : String} {T : u_T} {N ci index a j : Nat} {fs : List Value} {v : Value} (hcl : vwCl[ci]? = some (C0, T, N)) (hin : ∀ w ∈ u_ws C0 T N, w ∈ sT) (hj : j < N) (hw : Cond.fieldLink y.cls index (T j).1 (T j).2.1 (T j).2.2.1 ∈ sT) (hv : fs[j]? = some v) (hd : decode cc pc = .ok (.getfield index, 3))
    (k : DS B E y cc mL d cm sm (pc + 3) lv (v :: st) cu su (X ++ (a, .inr (ci, fs)) :: r) Q) : DS B E y cc mL d cm sm pc lv (.ref a :: st) cu su (X ++ (a, .inr (ci, fs)) :: r) Q := by
  intro p l e R s m args below meth c C H locs ls QQ hP hD hS hl hc fin
  have hts := C.2.2.2.2.2.2.1
  exact va_get C.1 C.2.1 hts hin C.2.2.2.2.2.1 C.2.2.2.2.2.2.2.2.2.1.1 hP X.length (get_mid X r _) hcl j hj (hts _ hw) (fun _ h => h) hv hd (k p l e R s m args below meth c C H locs ls QQ hP hD hS hl hc fin)
/-- a belt into a row of belts that stands behind X; the belt stands behind X ++ row :: r -/
theorem d_aast {X r r2 : va_W} {a v n i : Nat} {vs : List Value} {f : Nat → Option Nat} (hi : i < n) (hn : n < 2 ^ 31) (hd : decode cc pc = .ok (.aastore, 1))
    (k : DS B E y cc mL d cm sm (pc + 1) lv st cu su (X ++ (a, .inl (B.1.2.2 3, n, .inr (.inr (.inr (.inr (va_up f i (some v))))))) :: (r ++ (v, .inr (0, vs)) :: r2)) Q) : DS B E y cc mL d cm sm pc lv (.ref v :: .int (nI i) :: .ref a :: st) cu su (X ++ (a, .inl (B.1.2.2 3, n, .inr (.inr (.inr (.inr f))))) :: (r ++ (v, .inr (0, vs)) :: r2)) Q := by
  intro p l e R s m args below meth c C H locs ls QQ hP hD hS hl hc fin
  have hv : (X ++ (a, Sum.inl (B.1.2.2 3, n, .inr (.inr (.inr (.inr f))))) :: (r ++ (v, Sum.inr (0, vs)) :: r2))[(X ++ (a, Sum.inl (B.1.2.2 3, n, .inr (.inr (.inr (.inr f))))) :: r).length]? = some ((v, .inr (0, vs)) : Nat × va_E) := by
    rw [show X ++ (a, Sum.inl (B.1.2.2 3, n, .inr (.inr (.inr (.inr f))))) :: (r ++ (v, Sum.inr (0, vs)) :: r2) = (X ++ (a, Sum.inl (B.1.2.2 3, n, .inr (.inr (.inr (.inr f))))) :: r) ++ (v, Sum.inr (0, vs)) :: r2 by simp]
    exact get_mid _ _ _
  refine va_astq C.1 C.2.1 C.2.2.2.2.2.2.2.2.2.1.1 hP hD hS X.length 3 _ 0 (r := (RX0, TX0, 9)) (get_mid X _ _) rfl hv rfl (vp_in_nI hi hn) hd (fun H1 locs1 hP1 hD1 hS1 => ?_)
  rw [set_mid, nI_clamp (by omega)] at hP1 hD1
  exact k p l e R s m args below meth c C H1 locs1 ls QQ hP1 hD1 hS1 hl hc fin
end DY
