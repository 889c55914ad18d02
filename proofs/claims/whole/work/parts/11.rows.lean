section XR
variable {B : sB} {E : State → Prop} {y : MethodName} {cc : ByteArray} {mL : Nat} {rt : Option FieldType} {d pc : Nat} {lv : List (Nat × Value)} {st : List Value} {S : sSt} {Q : Option Value → sSt → Prop}
theorem x_iconst {n : Int} {v : Int32} (hd : decode cc pc = .ok (.iconst n, 1)) (hv : Int32.ofInt n = v) (k : WS B E y cc mL rt d (pc + 1) lv (.int v :: st) S Q) : WS B E y cc mL rt d pc lv (st) S Q := by
  intro p l e R s m args below meth c C H locs cells slots ls QQ hP hS hl hc fin
  exact lv_iconst C.1 C.2.1 hd hv (k p l e R s m args below meth c C H locs cells slots ls QQ hP hS hl hc fin)
theorem x_bipush {n : Int} {v : Int32} (hd : decode cc pc = .ok (.bipush n, 2)) (hv : (Int8.ofInt n).toInt32 = v) (k : WS B E y cc mL rt d (pc + 2) lv (.int v :: st) S Q) : WS B E y cc mL rt d pc lv (st) S Q := by
  intro p l e R s m args below meth c C H locs cells slots ls QQ hP hS hl hc fin
  exact lv_bipush C.1 C.2.1 hd hv (k p l e R s m args below meth c C H locs cells slots ls QQ hP hS hl hc fin)
theorem x_sipush {n : Int} {v : Int32} (hd : decode cc pc = .ok (.sipush n, 3)) (hv : (Int16.ofInt n).toInt32 = v) (k : WS B E y cc mL rt d (pc + 3) lv (.int v :: st) S Q) : WS B E y cc mL rt d pc lv (st) S Q := by
  intro p l e R s m args below meth c C H locs cells slots ls QQ hP hS hl hc fin
  exact lv_sipush C.1 C.2.1 hd hv (k p l e R s m args below meth c C H locs cells slots ls QQ hP hS hl hc fin)
theorem x_lconst {n : Fin 2} {v : Int64} (hd : decode cc pc = .ok (.lconst n, 1)) (hv : Int64.ofNat (n : Nat) = v) (k : WS B E y cc mL rt d (pc + 1) lv (.long v :: st) S Q) : WS B E y cc mL rt d pc lv (st) S Q := by
  intro p l e R s m args below meth c C H locs cells slots ls QQ hP hS hl hc fin
  exact lv_lconst C.1 C.2.1 hd hv (k p l e R s m args below meth c C H locs cells slots ls QQ hP hS hl hc fin)
theorem x_iadd {x0 y0 : Int32} (hd : decode cc pc = .ok (.iadd, 1))  (k : WS B E y cc mL rt d (pc + 1) lv (.int (x0 + y0) :: st) S Q) : WS B E y cc mL rt d pc lv (.int y0 :: .int x0 :: st) S Q := by
  intro p l e R s m args below meth c C H locs cells slots ls QQ hP hS hl hc fin
  exact lv_iadd C.1 C.2.1 hd (k p l e R s m args below meth c C H locs cells slots ls QQ hP hS hl hc fin)
theorem x_isub {x0 y0 : Int32} (hd : decode cc pc = .ok (.isub, 1))  (k : WS B E y cc mL rt d (pc + 1) lv (.int (x0 - y0) :: st) S Q) : WS B E y cc mL rt d pc lv (.int y0 :: .int x0 :: st) S Q := by
  intro p l e R s m args below meth c C H locs cells slots ls QQ hP hS hl hc fin
  exact lv_isub C.1 C.2.1 hd (k p l e R s m args below meth c C H locs cells slots ls QQ hP hS hl hc fin)
theorem x_imul {x0 y0 : Int32} (hd : decode cc pc = .ok (.imul, 1))  (k : WS B E y cc mL rt d (pc + 1) lv (.int (x0 * y0) :: st) S Q) : WS B E y cc mL rt d pc lv (.int y0 :: .int x0 :: st) S Q := by
  intro p l e R s m args below meth c C H locs cells slots ls QQ hP hS hl hc fin
  exact lv_imul C.1 C.2.1 hd (k p l e R s m args below meth c C H locs cells slots ls QQ hP hS hl hc fin)
theorem x_iand {x0 y0 : Int32} (hd : decode cc pc = .ok (.iand, 1))  (k : WS B E y cc mL rt d (pc + 1) lv (.int (x0 &&& y0) :: st) S Q) : WS B E y cc mL rt d pc lv (.int y0 :: .int x0 :: st) S Q := by
  intro p l e R s m args below meth c C H locs cells slots ls QQ hP hS hl hc fin
  exact lv_iand C.1 C.2.1 hd (k p l e R s m args below meth c C H locs cells slots ls QQ hP hS hl hc fin)
theorem x_ior {x0 y0 : Int32} (hd : decode cc pc = .ok (.ior, 1))  (k : WS B E y cc mL rt d (pc + 1) lv (.int (x0 ||| y0) :: st) S Q) : WS B E y cc mL rt d pc lv (.int y0 :: .int x0 :: st) S Q := by
  intro p l e R s m args below meth c C H locs cells slots ls QQ hP hS hl hc fin
  exact lv_ior C.1 C.2.1 hd (k p l e R s m args below meth c C H locs cells slots ls QQ hP hS hl hc fin)
theorem x_ixor {x0 y0 : Int32} (hd : decode cc pc = .ok (.ixor, 1))  (k : WS B E y cc mL rt d (pc + 1) lv (.int (x0 ^^^ y0) :: st) S Q) : WS B E y cc mL rt d pc lv (.int y0 :: .int x0 :: st) S Q := by
  intro p l e R s m args below meth c C H locs cells slots ls QQ hP hS hl hc fin
  exact lv_ixor C.1 C.2.1 hd (k p l e R s m args below meth c C H locs cells slots ls QQ hP hS hl hc fin)
theorem x_ishl {x0 y0 : Int32} (hd : decode cc pc = .ok (.ishl, 1))  (k : WS B E y cc mL rt d (pc + 1) lv (.int (x0 <<< (y0 &&& 31)) :: st) S Q) : WS B E y cc mL rt d pc lv (.int y0 :: .int x0 :: st) S Q := by
  intro p l e R s m args below meth c C H locs cells slots ls QQ hP hS hl hc fin
  exact lv_ishl C.1 C.2.1 hd (k p l e R s m args below meth c C H locs cells slots ls QQ hP hS hl hc fin)
theorem x_ishr {x0 y0 : Int32} (hd : decode cc pc = .ok (.ishr, 1))  (k : WS B E y cc mL rt d (pc + 1) lv (.int (x0 >>> (y0 &&& 31)) :: st) S Q) : WS B E y cc mL rt d pc lv (.int y0 :: .int x0 :: st) S Q := by
  intro p l e R s m args below meth c C H locs cells slots ls QQ hP hS hl hc fin
  exact lv_ishr C.1 C.2.1 hd (k p l e R s m args below meth c C H locs cells slots ls QQ hP hS hl hc fin)
theorem x_idiv {x0 y0 : Int32} (hd : decode cc pc = .ok (.idiv, 1)) (hne : ¬ y0 = 0) (k : WS B E y cc mL rt d (pc + 1) lv (.int (x0 / y0) :: st) S Q) : WS B E y cc mL rt d pc lv (.int y0 :: .int x0 :: st) S Q := by
  intro p l e R s m args below meth c C H locs cells slots ls QQ hP hS hl hc fin
  exact lv_idiv C.1 C.2.1 hd hne (k p l e R s m args below meth c C H locs cells slots ls QQ hP hS hl hc fin)
theorem x_irem {x0 y0 : Int32} (hd : decode cc pc = .ok (.irem, 1)) (hne : ¬ y0 = 0) (k : WS B E y cc mL rt d (pc + 1) lv (.int (x0 - x0 / y0 * y0) :: st) S Q) : WS B E y cc mL rt d pc lv (.int y0 :: .int x0 :: st) S Q := by
  intro p l e R s m args below meth c C H locs cells slots ls QQ hP hS hl hc fin
  exact lv_irem C.1 C.2.1 hd hne (k p l e R s m args below meth c C H locs cells slots ls QQ hP hS hl hc fin)
theorem x_ladd {x0 y0 : Int64} (hd : decode cc pc = .ok (.ladd, 1))  (k : WS B E y cc mL rt d (pc + 1) lv (.long (x0 + y0) :: st) S Q) : WS B E y cc mL rt d pc lv (.long y0 :: .long x0 :: st) S Q := by
  intro p l e R s m args below meth c C H locs cells slots ls QQ hP hS hl hc fin
  exact lv_ladd C.1 C.2.1 hd (k p l e R s m args below meth c C H locs cells slots ls QQ hP hS hl hc fin)
theorem x_lmul {x0 y0 : Int64} (hd : decode cc pc = .ok (.lmul, 1))  (k : WS B E y cc mL rt d (pc + 1) lv (.long (x0 * y0) :: st) S Q) : WS B E y cc mL rt d pc lv (.long y0 :: .long x0 :: st) S Q := by
  intro p l e R s m args below meth c C H locs cells slots ls QQ hP hS hl hc fin
  exact lv_lmul C.1 C.2.1 hd (k p l e R s m args below meth c C H locs cells slots ls QQ hP hS hl hc fin)
theorem x_ldiv {x0 y0 : Int64} (hd : decode cc pc = .ok (.ldiv, 1)) (hne : ¬ y0 = 0) (k : WS B E y cc mL rt d (pc + 1) lv (.long (x0 / y0) :: st) S Q) : WS B E y cc mL rt d pc lv (.long y0 :: .long x0 :: st) S Q := by
  intro p l e R s m args below meth c C H locs cells slots ls QQ hP hS hl hc fin
  exact lv_ldiv C.1 C.2.1 hd hne (k p l e R s m args below meth c C H locs cells slots ls QQ hP hS hl hc fin)
theorem x_lrem {x0 y0 : Int64} (hd : decode cc pc = .ok (.lrem, 1)) (hne : ¬ y0 = 0) (k : WS B E y cc mL rt d (pc + 1) lv (.long (x0 - x0 / y0 * y0) :: st) S Q) : WS B E y cc mL rt d pc lv (.long y0 :: .long x0 :: st) S Q := by
  intro p l e R s m args below meth c C H locs cells slots ls QQ hP hS hl hc fin
  exact lv_lrem C.1 C.2.1 hd hne (k p l e R s m args below meth c C H locs cells slots ls QQ hP hS hl hc fin)
theorem x_i2l {x0 : Int32} (hd : decode cc pc = .ok (.i2l, 1))  (k : WS B E y cc mL rt d (pc + 1) lv (.long x0.toInt64 :: st) S Q) : WS B E y cc mL rt d pc lv (.int x0 :: st) S Q := by
  intro p l e R s m args below meth c C H locs cells slots ls QQ hP hS hl hc fin
  exact lv_i2l C.1 C.2.1 hd rfl (k p l e R s m args below meth c C H locs cells slots ls QQ hP hS hl hc fin)
theorem x_l2i {x0 : Int64} (hd : decode cc pc = .ok (.l2i, 1))  (k : WS B E y cc mL rt d (pc + 1) lv (.int x0.toInt32 :: st) S Q) : WS B E y cc mL rt d pc lv (.long x0 :: st) S Q := by
  intro p l e R s m args below meth c C H locs cells slots ls QQ hP hS hl hc fin
  exact lv_l2i C.1 C.2.1 hd rfl (k p l e R s m args below meth c C H locs cells slots ls QQ hP hS hl hc fin)
theorem x_i2b {x0 : Int32} (hd : decode cc pc = .ok (.i2b, 1))  (k : WS B E y cc mL rt d (pc + 1) lv (.int x0.toInt8.toInt32 :: st) S Q) : WS B E y cc mL rt d pc lv (.int x0 :: st) S Q := by
  intro p l e R s m args below meth c C H locs cells slots ls QQ hP hS hl hc fin
  exact lv_i2b C.1 C.2.1 hd rfl (k p l e R s m args below meth c C H locs cells slots ls QQ hP hS hl hc fin)
theorem x_i2c {x0 : Int32} (hd : decode cc pc = .ok (.i2c, 1))  (k : WS B E y cc mL rt d (pc + 1) lv (.int (x0.toUInt32 % 65536).toInt32 :: st) S Q) : WS B E y cc mL rt d pc lv (.int x0 :: st) S Q := by
  intro p l e R s m args below meth c C H locs cells slots ls QQ hP hS hl hc fin
  exact lv_i2c C.1 C.2.1 hd rfl (k p l e R s m args below meth c C H locs cells slots ls QQ hP hS hl hc fin)
theorem x_dup {va : Value} (hd : decode cc pc = .ok (.dup, 1)) (hv : va.category = 1) (k : WS B E y cc mL rt d (pc + 1) lv (va :: va :: st) S Q) : WS B E y cc mL rt d pc lv (va :: st) S Q := by
  intro p l e R s m args below meth c C H locs cells slots ls QQ hP hS hl hc fin
  exact lv_dup C.1 C.2.1 hd hv (k p l e R s m args below meth c C H locs cells slots ls QQ hP hS hl hc fin)
theorem x_pop {va : Value} (hd : decode cc pc = .ok (.pop, 1)) (hv : va.category = 1) (k : WS B E y cc mL rt d (pc + 1) lv (st) S Q) : WS B E y cc mL rt d pc lv (va :: st) S Q := by
  intro p l e R s m args below meth c C H locs cells slots ls QQ hP hS hl hc fin
  exact lv_pop C.1 C.2.1 hd hv (k p l e R s m args below meth c C H locs cells slots ls QQ hP hS hl hc fin)
theorem x_dup2 {va vb : Value} (hd : decode cc pc = .ok (.dup2, 1)) (hva : va.category = 1) (hvb : vb.category = 1) (k : WS B E y cc mL rt d (pc + 1) lv (va :: vb :: va :: vb :: st) S Q) : WS B E y cc mL rt d pc lv (va :: vb :: st) S Q := by
  intro p l e R s m args below meth c C H locs cells slots ls QQ hP hS hl hc fin
  exact lv_dup2_11 C.1 C.2.1 hd hva hvb (k p l e R s m args below meth c C H locs cells slots ls QQ hP hS hl hc fin)
def s_lk : List (Nat × Value) → Nat → Option Value
  | [], _ => none
  | q :: l, i => if q.1 = i then some q.2 else s_lk l i
theorem s_lk_mem {i : Nat} {v : Value} : ∀ {lv : List (Nat × Value)}, s_lk lv i = some v → (i, v) ∈ lv := by
  intro lv
  induction lv with
  | nil => intro h; cases h
  | cons q l ih =>
    intro h
    unfold s_lk at h
    by_cases hq : q.1 = i
    · rw [if_pos hq] at h
      cases h
      rw [← hq]
      exact List.mem_cons_self
    · rw [if_neg hq] at h
      exact List.mem_cons_of_mem _ (ih h)
theorem s_lk_at {ls : Array Slot} {nL : Nat} {i : Nat} {v : Value} {lv : List (Nat × Value)} (hl : lv_has ls nL lv) (h : s_lk lv i = some v) : ls[i]? = some (.val v) := hl.2.2 (i, v) (s_lk_mem h)
theorem x_iload_n {n : Fin 4} {i : Nat} {x0 : Int32} (hd : decode cc pc = .ok (.iload_n n, 1)) (hi : (n : Nat) = i) (hv : s_lk lv i = some (.int x0)) (k : WS B E y cc mL rt d (pc + 1) lv (.int x0 :: st) S Q) : WS B E y cc mL rt d pc lv (st) S Q := by
  intro p l e R s m args below meth c C H locs cells slots ls QQ hP hS hl hc fin
  exact lv_iload_n C.1 C.2.1 hd hi (s_lk_at hl hv) (k p l e R s m args below meth c C H locs cells slots ls QQ hP hS hl hc fin)
theorem x_iload {i : Nat} {x0 : Int32} (hd : decode cc pc = .ok (.iload i, 2)) (hv : s_lk lv i = some (.int x0)) (k : WS B E y cc mL rt d (pc + 2) lv (.int x0 :: st) S Q) : WS B E y cc mL rt d pc lv (st) S Q := by
  intro p l e R s m args below meth c C H locs cells slots ls QQ hP hS hl hc fin
  exact lv_iload C.1 C.2.1 hd (s_lk_at hl hv) (k p l e R s m args below meth c C H locs cells slots ls QQ hP hS hl hc fin)
theorem x_lload_n {n : Fin 4} {i : Nat} {x0 : Int64} (hd : decode cc pc = .ok (.lload_n n, 1)) (hi : (n : Nat) = i) (hv : s_lk lv i = some (.long x0)) (k : WS B E y cc mL rt d (pc + 1) lv (.long x0 :: st) S Q) : WS B E y cc mL rt d pc lv (st) S Q := by
  intro p l e R s m args below meth c C H locs cells slots ls QQ hP hS hl hc fin
  exact lv_lload_n C.1 C.2.1 hd hi (s_lk_at hl hv) (k p l e R s m args below meth c C H locs cells slots ls QQ hP hS hl hc fin)
theorem x_lload {i : Nat} {x0 : Int64} (hd : decode cc pc = .ok (.lload i, 2)) (hv : s_lk lv i = some (.long x0)) (k : WS B E y cc mL rt d (pc + 2) lv (.long x0 :: st) S Q) : WS B E y cc mL rt d pc lv (st) S Q := by
  intro p l e R s m args below meth c C H locs cells slots ls QQ hP hS hl hc fin
  exact lv_lload C.1 C.2.1 hd (s_lk_at hl hv) (k p l e R s m args below meth c C H locs cells slots ls QQ hP hS hl hc fin)
theorem x_aload_n {n : Fin 4} {i : Nat} {x0 : Nat} (hd : decode cc pc = .ok (.aload_n n, 1)) (hi : (n : Nat) = i) (hv : s_lk lv i = some (.ref x0)) (k : WS B E y cc mL rt d (pc + 1) lv (.ref x0 :: st) S Q) : WS B E y cc mL rt d pc lv (st) S Q := by
  intro p l e R s m args below meth c C H locs cells slots ls QQ hP hS hl hc fin
  exact lv_aload_n C.1 C.2.1 hd hi (s_lk_at hl hv) (k p l e R s m args below meth c C H locs cells slots ls QQ hP hS hl hc fin)
theorem x_aload {i : Nat} {x0 : Nat} (hd : decode cc pc = .ok (.aload i, 2)) (hv : s_lk lv i = some (.ref x0)) (k : WS B E y cc mL rt d (pc + 2) lv (.ref x0 :: st) S Q) : WS B E y cc mL rt d pc lv (st) S Q := by
  intro p l e R s m args below meth c C H locs cells slots ls QQ hP hS hl hc fin
  exact lv_aload C.1 C.2.1 hd (s_lk_at hl hv) (k p l e R s m args below meth c C H locs cells slots ls QQ hP hS hl hc fin)
theorem x_istore_n {n : Fin 4} {i : Nat} {x0 : Int32} {lv' : List (Nat × Value)} (hd : decode cc pc = .ok (.istore_n n, 1)) (hi : (n : Nat) = i) (hn : i < mL) (hlv : (i, Value.int x0) :: lv.filter (fun q => !(q.1 == i) && !(q.1 + 1 == i && q.2.category == 2)) = lv') (k : WS B E y cc mL rt d (pc + 1) lv' st S Q) : WS B E y cc mL rt d pc lv (.int x0 :: st) S Q := by
  intro p l e R s m args below meth c C H locs cells slots ls QQ hP hS hl hc fin
  exact lv_istore_n C.1 C.2.1 hd hi hl hn hlv (fun ls hl => k p l e R s m args below meth c C H locs cells slots ls QQ hP hS hl hc fin)
theorem x_istore {i : Nat} {x0 : Int32} {lv' : List (Nat × Value)} (hd : decode cc pc = .ok (.istore i, 2)) (hn : i < mL) (hlv : (i, Value.int x0) :: lv.filter (fun q => !(q.1 == i) && !(q.1 + 1 == i && q.2.category == 2)) = lv') (k : WS B E y cc mL rt d (pc + 2) lv' st S Q) : WS B E y cc mL rt d pc lv (.int x0 :: st) S Q := by
  intro p l e R s m args below meth c C H locs cells slots ls QQ hP hS hl hc fin
  exact lv_istore C.1 C.2.1 hd hl hn hlv (fun ls hl => k p l e R s m args below meth c C H locs cells slots ls QQ hP hS hl hc fin)
theorem x_astore_n {n : Fin 4} {i : Nat} {x0 : Nat} {lv' : List (Nat × Value)} (hd : decode cc pc = .ok (.astore_n n, 1)) (hi : (n : Nat) = i) (hn : i < mL) (hlv : (i, Value.ref x0) :: lv.filter (fun q => !(q.1 == i) && !(q.1 + 1 == i && q.2.category == 2)) = lv') (k : WS B E y cc mL rt d (pc + 1) lv' st S Q) : WS B E y cc mL rt d pc lv (.ref x0 :: st) S Q := by
  intro p l e R s m args below meth c C H locs cells slots ls QQ hP hS hl hc fin
  exact lv_astore_n C.1 C.2.1 hd hi hl hn hlv (fun ls hl => k p l e R s m args below meth c C H locs cells slots ls QQ hP hS hl hc fin)
theorem x_astore {i : Nat} {x0 : Nat} {lv' : List (Nat × Value)} (hd : decode cc pc = .ok (.astore i, 2)) (hn : i < mL) (hlv : (i, Value.ref x0) :: lv.filter (fun q => !(q.1 == i) && !(q.1 + 1 == i && q.2.category == 2)) = lv') (k : WS B E y cc mL rt d (pc + 2) lv' st S Q) : WS B E y cc mL rt d pc lv (.ref x0 :: st) S Q := by
  intro p l e R s m args below meth c C H locs cells slots ls QQ hP hS hl hc fin
  exact lv_astore C.1 C.2.1 hd hl hn hlv (fun ls hl => k p l e R s m args below meth c C H locs cells slots ls QQ hP hS hl hc fin)
theorem x_lstore_n {n : Fin 4} {i : Nat} {x0 : Int64} {lv' : List (Nat × Value)} (hd : decode cc pc = .ok (.lstore_n n, 1)) (hi : (n : Nat) = i) (hn : i + 1 < mL) (hlv : (i, Value.long x0) :: lv.filter (fun q => !(q.1 == i) && (!(q.1 == i + 1) && !(q.1 + 1 == i && q.2.category == 2))) = lv') (k : WS B E y cc mL rt d (pc + 1) lv' st S Q) : WS B E y cc mL rt d pc lv (.long x0 :: st) S Q := by
  intro p l e R s m args below meth c C H locs cells slots ls QQ hP hS hl hc fin
  exact lv_lstore_n C.1 C.2.1 hd hi hl hn hlv (fun ls hl => k p l e R s m args below meth c C H locs cells slots ls QQ hP hS hl hc fin)
theorem x_lstore {i : Nat} {x0 : Int64} {lv' : List (Nat × Value)} (hd : decode cc pc = .ok (.lstore i, 2)) (hn : i + 1 < mL) (hlv : (i, Value.long x0) :: lv.filter (fun q => !(q.1 == i) && (!(q.1 == i + 1) && !(q.1 + 1 == i && q.2.category == 2))) = lv') (k : WS B E y cc mL rt d (pc + 2) lv' st S Q) : WS B E y cc mL rt d pc lv (.long x0 :: st) S Q := by
  intro p l e R s m args below meth c C H locs cells slots ls QQ hP hS hl hc fin
  exact lv_lstore C.1 C.2.1 hd hl hn hlv (fun ls hl => k p l e R s m args below meth c C H locs cells slots ls QQ hP hS hl hc fin)
theorem x_iinc {i : Nat} {n : Int} {x0 v : Int32} {lv' : List (Nat × Value)} (hd : decode cc pc = .ok (.iinc i n, 3)) (hv0 : s_lk lv i = some (.int x0)) (hv : x0 + Int32.ofInt n = v) (hn : i < mL) (hlv : (i, Value.int v) :: lv.filter (fun q => !(q.1 == i) && !(q.1 + 1 == i && q.2.category == 2)) = lv') (k : WS B E y cc mL rt d (pc + 3) lv' st S Q) : WS B E y cc mL rt d pc lv st S Q := by
  intro p l e R s m args below meth c C H locs cells slots ls QQ hP hS hl hc fin
  obtain ⟨j, hj⟩ := List.getElem?_of_mem (s_lk_mem hv0)
  exact lv_iinc C.1 C.2.1 hd hl hj hv hn hlv (fun ls hl => k p l e R s m args below meth c C H locs cells slots ls QQ hP hS hl hc fin)
theorem x_if_eq {x0 : Int32} {off : Int} {tgt : Nat} (hd : decode cc pc = .ok (.ifCond .eq off, 3)) (ht : (pc : Int) + off = (tgt : Int)) (kt : x0 = 0 → WS B E y cc mL rt d tgt lv st S Q) (kf : ¬ x0 = 0 → WS B E y cc mL rt d (pc + 3) lv st S Q) : WS B E y cc mL rt d pc lv (.int x0 :: st) S Q := by
  intro p l e R s m args below meth c C H locs cells slots ls QQ hP hS hl hc fin
  exact lv_if_eq C.1 C.2.1 hd ht (fun h => kt h p l e R s m args below meth c C H locs cells slots ls QQ hP hS hl hc fin) (fun h => kf h p l e R s m args below meth c C H locs cells slots ls QQ hP hS hl hc fin)
theorem x_icmp_eq {x0 y0 : Int32} {off : Int} {tgt : Nat} (hd : decode cc pc = .ok (.if_icmp .eq off, 3)) (ht : (pc : Int) + off = (tgt : Int)) (kt : x0 = y0 → WS B E y cc mL rt d tgt lv st S Q) (kf : ¬ x0 = y0 → WS B E y cc mL rt d (pc + 3) lv st S Q) : WS B E y cc mL rt d pc lv (.int y0 :: .int x0 :: st) S Q := by
  intro p l e R s m args below meth c C H locs cells slots ls QQ hP hS hl hc fin
  exact lv_icmp_eq C.1 C.2.1 hd ht (fun h => kt h p l e R s m args below meth c C H locs cells slots ls QQ hP hS hl hc fin) (fun h => kf h p l e R s m args below meth c C H locs cells slots ls QQ hP hS hl hc fin)
theorem x_if_ne {x0 : Int32} {off : Int} {tgt : Nat} (hd : decode cc pc = .ok (.ifCond .ne off, 3)) (ht : (pc : Int) + off = (tgt : Int)) (kt : ¬ x0 = 0 → WS B E y cc mL rt d tgt lv st S Q) (kf : x0 = 0 → WS B E y cc mL rt d (pc + 3) lv st S Q) : WS B E y cc mL rt d pc lv (.int x0 :: st) S Q := by
  intro p l e R s m args below meth c C H locs cells slots ls QQ hP hS hl hc fin
  exact lv_if_ne C.1 C.2.1 hd ht (fun h => kt h p l e R s m args below meth c C H locs cells slots ls QQ hP hS hl hc fin) (fun h => kf h p l e R s m args below meth c C H locs cells slots ls QQ hP hS hl hc fin)
theorem x_icmp_ne {x0 y0 : Int32} {off : Int} {tgt : Nat} (hd : decode cc pc = .ok (.if_icmp .ne off, 3)) (ht : (pc : Int) + off = (tgt : Int)) (kt : ¬ x0 = y0 → WS B E y cc mL rt d tgt lv st S Q) (kf : x0 = y0 → WS B E y cc mL rt d (pc + 3) lv st S Q) : WS B E y cc mL rt d pc lv (.int y0 :: .int x0 :: st) S Q := by
  intro p l e R s m args below meth c C H locs cells slots ls QQ hP hS hl hc fin
  exact lv_icmp_ne C.1 C.2.1 hd ht (fun h => kt h p l e R s m args below meth c C H locs cells slots ls QQ hP hS hl hc fin) (fun h => kf h p l e R s m args below meth c C H locs cells slots ls QQ hP hS hl hc fin)
theorem x_if_lt {x0 : Int32} {off : Int} {tgt : Nat} (hd : decode cc pc = .ok (.ifCond .lt off, 3)) (ht : (pc : Int) + off = (tgt : Int)) (kt : x0 < 0 → WS B E y cc mL rt d tgt lv st S Q) (kf : ¬ x0 < 0 → WS B E y cc mL rt d (pc + 3) lv st S Q) : WS B E y cc mL rt d pc lv (.int x0 :: st) S Q := by
  intro p l e R s m args below meth c C H locs cells slots ls QQ hP hS hl hc fin
  exact lv_if_lt C.1 C.2.1 hd ht (fun h => kt h p l e R s m args below meth c C H locs cells slots ls QQ hP hS hl hc fin) (fun h => kf h p l e R s m args below meth c C H locs cells slots ls QQ hP hS hl hc fin)
theorem x_icmp_lt {x0 y0 : Int32} {off : Int} {tgt : Nat} (hd : decode cc pc = .ok (.if_icmp .lt off, 3)) (ht : (pc : Int) + off = (tgt : Int)) (kt : x0 < y0 → WS B E y cc mL rt d tgt lv st S Q) (kf : ¬ x0 < y0 → WS B E y cc mL rt d (pc + 3) lv st S Q) : WS B E y cc mL rt d pc lv (.int y0 :: .int x0 :: st) S Q := by
  intro p l e R s m args below meth c C H locs cells slots ls QQ hP hS hl hc fin
  exact lv_icmp_lt C.1 C.2.1 hd ht (fun h => kt h p l e R s m args below meth c C H locs cells slots ls QQ hP hS hl hc fin) (fun h => kf h p l e R s m args below meth c C H locs cells slots ls QQ hP hS hl hc fin)
theorem x_if_ge {x0 : Int32} {off : Int} {tgt : Nat} (hd : decode cc pc = .ok (.ifCond .ge off, 3)) (ht : (pc : Int) + off = (tgt : Int)) (kt : 0 ≤ x0 → WS B E y cc mL rt d tgt lv st S Q) (kf : ¬ 0 ≤ x0 → WS B E y cc mL rt d (pc + 3) lv st S Q) : WS B E y cc mL rt d pc lv (.int x0 :: st) S Q := by
  intro p l e R s m args below meth c C H locs cells slots ls QQ hP hS hl hc fin
  exact lv_if_ge C.1 C.2.1 hd ht (fun h => kt h p l e R s m args below meth c C H locs cells slots ls QQ hP hS hl hc fin) (fun h => kf h p l e R s m args below meth c C H locs cells slots ls QQ hP hS hl hc fin)
theorem x_icmp_ge {x0 y0 : Int32} {off : Int} {tgt : Nat} (hd : decode cc pc = .ok (.if_icmp .ge off, 3)) (ht : (pc : Int) + off = (tgt : Int)) (kt : y0 ≤ x0 → WS B E y cc mL rt d tgt lv st S Q) (kf : ¬ y0 ≤ x0 → WS B E y cc mL rt d (pc + 3) lv st S Q) : WS B E y cc mL rt d pc lv (.int y0 :: .int x0 :: st) S Q := by
  intro p l e R s m args below meth c C H locs cells slots ls QQ hP hS hl hc fin
  exact lv_icmp_ge C.1 C.2.1 hd ht (fun h => kt h p l e R s m args below meth c C H locs cells slots ls QQ hP hS hl hc fin) (fun h => kf h p l e R s m args below meth c C H locs cells slots ls QQ hP hS hl hc fin)
theorem x_if_gt {x0 : Int32} {off : Int} {tgt : Nat} (hd : decode cc pc = .ok (.ifCond .gt off, 3)) (ht : (pc : Int) + off = (tgt : Int)) (kt : 0 < x0 → WS B E y cc mL rt d tgt lv st S Q) (kf : ¬ 0 < x0 → WS B E y cc mL rt d (pc + 3) lv st S Q) : WS B E y cc mL rt d pc lv (.int x0 :: st) S Q := by
  intro p l e R s m args below meth c C H locs cells slots ls QQ hP hS hl hc fin
  exact lv_if_gt C.1 C.2.1 hd ht (fun h => kt h p l e R s m args below meth c C H locs cells slots ls QQ hP hS hl hc fin) (fun h => kf h p l e R s m args below meth c C H locs cells slots ls QQ hP hS hl hc fin)
theorem x_icmp_gt {x0 y0 : Int32} {off : Int} {tgt : Nat} (hd : decode cc pc = .ok (.if_icmp .gt off, 3)) (ht : (pc : Int) + off = (tgt : Int)) (kt : y0 < x0 → WS B E y cc mL rt d tgt lv st S Q) (kf : ¬ y0 < x0 → WS B E y cc mL rt d (pc + 3) lv st S Q) : WS B E y cc mL rt d pc lv (.int y0 :: .int x0 :: st) S Q := by
  intro p l e R s m args below meth c C H locs cells slots ls QQ hP hS hl hc fin
  exact lv_icmp_gt C.1 C.2.1 hd ht (fun h => kt h p l e R s m args below meth c C H locs cells slots ls QQ hP hS hl hc fin) (fun h => kf h p l e R s m args below meth c C H locs cells slots ls QQ hP hS hl hc fin)
theorem x_if_le {x0 : Int32} {off : Int} {tgt : Nat} (hd : decode cc pc = .ok (.ifCond .le off, 3)) (ht : (pc : Int) + off = (tgt : Int)) (kt : x0 ≤ 0 → WS B E y cc mL rt d tgt lv st S Q) (kf : ¬ x0 ≤ 0 → WS B E y cc mL rt d (pc + 3) lv st S Q) : WS B E y cc mL rt d pc lv (.int x0 :: st) S Q := by
  intro p l e R s m args below meth c C H locs cells slots ls QQ hP hS hl hc fin
  exact lv_if_le C.1 C.2.1 hd ht (fun h => kt h p l e R s m args below meth c C H locs cells slots ls QQ hP hS hl hc fin) (fun h => kf h p l e R s m args below meth c C H locs cells slots ls QQ hP hS hl hc fin)
theorem x_icmp_le {x0 y0 : Int32} {off : Int} {tgt : Nat} (hd : decode cc pc = .ok (.if_icmp .le off, 3)) (ht : (pc : Int) + off = (tgt : Int)) (kt : x0 ≤ y0 → WS B E y cc mL rt d tgt lv st S Q) (kf : ¬ x0 ≤ y0 → WS B E y cc mL rt d (pc + 3) lv st S Q) : WS B E y cc mL rt d pc lv (.int y0 :: .int x0 :: st) S Q := by
  intro p l e R s m args below meth c C H locs cells slots ls QQ hP hS hl hc fin
  exact lv_icmp_le C.1 C.2.1 hd ht (fun h => kt h p l e R s m args below meth c C H locs cells slots ls QQ hP hS hl hc fin) (fun h => kf h p l e R s m args below meth c C H locs cells slots ls QQ hP hS hl hc fin)
theorem x_goto {off : Int} {tgt : Nat} (hd : decode cc pc = .ok (.goto off, 3)) (ht : (pc : Int) + off = (tgt : Int)) (k : WS B E y cc mL rt d tgt lv st S Q) : WS B E y cc mL rt d pc lv st S Q := by
  intro p l e R s m args below meth c C H locs cells slots ls QQ hP hS hl hc fin
  exact lv_goto C.1 C.2.1 hd ht (k p l e R s m args below meth c C H locs cells slots ls QQ hP hS hl hc fin)
theorem x_tableOut {dflt lo hi : Int} {offs : Array Int} {len : Nat} {x0 : Int32} {tgt : Nat} (hd : decode cc pc = .ok (.tableswitch dflt lo hi offs, len)) (h : x0.toInt < lo ∨ hi < x0.toInt) (ht : (pc : Int) + dflt = (tgt : Int)) (k : WS B E y cc mL rt d tgt lv st S Q) : WS B E y cc mL rt d pc lv (.int x0 :: st) S Q := by
  intro p l e R s m args below meth c C H locs cells slots ls QQ hP hS hl hc fin
  exact lv_tableOut C.1 C.2.1 hd h ht (k p l e R s m args below meth c C H locs cells slots ls QQ hP hS hl hc fin)
theorem x_tableIn {dflt lo hi : Int} {offs : Array Int} {len : Nat} {x0 : Int32} {off : Int} {tgt : Nat} (hd : decode cc pc = .ok (.tableswitch dflt lo hi offs, len)) (h1 : ¬ x0.toInt < lo) (h2 : ¬ hi < x0.toInt) (ho : offs[(x0.toInt - lo).toNat]? = some off) (ht : (pc : Int) + off = (tgt : Int)) (k : WS B E y cc mL rt d tgt lv st S Q) : WS B E y cc mL rt d pc lv (.int x0 :: st) S Q := by
  intro p l e R s m args below meth c C H locs cells slots ls QQ hP hS hl hc fin
  exact lv_tableIn C.1 C.2.1 hd h1 h2 ho ht (k p l e R s m args below meth c C H locs cells slots ls QQ hP hS hl hc fin)
theorem x_lookup {dflt : Int} {ps : Array (Int × Int)} {len : Nat} {x0 : Int32} {off : Int} {tgt : Nat} (hd : decode cc pc = .ok (.lookupswitch dflt ps, len)) (hp : (ps.toList.zip (ps.toList.drop 1)).all (fun (a, next) => a.1 < next.1) = true) (ho : Op.lookupswitch.offset ps.toList dflt x0.toInt = off) (ht : (pc : Int) + off = (tgt : Int)) (k : WS B E y cc mL rt d tgt lv st S Q) : WS B E y cc mL rt d pc lv (.int x0 :: st) S Q := by
  intro p l e R s m args below meth c C H locs cells slots ls QQ hP hS hl hc fin
  exact lv_lookup C.1 C.2.1 hd hp ho ht (k p l e R s m args below meth c C H locs cells slots ls QQ hP hS hl hc fin)
theorem x_ldc2 {i : Nat} {v : Int64} (hd : decode cc pc = .ok (.ldc2_w i, 3)) (hw : Jvm.Cond.constantLong y.cls i v ∈ sT) (k : WS B E y cc mL rt d (pc + 3) lv (.long v :: st) S Q) : WS B E y cc mL rt d pc lv st S Q := by
  intro p l e R s m args below meth c C H locs cells slots ls QQ hP hS hl hc fin
  exact lv_ldc2 C.1 C.2.1 C.2.2.2.2.2.1 (C.2.2.2.2.2.2.1 _ hw) hd (k p l e R s m args below meth c C H locs cells slots ls QQ hP hS hl hc fin)
theorem x_wk {lv' : List (Nat × Value)} (ks : List Nat) (hp : lv_pick lv ks = lv') (k : WS B E y cc mL rt d pc lv' st S Q) : WS B E y cc mL rt d pc lv st S Q := by
  intro p l e R s m args below meth c C H locs cells slots ls QQ hP hS hl hc fin
  exact k p l e R s m args below meth c C H locs cells slots ls QQ hP hS (lv_sub hl ks hp) hc fin
theorem x_post {Q' : Option Value → sSt → Prop} (hq : ∀ v S', Q v S' → Q' v S') (k : WS B E y cc mL rt d pc lv st S Q) : WS B E y cc mL rt d pc lv st S Q' := by
  intro p l e R s m args below meth c C H locs cells slots ls QQ hP hS hl hc fin
  exact k p l e R s m args below meth c C H locs cells slots ls QQ hP hS hl hc (fun v S' H' locs' pc' ls' hq' => fin v S' H' locs' pc' ls' (hq v S' hq'))
theorem x_top {x0 : Int32} (k : ∀ z : Int32, z = x0 → WS B E y cc mL rt d pc lv (.int z :: st) S Q) : WS B E y cc mL rt d pc lv (.int x0 :: st) S Q := k x0 rfl
theorem x_ireturn {x0 : Int32} {ty : FieldType} (hd : decode cc pc = .ok (.ireturn, 1)) (hr : rt = some ty) (hn : narrow ty (.int x0) = .int x0) (hq : Q (some (.int x0)) S) : WS B E y cc mL rt d pc lv [.int x0] S Q := by
  intro p l e R s m args below meth c C H locs cells slots ls QQ hP hS hl hc fin
  exact fin (some (.int x0)) S H locs pc ls hq hP hS (Or.inr ⟨x0, ty, rfl, hr, hn, hd⟩)
theorem x_return (hd : decode cc pc = .ok (.return_, 1)) (hr : rt = none) (hq : Q none S) : WS B E y cc mL rt d pc lv [] S Q := by
  intro p l e R s m args below meth c C H locs cells slots ls QQ hP hS hl hc fin
  exact fin none S H locs pc ls hq hP hS (Or.inl ⟨rfl, hr, hd⟩)
theorem x_iald {a n : Nat} {i : Int32} (hsh : B.2.1[a]? = some (.inl (0, n))) (hd : decode cc pc = .ok (.iaload, 1)) (hi : vp_in i n) (k : WS B E y cc mL rt d (pc + 1) lv (.int (S a i.toNatClampNeg) :: st) S Q) : WS B E y cc mL rt d pc lv (.int i :: .ref (s_ad B a) :: st) S Q := by
  intro p l e R s m args below meth c C H locs cells slots ls QQ hP hS hl hc fin
  exact va_iald C.1 C.2.1 C.2.2.2.2.2.2.2.2.2.1.1 hP a 0 (s_w_get hsh) rfl hi hd (k p l e R s m args below meth c C H locs cells slots ls QQ hP hS hl hc fin)
theorem x_cald {a n : Nat} {i : Int32} (hsh : B.2.1[a]? = some (.inl (1, n))) (hd : decode cc pc = .ok (.caload, 1)) (hi : vp_in i n) (k : WS B E y cc mL rt d (pc + 1) lv (.int (S a i.toNatClampNeg) :: st) S Q) : WS B E y cc mL rt d pc lv (.int i :: .ref (s_ad B a) :: st) S Q := by
  intro p l e R s m args below meth c C H locs cells slots ls QQ hP hS hl hc fin
  exact va_cald C.1 C.2.1 C.2.2.2.2.2.2.2.2.2.1.1 hP a 1 (s_w_get hsh) rfl hi hd (k p l e R s m args below meth c C H locs cells slots ls QQ hP hS hl hc fin)
theorem x_bald {a n : Nat} {i : Int32} (hsh : B.2.1[a]? = some (.inl (2, n))) (hd : decode cc pc = .ok (.baload, 1)) (hi : vp_in i n) (k : WS B E y cc mL rt d (pc + 1) lv (.int (S a i.toNatClampNeg) :: st) S Q) : WS B E y cc mL rt d pc lv (.int i :: .ref (s_ad B a) :: st) S Q := by
  intro p l e R s m args below meth c C H locs cells slots ls QQ hP hS hl hc fin
  exact va_bald C.1 C.2.1 C.2.2.2.2.2.2.2.2.2.1.1 hP a 2 (s_w_get hsh) rfl hi hd (k p l e R s m args below meth c C H locs cells slots ls QQ hP hS hl hc fin)
theorem x_iast {a n : Nat} {i x0 : Int32} (hsh : B.2.1[a]? = some (.inl (0, n))) (hd : decode cc pc = .ok (.iastore, 1)) (hi : vp_in i n) (k : WS B E y cc mL rt d (pc + 1) lv st (s_put S a i.toNatClampNeg x0) Q) : WS B E y cc mL rt d pc lv (.int x0 :: .int i :: .ref (s_ad B a) :: st) S Q := by
  intro p l e R s m args below meth c C H locs cells slots ls QQ hP hS hl hc fin
  refine va_iast C.1 C.2.1 C.2.2.2.2.2.2.2.2.2.1.1 hP (s_w_D C.2.2.2.2.2.2.2.2.2.2.1 S) hS a 0 (s_w_get hsh) rfl hi hd (fun H locs hP hD hS => ?_)
  refine k p l e R s m args below meth c C H locs cells slots ls QQ ?_ hS hl hc fin
  rw [← s_w_set hsh (s_put_o S a i.toNatClampNeg x0), s_put_k]
  exact hP
theorem x_castr {a n : Nat} {i x0 : Int32} (hsh : B.2.1[a]? = some (.inl (1, n))) (hd : decode cc pc = .ok (.castore, 1)) (hi : vp_in i n) (k : WS B E y cc mL rt d (pc + 1) lv st (s_put S a i.toNatClampNeg (vp_nar .char x0)) Q) : WS B E y cc mL rt d pc lv (.int x0 :: .int i :: .ref (s_ad B a) :: st) S Q := by
  intro p l e R s m args below meth c C H locs cells slots ls QQ hP hS hl hc fin
  refine va_cast C.1 C.2.1 C.2.2.2.2.2.2.2.2.2.1.1 hP (s_w_D C.2.2.2.2.2.2.2.2.2.2.1 S) hS a 1 (s_w_get hsh) rfl hi hd (fun H locs hP hD hS => ?_)
  refine k p l e R s m args below meth c C H locs cells slots ls QQ ?_ hS hl hc fin
  rw [← s_w_set hsh (s_put_o S a i.toNatClampNeg (vp_nar .char x0)), s_put_k]
  exact hP
theorem x_bast {a n : Nat} {i x0 : Int32} (hsh : B.2.1[a]? = some (.inl (2, n))) (hd : decode cc pc = .ok (.bastore, 1)) (hi : vp_in i n) (k : WS B E y cc mL rt d (pc + 1) lv st (s_put S a i.toNatClampNeg (vp_nar .byte x0)) Q) : WS B E y cc mL rt d pc lv (.int x0 :: .int i :: .ref (s_ad B a) :: st) S Q := by
  intro p l e R s m args below meth c C H locs cells slots ls QQ hP hS hl hc fin
  refine va_bast C.1 C.2.1 C.2.2.2.2.2.2.2.2.2.1.1 hP (s_w_D C.2.2.2.2.2.2.2.2.2.2.1 S) hS a 2 (s_w_get hsh) rfl hi hd (fun H locs hP hD hS => ?_)
  refine k p l e R s m args below meth c C H locs cells slots ls QQ ?_ hS hl hc fin
  rw [← s_w_set hsh (s_put_o S a i.toNatClampNeg (vp_nar .byte x0)), s_put_k]
  exact hP
theorem x_aald {a r : Nat} {rs : List Nat} {i : Int32} (hsh : B.2.1[a]? = some (.inr (.inr rs))) (hd : decode cc pc = .ok (.aaload, 1)) (hi : vp_in i rs.length) (hr : rs[i.toNatClampNeg]? = some r) (k : WS B E y cc mL rt d (pc + 1) lv (.ref (s_ad B r) :: st) S Q) : WS B E y cc mL rt d pc lv (.int i :: .ref (s_ad B a) :: st) S Q := by
  intro p l e R s m args below meth c C H locs cells slots ls QQ hP hS hl hc fin
  refine va_aldq C.1 C.2.1 C.2.2.2.2.2.2.2.2.2.1.1 hP a 3 (s_w_get hsh) rfl hi hd ?_
  simp only [hr, Option.map_some, va_rf]
  exact k p l e R s m args below meth c C H locs cells slots ls QQ hP hS hl hc fin
theorem x_getI {a ci N j i : Nat} {C0 : String} {T : u_T} {fl : List (Option Nat)} (hsh : B.2.1[a]? = some (.inr (.inl (ci, fl)))) (hc0 : vwCl[ci]? = some (C0, T, N)) (hin : ∀ w ∈ u_ws C0 T N, w ∈ sT) (hj : j < N) (hw : Cond.fieldLink y.cls i (T j).1 (T j).2.1 (T j).2.2.1 ∈ sT) (hf : fl[j]? = some none) (hd : decode cc pc = .ok (.getfield i, 3)) (k : WS B E y cc mL rt d (pc + 3) lv (.int (S a j) :: st) S Q) : WS B E y cc mL rt d pc lv (.ref (s_ad B a) :: st) S Q := by
  intro p l e R s m args below meth c C H locs cells slots ls QQ hP hS hl hc fin
  exact va_get (v := .int (S a j)) C.1 C.2.1 C.2.2.2.2.2.2.1 hin C.2.2.2.2.2.1 C.2.2.2.2.2.2.2.2.2.1.1 hP a (s_w_get hsh) hc0 j hj (C.2.2.2.2.2.2.1 _ hw) (fun _ h => h) (by rw [s_fv_get, hf]; simp) hd (k p l e R s m args below meth c C H locs cells slots ls QQ hP hS hl hc fin)
theorem x_getR {a ci N j i r : Nat} {C0 : String} {T : u_T} {fl : List (Option Nat)} (hsh : B.2.1[a]? = some (.inr (.inl (ci, fl)))) (hc0 : vwCl[ci]? = some (C0, T, N)) (hin : ∀ w ∈ u_ws C0 T N, w ∈ sT) (hj : j < N) (hw : Cond.fieldLink y.cls i (T j).1 (T j).2.1 (T j).2.2.1 ∈ sT) (hf : fl[j]? = some (some r)) (hd : decode cc pc = .ok (.getfield i, 3)) (k : WS B E y cc mL rt d (pc + 3) lv (.ref (s_ad B r) :: st) S Q) : WS B E y cc mL rt d pc lv (.ref (s_ad B a) :: st) S Q := by
  intro p l e R s m args below meth c C H locs cells slots ls QQ hP hS hl hc fin
  exact va_get (v := .ref (s_ad B r)) C.1 C.2.1 C.2.2.2.2.2.2.1 hin C.2.2.2.2.2.1 C.2.2.2.2.2.2.2.2.2.1.1 hP a (s_w_get hsh) hc0 j hj (C.2.2.2.2.2.2.1 _ hw) (fun _ h => h) (by rw [s_fv_get, hf]; simp) hd (k p l e R s m args below meth c C H locs cells slots ls QQ hP hS hl hc fin)
theorem x_getN {a ci N j i r : Nat} {C0 host : String} {T : u_T} {fl : List (Option Nat)} (hsh : B.2.1[a]? = some (.inr (.inl (ci, fl)))) (hc0 : vwCl[ci]? = some (C0, T, N)) (hin : ∀ w ∈ u_ws C0 T N, w ∈ sT) (hj : j < N) (hw : Cond.fieldLinkNest y.cls i (T j).1 (T j).2.1 (T j).2.2.1 host ∈ sNw) (hf : fl[j]? = some (some r)) (hd : decode cc pc = .ok (.getfield i, 3)) (k : WS B E y cc mL rt d (pc + 3) lv (.ref (s_ad B r) :: st) S Q) : WS B E y cc mL rt d pc lv (.ref (s_ad B a) :: st) S Q := by
  intro p l e R s m args below meth c C H locs cells slots ls QQ hP hS hl hc fin
  exact va_getN (v := .ref (s_ad B r)) C.1 C.2.1 C.2.2.2.2.2.2.1 hin C.2.2.2.2.2.1 C.2.2.2.2.2.2.2.2.2.1.1 hP a (s_w_get hsh) hc0 j hj (va_Nw.use rfl (C.2.2.2.2.2.2.2.2.2.1.2 _ hw)) (fun _ h => h) (by rw [s_fv_get, hf]; simp) hd (k p l e R s m args below meth c C H locs cells slots ls QQ hP hS hl hc fin)
theorem x_putI {a ci N j i : Nat} {C0 : String} {T : u_T} {fl : List (Option Nat)} {ty0 : Nat → FieldType} {ty : FieldType} {x0 : Int32} (hsh : B.2.1[a]? = some (.inr (.inl (ci, fl)))) (hc0 : vwCl[ci]? = some (C0, T, N)) (hin : ∀ w ∈ u_ws C0 T N, w ∈ sT) (hty : ∀ k, k < N → parseFieldDescriptor (T k).2.2.1 = some (ty0 k)) (hnm : ∀ a, a < N → ∀ b, b < N → a ≠ b → (T a).2.1 ≠ (T b).2.1) (hj : j < N) (hw : Cond.fieldLink y.cls i (T j).1 (T j).2.1 (T j).2.2.1 ∈ sT) (hfin : (T j).2.2.2 = false) (hpt : parseFieldDescriptor (T j).2.2.1 = some ty) (hf : fl[j]? = some none) (hn : narrow ty (.int x0) = .int x0) (hfit : fits ty (.int x0) = true) (hd : decode cc pc = .ok (.putfield i, 3)) (k : WS B E y cc mL rt d (pc + 3) lv st (s_put S a j x0) Q) : WS B E y cc mL rt d pc lv (.int x0 :: .ref (s_ad B a) :: st) S Q := by
  intro p l e R s m args below meth c C H locs cells slots ls QQ hP hS hl hc fin
  refine va_put C.1 C.2.1 C.2.2.2.2.2.2.1 hin ty0 hty hnm C.2.2.2.2.2.1 C.2.2.2.2.2.2.2.2.2.1.1 hP (s_w_D C.2.2.2.2.2.2.2.2.2.2.1 S) hS a (s_w_get hsh) hc0 j hj (C.2.2.2.2.2.2.1 _ hw) (fun _ h => h) hfin hpt hn hfit (by rw [s_fv_len]; exact (List.getElem?_eq_some_iff.mp hf).1) hd (fun H locs hP hD hS => ?_)
  refine k p l e R s m args below meth c C H locs cells slots ls QQ ?_ hS hl hc fin
  rw [← s_w_set hsh (s_put_o S a j x0), s_put_k]
  rw [s_fv_set hf] at hP
  exact hP
theorem x_max {i : Nat} {x0 y0 : Int32} (hw : Cond.methodLink y.cls i Lib.Math.max.name ∈ sT) (hw2 : Cond.static Lib.Math.max.name ∈ sT ∧ Cond.initialized "java/lang/Math" ∈ sT ∧ Cond.code Lib.Math.max.name Lib.Math.max.code 2 (some .int) ∈ sT) (hd0 : 1 ≤ d) (hst : (st.map fun v => v.category).sum ≤ 8) (hd : decode cc pc = .ok (.invokestatic i, 3)) (k : WS B E y cc mL rt d (pc + 3) lv (.int (if x0 < y0 then y0 else x0) :: st) S Q) : WS B E y cc mL rt d pc lv (.int y0 :: .int x0 :: st) S Q := by
  intro p l e R s m args below meth c C H locs cells slots ls QQ hP hS hl hc fin
  exact va_mmax C.1 C.2.1 (by rw [C.2.2.1, hl.1]) C.2.2.2.2.2.1 (C.2.2.2.2.2.2.1 _ hw) (C.2.2.2.2.2.2.1 _ hw2.1) (C.2.2.2.2.2.2.1 _ hw2.2.1) (C.2.2.2.2.2.2.1 _ hw2.2.2) (Nat.le_trans hd0 C.2.2.2.2.2.2.2.1) (by have := C.2.2.2.2.2.2.2.2.1; omega) hc.1 hc.2 hd (k p l e R s m args below meth c C H locs cells slots ls QQ hP hS hl hc fin)
theorem x_min {i : Nat} {x0 y0 : Int32} (hw : Cond.methodLink y.cls i Lib.Math.min.name ∈ sT) (hw2 : Cond.static Lib.Math.min.name ∈ sT ∧ Cond.initialized "java/lang/Math" ∈ sT ∧ Cond.code Lib.Math.min.name Lib.Math.min.code 2 (some .int) ∈ sT) (hd0 : 1 ≤ d) (hst : (st.map fun v => v.category).sum ≤ 8) (hd : decode cc pc = .ok (.invokestatic i, 3)) (k : WS B E y cc mL rt d (pc + 3) lv (.int (if y0 < x0 then y0 else x0) :: st) S Q) : WS B E y cc mL rt d pc lv (.int y0 :: .int x0 :: st) S Q := by
  intro p l e R s m args below meth c C H locs cells slots ls QQ hP hS hl hc fin
  exact va_mmin C.1 C.2.1 (by rw [C.2.2.1, hl.1]) C.2.2.2.2.2.1 (C.2.2.2.2.2.2.1 _ hw) (C.2.2.2.2.2.2.1 _ hw2.1) (C.2.2.2.2.2.2.1 _ hw2.2.1) (C.2.2.2.2.2.2.1 _ hw2.2.2) (Nat.le_trans hd0 C.2.2.2.2.2.2.2.1) (by have := C.2.2.2.2.2.2.2.2.1; omega) hc.1 hc.2 hd (k p l e R s m args below meth c C H locs cells slots ls QQ hP hS hl hc fin)
/-- arraycopy of n ints from the row a0 to the row a, both from 0 on -/
theorem x_copy {a a0 n1 n0 i : Nat} {n : Int32} (hsh0 : B.2.1[a0]? = some (.inl (0, n0))) (hsh : B.2.1[a]? = some (.inl (0, n1))) (hw : Cond.methodLink y.cls i arraycopyName ∈ sT) (hw2 : Cond.native arraycopyName ∈ sT ∧ Cond.static arraycopyName ∈ sT ∧ Cond.initialized "java/lang/System" ∈ sT) (hn : ¬ n < 0) (h0 : n.toNatClampNeg ≤ n0) (h1 : n.toNatClampNeg ≤ n1) (hd0 : 1 ≤ d) (hst : st = []) (hd : decode cc pc = .ok (.invokestatic i, 3)) (k : WS B E y cc mL rt d (pc + 3) lv st (s_cp S a (va_cpy (S a0) (S a) 0 0 n.toNatClampNeg)) Q) : WS B E y cc mL rt d pc lv (.int n :: .int 0 :: .ref (s_ad B a) :: .int 0 :: .ref (s_ad B a0) :: st) S Q := by
  intro p l e R s m args below meth c C H locs cells slots ls QQ hP hS hl hc fin
  subst hst
  refine va_copyi C.1 C.2.1 (by rw [C.2.2.1, hl.1]) C.2.2.2.2.2.1 (C.2.2.2.2.2.2.1 _ hw) (C.2.2.2.2.2.2.1 _ hw2.1) (C.2.2.2.2.2.2.1 _ hw2.2.1) (C.2.2.2.2.2.2.1 _ hw2.2.2) C.2.2.2.2.2.2.2.2.2.1.1 hP (s_w_D C.2.2.2.2.2.2.2.2.2.2.1 S) hS a0 a 0 0 (s_w_get hsh0) (s_w_get hsh) rfl rfl rfl (by decide) (by decide) hn (by show 0 + _ ≤ _; omega) (by show 0 + _ ≤ _; omega) (fun _ _ => rfl) (Nat.le_trans hd0 C.2.2.2.2.2.2.2.1) ?_ hd (fun H locs hP hD hS => ?_)
  · refine Nat.le_trans ?_ (Nat.le_trans (Nat.mul_le_mul_left 100 hd0) C.2.2.2.2.2.2.2.2.1)
    decide +kernel
  · refine k p l e R s m args below meth c C H locs cells slots ls QQ ?_ hS hl hc fin
    rw [← s_w_set hsh (s_cp_o S a _), s_cp_k]
    exact hP
end XR
