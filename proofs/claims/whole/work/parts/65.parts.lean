/-! CONSTRUCTORS of the parts (wip/whole/w65.py) -/

theorem dfX0 : ∀ j, j < 9 → defaultValue (tyX0 j) = vp_V [.null, .int 0, .int 0, .int 0, .null, .null, .null, .null, .null] j := by
  intro j hj
  iterate 9 (rcases j with _ | j; · rfl)
  omega

theorem mX0_init : sM yX0_init cX0_init 2 none 1 := ⟨(sT_1 93 rfl rfl), (sT_1 4 rfl rfl), by decide +kernel, by decide +kernel, by decide⟩

theorem vX0_init : Cond.instanceMethod yX0_init ∈ sT := (sT_1 92 rfl rfl)

theorem dfX1 : ∀ j, j < 3 → defaultValue (tyX1 j) = vp_V [.null, .int 0, .int 0] j := by
  intro j hj
  iterate 3 (rcases j with _ | j; · rfl)
  omega

theorem mX1_init : sM yX1_init cX1_init 3 none 1 := ⟨(sT_1 136 rfl rfl), (sT_1 5 rfl rfl), by decide +kernel, by decide +kernel, by decide⟩

theorem vX1_init : Cond.instanceMethod yX1_init ∈ sT := (sT_1 135 rfl rfl)

theorem dfX2 : ∀ j, j < 8 → defaultValue (tyX2 j) = vp_V [.int 0, .int 0, .int 0, .int 0, .int 0, .null, .null, .null] j := by
  intro j hj
  iterate 8 (rcases j with _ | j; · rfl)
  omega

theorem mX2_init : sM yX2_init cX2_init 1 none 0 := ⟨(sT_1 48 rfl rfl), (sT_1 3 rfl rfl), by decide +kernel, by decide +kernel, by decide⟩

theorem vX2_init : Cond.instanceMethod yX2_init ∈ sT := (sT_1 47 rfl rfl)

theorem dfX3 : ∀ j, j < 6 → defaultValue (tyX3 j) = vp_V [.null, .null, .int 0, .int 0, .null, .int 0] j := by
  intro j hj
  iterate 6 (rcases j with _ | j; · rfl)
  omega

theorem mX3_init : sM yX3_init cX3_init 1 none 0 := ⟨(sT_1 179 rfl rfl), (sT_1 7 rfl rfl), by decide +kernel, by decide +kernel, by decide⟩

theorem vX3_init : Cond.instanceMethod yX3_init ∈ sT := (sT_1 178 rfl rfl)

theorem dfX4 : ∀ j, j < 5 → defaultValue (tyX4 j) = vp_V [.null, .null, .null, .null, .int 0] j := by
  intro j hj
  iterate 5 (rcases j with _ | j; · rfl)
  omega

theorem mX4_init : sM yX4_init cX4_init 1 none 0 := ⟨(sT_1 156 rfl rfl), (sT_1 6 rfl rfl), by decide +kernel, by decide +kernel, by decide⟩

theorem vX4_init : Cond.instanceMethod yX4_init ∈ sT := (sT_1 155 rfl rfl)

theorem dfX5 : ∀ j, j < 4 → defaultValue (tyX5 j) = vp_V [.null, .null, .int 0, .int 0] j := by
  intro j hj
  iterate 4 (rcases j with _ | j; · rfl)
  omega

theorem mX5_init : sM yX5_init cX5_init 1 none 0 := ⟨(sT_1 27 rfl rfl), (sT_1 2 rfl rfl), by decide +kernel, by decide +kernel, by decide⟩

theorem vX5_init : Cond.instanceMethod yX5_init ∈ sT := (sT_1 26 rfl rfl)

theorem dfX6 : ∀ j, j < 11 → defaultValue (tyX6 j) = vp_V [.null, .null, .null, .null, .null, .null, .null, .null, .int 0, .null, .null] j := by
  intro j hj
  iterate 11 (rcases j with _ | j; · rfl)
  omega

theorem mX6_init : sM yX6_init cX6_init 2 none 0 := ⟨(sT_1 19 rfl rfl), (sT_1 1 rfl rfl), by decide +kernel, by decide +kernel, by decide⟩

theorem vX6_init : Cond.instanceMethod yX6_init ∈ sT := (sT_1 18 rfl rfl)

theorem dfX7 : ∀ j, j < 26 → defaultValue (tyX7 j) = vp_V [.null, .int 0, .null, .null, .null, .null, .null, .null, .null, .null, .int 0, .int 0, .null, .null, .null, .null, .int 0, .null, .int 0, .null, .null, .null, .null, .null, .null, .int 0] j := by
  intro j hj
  iterate 26 (rcases j with _ | j; · rfl)
  omega

theorem mX7_init : sM yX7_init cX7_init 1 none 0 := ⟨(sT_3 162 rfl rfl), (sT_1 13 rfl rfl), by decide +kernel, by decide +kernel, by decide⟩

theorem vX7_init : Cond.instanceMethod yX7_init ∈ sT := (sT_3 161 rfl rfl)

section DN
variable {B : sB} {E : State → Prop} {y : MethodName} {cc : ByteArray} {mL d cm sm pc : Nat} {lv : List (Nat × Value)} {st : List Value} {cu su : Nat} {ws : va_W} {Q : va_W → Prop}

theorem d_newI {n : Nat} {z : Int32} (hz : ¬ z < 0) (hz2 : z.toNatClampNeg = n) (hby : n * componentBytes .int ≤ 536870912) (hcu : cu + 1 ≤ cm) (hsu : su + n ≤ sm) (hd : decode cc pc = .ok (.newarray .int, 2))
    (k : ∀ q, DS B E y cc mL d cm sm (pc + 2) lv (.ref q :: st) (cu + 1) (su + n) (ws ++ [(q, .inl (B.1.2.2 0, n, .inl (fun _ => 0)))]) Q) : DS B E y cc mL d cm sm pc lv (.int z :: st) cu su ws Q :=
  d_newa (ty := .int) (t := 0) rfl (fun _ => rfl) (fun _ _ => rfl) (sT_1 43 rfl rfl) (fun _ => rfl) hz hz2 hby hcu hsu hd k

theorem d_newC {n : Nat} {z : Int32} (hz : ¬ z < 0) (hz2 : z.toNatClampNeg = n) (hby : n * componentBytes .char ≤ 536870912) (hcu : cu + 1 ≤ cm) (hsu : su + n ≤ sm) (hd : decode cc pc = .ok (.newarray .char, 2))
    (k : ∀ q, DS B E y cc mL d cm sm (pc + 2) lv (.ref q :: st) (cu + 1) (su + n) (ws ++ [(q, .inl (B.1.2.2 1, n, .inl (fun _ => 0)))]) Q) : DS B E y cc mL d cm sm pc lv (.int z :: st) cu su ws Q :=
  d_newa (ty := .char) (t := 1) rfl (fun _ => rfl) (fun _ _ => rfl) (sT_1 42 rfl rfl) (fun _ => rfl) hz hz2 hby hcu hsu hd k

theorem d_newB {n : Nat} {z : Int32} (hz : ¬ z < 0) (hz2 : z.toNatClampNeg = n) (hby : n * componentBytes .byte ≤ 536870912) (hcu : cu + 1 ≤ cm) (hsu : su + n ≤ sm) (hd : decode cc pc = .ok (.newarray .byte, 2))
    (k : ∀ q, DS B E y cc mL d cm sm (pc + 2) lv (.ref q :: st) (cu + 1) (su + n) (ws ++ [(q, .inl (B.1.2.2 2, n, .inl (fun _ => 0)))]) Q) : DS B E y cc mL d cm sm pc lv (.int z :: st) cu su ws Q :=
  d_newa (ty := .byte) (t := 2) rfl (fun _ => rfl) (fun _ _ => rfl) (sT_2 123 rfl rfl) (fun _ => rfl) hz hz2 hby hcu hsu hd k

end DN

def blk5 (B : sB) (h q1 q2 : Nat) : va_W := (h, .inr (5, [.ref q1, .ref q2, .int 0, .int 0])) :: [(q1, .inl (B.1.2.2 1, 200, .inl (fun _ => 0))), (q2, .inl (B.1.2.2 0, 3, .inl (fun _ => 0)))]

set_option maxHeartbeats 1000000 in
set_option maxRecDepth 20000 in
theorem ct_X5 {B : sB} (X : va_W) (h : Nat) : DS B (fun _ => True) yX5_init cX5_init 1 2 2 203 0 (lv_args 0 [.ref h]) [] 0 0 (X ++ [(h, .inr (5, [.null, .null, .int 0, .int 0]))]) (fun w => ∃ q1 q2 : Nat, w = X ++ blk5 B h q1 q2) := by
  refine d_aload_n dX5_init_0 rfl rfl ?_
  refine d_obj (sT_1 28 rfl rfl) (by decide) dX5_init_1 ?_
  refine d_aload_n dX5_init_4 rfl rfl ?_
  refine d_sipush (v := 200) dX5_init_5 (by decide) ?_
  refine d_newC (n := 200) (by decide) (by decide) (by decide) (by decide) (by decide) dX5_init_8 (fun q1 => ?_)
  refine d_eq (ws' := (X ++ (h, .inr (5, [.null, .null, .int 0, .int 0])) :: [(q1, .inl (B.1.2.2 1, 200, .inl (fun _ => 0)))])) (by rw [List.append_assoc]; rfl) ?_
  refine d_putF (X := X) (j := 0) rfl iX5 tyX5_ok nmX5 (by decide) (sT_1 29 rfl rfl) rfl rfl (tyX5_ok 0 (by decide)) rfl rfl (Nat.le_of_ble_eq_true rfl) dX5_init_10 ?_
  refine d_eq (ws' := (X ++ (h, .inr (5, [.ref q1, .null, .int 0, .int 0])) :: [(q1, .inl (B.1.2.2 1, 200, .inl (fun _ => 0)))])) rfl ?_
  refine d_aload_n dX5_init_13 rfl rfl ?_
  refine d_iconst (v := 3) dX5_init_14 (by decide) ?_
  refine d_newI (n := 3) (by decide) (by decide) (by decide) (by decide) (by decide) dX5_init_15 (fun q2 => ?_)
  refine d_eq (ws' := (X ++ (h, .inr (5, [.ref q1, .null, .int 0, .int 0])) :: [(q1, .inl (B.1.2.2 1, 200, .inl (fun _ => 0))), (q2, .inl (B.1.2.2 0, 3, .inl (fun _ => 0)))])) (by rw [List.append_assoc]; rfl) ?_
  refine d_putF (X := X) (j := 1) rfl iX5 tyX5_ok nmX5 (by decide) (sT_1 30 rfl rfl) rfl rfl (tyX5_ok 1 (by decide)) rfl rfl (Nat.le_of_ble_eq_true rfl) dX5_init_17 ?_
  refine d_eq (ws' := (X ++ (h, .inr (5, [.ref q1, .ref q2, .int 0, .int 0])) :: [(q1, .inl (B.1.2.2 1, 200, .inl (fun _ => 0))), (q2, .inl (B.1.2.2 0, 3, .inl (fun _ => 0)))])) rfl ?_
  exact d_return dX5_init_20 ⟨q1, q2, rfl⟩

def blk2 (B : sB) (h q1 q2 q3 : Nat) : va_W := (h, .inr (2, [.int 0, .int 0, .int 0, .int 0, .int 0, .ref q1, .ref q2, .ref q3])) :: [(q1, .inl (B.1.2.2 0, 9, .inl (fun _ => 0))), (q2, .inl (B.1.2.2 0, 9, .inl (fun _ => 0))), (q3, .inl (B.1.2.2 0, 9, .inl (fun _ => 0)))]

set_option maxHeartbeats 1000000 in
set_option maxRecDepth 20000 in
theorem ct_X2 {B : sB} (X : va_W) (h : Nat) : DS B (fun _ => True) yX2_init cX2_init 1 2 3 27 0 (lv_args 0 [.ref h]) [] 0 0 (X ++ [(h, .inr (2, [.int 0, .int 0, .int 0, .int 0, .int 0, .null, .null, .null]))]) (fun w => ∃ q1 q2 q3 : Nat, w = X ++ blk2 B h q1 q2 q3) := by
  refine d_aload_n dX2_init_0 rfl rfl ?_
  refine d_obj (sT_1 49 rfl rfl) (by decide) dX2_init_1 ?_
  refine d_aload_n dX2_init_4 rfl rfl ?_
  refine d_bipush (v := 9) dX2_init_5 (by decide) ?_
  refine d_newI (n := 9) (by decide) (by decide) (by decide) (by decide) (by decide) dX2_init_7 (fun q1 => ?_)
  refine d_eq (ws' := (X ++ (h, .inr (2, [.int 0, .int 0, .int 0, .int 0, .int 0, .null, .null, .null])) :: [(q1, .inl (B.1.2.2 0, 9, .inl (fun _ => 0)))])) (by rw [List.append_assoc]; rfl) ?_
  refine d_putF (X := X) (j := 5) rfl iX2 tyX2_ok nmX2 (by decide) (sT_1 63 rfl rfl) rfl rfl (tyX2_ok 5 (by decide)) rfl rfl (Nat.le_of_ble_eq_true rfl) dX2_init_9 ?_
  refine d_eq (ws' := (X ++ (h, .inr (2, [.int 0, .int 0, .int 0, .int 0, .int 0, .ref q1, .null, .null])) :: [(q1, .inl (B.1.2.2 0, 9, .inl (fun _ => 0)))])) rfl ?_
  refine d_aload_n dX2_init_12 rfl rfl ?_
  refine d_bipush (v := 9) dX2_init_13 (by decide) ?_
  refine d_newI (n := 9) (by decide) (by decide) (by decide) (by decide) (by decide) dX2_init_15 (fun q2 => ?_)
  refine d_eq (ws' := (X ++ (h, .inr (2, [.int 0, .int 0, .int 0, .int 0, .int 0, .ref q1, .null, .null])) :: [(q1, .inl (B.1.2.2 0, 9, .inl (fun _ => 0))), (q2, .inl (B.1.2.2 0, 9, .inl (fun _ => 0)))])) (by rw [List.append_assoc]; rfl) ?_
  refine d_putF (X := X) (j := 6) rfl iX2 tyX2_ok nmX2 (by decide) (sT_1 66 rfl rfl) rfl rfl (tyX2_ok 6 (by decide)) rfl rfl (Nat.le_of_ble_eq_true rfl) dX2_init_17 ?_
  refine d_eq (ws' := (X ++ (h, .inr (2, [.int 0, .int 0, .int 0, .int 0, .int 0, .ref q1, .ref q2, .null])) :: [(q1, .inl (B.1.2.2 0, 9, .inl (fun _ => 0))), (q2, .inl (B.1.2.2 0, 9, .inl (fun _ => 0)))])) rfl ?_
  refine d_aload_n dX2_init_20 rfl rfl ?_
  refine d_bipush (v := 9) dX2_init_21 (by decide) ?_
  refine d_newI (n := 9) (by decide) (by decide) (by decide) (by decide) (by decide) dX2_init_23 (fun q3 => ?_)
  refine d_eq (ws' := (X ++ (h, .inr (2, [.int 0, .int 0, .int 0, .int 0, .int 0, .ref q1, .ref q2, .null])) :: [(q1, .inl (B.1.2.2 0, 9, .inl (fun _ => 0))), (q2, .inl (B.1.2.2 0, 9, .inl (fun _ => 0))), (q3, .inl (B.1.2.2 0, 9, .inl (fun _ => 0)))])) (by rw [List.append_assoc]; rfl) ?_
  refine d_putF (X := X) (j := 7) rfl iX2 tyX2_ok nmX2 (by decide) (sT_1 69 rfl rfl) rfl rfl (tyX2_ok 7 (by decide)) rfl rfl (Nat.le_of_ble_eq_true rfl) dX2_init_25 ?_
  refine d_eq (ws' := (X ++ (h, .inr (2, [.int 0, .int 0, .int 0, .int 0, .int 0, .ref q1, .ref q2, .ref q3])) :: [(q1, .inl (B.1.2.2 0, 9, .inl (fun _ => 0))), (q2, .inl (B.1.2.2 0, 9, .inl (fun _ => 0))), (q3, .inl (B.1.2.2 0, 9, .inl (fun _ => 0)))])) rfl ?_
  exact d_return dX2_init_28 ⟨q1, q2, q3, rfl⟩

def blk4 (B : sB) (h q1 q2 q3 q4 : Nat) : va_W := (h, .inr (4, [.ref q1, .ref q2, .ref q3, .ref q4, .int 0])) :: [(q1, .inl (B.1.2.2 0, 6, .inl (fun _ => 0))), (q2, .inl (B.1.2.2 0, 6, .inl (fun _ => 0))), (q3, .inl (B.1.2.2 0, 6, .inl (fun _ => 0))), (q4, .inl (B.1.2.2 0, 6, .inl (fun _ => 0)))]

set_option maxHeartbeats 1000000 in
set_option maxRecDepth 20000 in
theorem ct_X4 {B : sB} (X : va_W) (h : Nat) : DS B (fun _ => True) yX4_init cX4_init 1 2 4 24 0 (lv_args 0 [.ref h]) [] 0 0 (X ++ [(h, .inr (4, [.null, .null, .null, .null, .int 0]))]) (fun w => ∃ q1 q2 q3 q4 : Nat, w = X ++ blk4 B h q1 q2 q3 q4) := by
  refine d_aload_n dX4_init_0 rfl rfl ?_
  refine d_obj (sT_1 157 rfl rfl) (by decide) dX4_init_1 ?_
  refine d_aload_n dX4_init_4 rfl rfl ?_
  refine d_bipush (v := 6) dX4_init_5 (by decide) ?_
  refine d_newI (n := 6) (by decide) (by decide) (by decide) (by decide) (by decide) dX4_init_7 (fun q1 => ?_)
  refine d_eq (ws' := (X ++ (h, .inr (4, [.null, .null, .null, .null, .int 0])) :: [(q1, .inl (B.1.2.2 0, 6, .inl (fun _ => 0)))])) (by rw [List.append_assoc]; rfl) ?_
  refine d_putF (X := X) (j := 0) rfl iX4 tyX4_ok nmX4 (by decide) (sT_1 158 rfl rfl) rfl rfl (tyX4_ok 0 (by decide)) rfl rfl (Nat.le_of_ble_eq_true rfl) dX4_init_9 ?_
  refine d_eq (ws' := (X ++ (h, .inr (4, [.ref q1, .null, .null, .null, .int 0])) :: [(q1, .inl (B.1.2.2 0, 6, .inl (fun _ => 0)))])) rfl ?_
  refine d_aload_n dX4_init_12 rfl rfl ?_
  refine d_bipush (v := 6) dX4_init_13 (by decide) ?_
  refine d_newI (n := 6) (by decide) (by decide) (by decide) (by decide) (by decide) dX4_init_15 (fun q2 => ?_)
  refine d_eq (ws' := (X ++ (h, .inr (4, [.ref q1, .null, .null, .null, .int 0])) :: [(q1, .inl (B.1.2.2 0, 6, .inl (fun _ => 0))), (q2, .inl (B.1.2.2 0, 6, .inl (fun _ => 0)))])) (by rw [List.append_assoc]; rfl) ?_
  refine d_putF (X := X) (j := 1) rfl iX4 tyX4_ok nmX4 (by decide) (sT_1 159 rfl rfl) rfl rfl (tyX4_ok 1 (by decide)) rfl rfl (Nat.le_of_ble_eq_true rfl) dX4_init_17 ?_
  refine d_eq (ws' := (X ++ (h, .inr (4, [.ref q1, .ref q2, .null, .null, .int 0])) :: [(q1, .inl (B.1.2.2 0, 6, .inl (fun _ => 0))), (q2, .inl (B.1.2.2 0, 6, .inl (fun _ => 0)))])) rfl ?_
  refine d_aload_n dX4_init_20 rfl rfl ?_
  refine d_bipush (v := 6) dX4_init_21 (by decide) ?_
  refine d_newI (n := 6) (by decide) (by decide) (by decide) (by decide) (by decide) dX4_init_23 (fun q3 => ?_)
  refine d_eq (ws' := (X ++ (h, .inr (4, [.ref q1, .ref q2, .null, .null, .int 0])) :: [(q1, .inl (B.1.2.2 0, 6, .inl (fun _ => 0))), (q2, .inl (B.1.2.2 0, 6, .inl (fun _ => 0))), (q3, .inl (B.1.2.2 0, 6, .inl (fun _ => 0)))])) (by rw [List.append_assoc]; rfl) ?_
  refine d_putF (X := X) (j := 2) rfl iX4 tyX4_ok nmX4 (by decide) (sT_1 160 rfl rfl) rfl rfl (tyX4_ok 2 (by decide)) rfl rfl (Nat.le_of_ble_eq_true rfl) dX4_init_25 ?_
  refine d_eq (ws' := (X ++ (h, .inr (4, [.ref q1, .ref q2, .ref q3, .null, .int 0])) :: [(q1, .inl (B.1.2.2 0, 6, .inl (fun _ => 0))), (q2, .inl (B.1.2.2 0, 6, .inl (fun _ => 0))), (q3, .inl (B.1.2.2 0, 6, .inl (fun _ => 0)))])) rfl ?_
  refine d_aload_n dX4_init_28 rfl rfl ?_
  refine d_bipush (v := 6) dX4_init_29 (by decide) ?_
  refine d_newI (n := 6) (by decide) (by decide) (by decide) (by decide) (by decide) dX4_init_31 (fun q4 => ?_)
  refine d_eq (ws' := (X ++ (h, .inr (4, [.ref q1, .ref q2, .ref q3, .null, .int 0])) :: [(q1, .inl (B.1.2.2 0, 6, .inl (fun _ => 0))), (q2, .inl (B.1.2.2 0, 6, .inl (fun _ => 0))), (q3, .inl (B.1.2.2 0, 6, .inl (fun _ => 0))), (q4, .inl (B.1.2.2 0, 6, .inl (fun _ => 0)))])) (by rw [List.append_assoc]; rfl) ?_
  refine d_putF (X := X) (j := 3) rfl iX4 tyX4_ok nmX4 (by decide) (sT_1 161 rfl rfl) rfl rfl (tyX4_ok 3 (by decide)) rfl rfl (Nat.le_of_ble_eq_true rfl) dX4_init_33 ?_
  refine d_eq (ws' := (X ++ (h, .inr (4, [.ref q1, .ref q2, .ref q3, .ref q4, .int 0])) :: [(q1, .inl (B.1.2.2 0, 6, .inl (fun _ => 0))), (q2, .inl (B.1.2.2 0, 6, .inl (fun _ => 0))), (q3, .inl (B.1.2.2 0, 6, .inl (fun _ => 0))), (q4, .inl (B.1.2.2 0, 6, .inl (fun _ => 0)))])) rfl ?_
  exact d_return dX4_init_36 ⟨q1, q2, q3, q4, rfl⟩

def blk3 (B : sB) (h q1 q2 q3 : Nat) : va_W := (h, .inr (3, [.ref q1, .ref q2, .int 0, .int 0, .ref q3, .int 0])) :: [(q1, .inl (B.1.2.2 0, 9, .inl (fun _ => 0))), (q2, .inl (B.1.2.2 0, 9, .inl (fun _ => 0))), (q3, .inl (B.1.2.2 0, 9, .inl (fun _ => 0)))]

set_option maxHeartbeats 1000000 in
set_option maxRecDepth 20000 in
theorem ct_X3 {B : sB} (X : va_W) (h : Nat) : DS B (fun _ => True) yX3_init cX3_init 1 2 3 27 0 (lv_args 0 [.ref h]) [] 0 0 (X ++ [(h, .inr (3, [.null, .null, .int 0, .int 0, .null, .int 0]))]) (fun w => ∃ q1 q2 q3 : Nat, w = X ++ blk3 B h q1 q2 q3) := by
  refine d_aload_n dX3_init_0 rfl rfl ?_
  refine d_obj (sT_1 180 rfl rfl) (by decide) dX3_init_1 ?_
  refine d_aload_n dX3_init_4 rfl rfl ?_
  refine d_bipush (v := 9) dX3_init_5 (by decide) ?_
  refine d_newI (n := 9) (by decide) (by decide) (by decide) (by decide) (by decide) dX3_init_7 (fun q1 => ?_)
  refine d_eq (ws' := (X ++ (h, .inr (3, [.null, .null, .int 0, .int 0, .null, .int 0])) :: [(q1, .inl (B.1.2.2 0, 9, .inl (fun _ => 0)))])) (by rw [List.append_assoc]; rfl) ?_
  refine d_putF (X := X) (j := 0) rfl iX3 tyX3_ok nmX3 (by decide) (sT_1 181 rfl rfl) rfl rfl (tyX3_ok 0 (by decide)) rfl rfl (Nat.le_of_ble_eq_true rfl) dX3_init_9 ?_
  refine d_eq (ws' := (X ++ (h, .inr (3, [.ref q1, .null, .int 0, .int 0, .null, .int 0])) :: [(q1, .inl (B.1.2.2 0, 9, .inl (fun _ => 0)))])) rfl ?_
  refine d_aload_n dX3_init_12 rfl rfl ?_
  refine d_bipush (v := 9) dX3_init_13 (by decide) ?_
  refine d_newI (n := 9) (by decide) (by decide) (by decide) (by decide) (by decide) dX3_init_15 (fun q2 => ?_)
  refine d_eq (ws' := (X ++ (h, .inr (3, [.ref q1, .null, .int 0, .int 0, .null, .int 0])) :: [(q1, .inl (B.1.2.2 0, 9, .inl (fun _ => 0))), (q2, .inl (B.1.2.2 0, 9, .inl (fun _ => 0)))])) (by rw [List.append_assoc]; rfl) ?_
  refine d_putF (X := X) (j := 1) rfl iX3 tyX3_ok nmX3 (by decide) (sT_1 182 rfl rfl) rfl rfl (tyX3_ok 1 (by decide)) rfl rfl (Nat.le_of_ble_eq_true rfl) dX3_init_17 ?_
  refine d_eq (ws' := (X ++ (h, .inr (3, [.ref q1, .ref q2, .int 0, .int 0, .null, .int 0])) :: [(q1, .inl (B.1.2.2 0, 9, .inl (fun _ => 0))), (q2, .inl (B.1.2.2 0, 9, .inl (fun _ => 0)))])) rfl ?_
  refine d_aload_n dX3_init_20 rfl rfl ?_
  refine d_bipush (v := 9) dX3_init_21 (by decide) ?_
  refine d_newI (n := 9) (by decide) (by decide) (by decide) (by decide) (by decide) dX3_init_23 (fun q3 => ?_)
  refine d_eq (ws' := (X ++ (h, .inr (3, [.ref q1, .ref q2, .int 0, .int 0, .null, .int 0])) :: [(q1, .inl (B.1.2.2 0, 9, .inl (fun _ => 0))), (q2, .inl (B.1.2.2 0, 9, .inl (fun _ => 0))), (q3, .inl (B.1.2.2 0, 9, .inl (fun _ => 0)))])) (by rw [List.append_assoc]; rfl) ?_
  refine d_putF (X := X) (j := 4) rfl iX3 tyX3_ok nmX3 (by decide) (sT_1 185 rfl rfl) rfl rfl (tyX3_ok 4 (by decide)) rfl rfl (Nat.le_of_ble_eq_true rfl) dX3_init_25 ?_
  refine d_eq (ws' := (X ++ (h, .inr (3, [.ref q1, .ref q2, .int 0, .int 0, .ref q3, .int 0])) :: [(q1, .inl (B.1.2.2 0, 9, .inl (fun _ => 0))), (q2, .inl (B.1.2.2 0, 9, .inl (fun _ => 0))), (q3, .inl (B.1.2.2 0, 9, .inl (fun _ => 0)))])) rfl ?_
  exact d_return dX3_init_28 ⟨q1, q2, q3, rfl⟩

def blk0 (B : sB) (h pl q1 q2 q3 q4 q5 : Nat) : va_W := (h, .inr (0, [.ref pl, .int 0, .int 0, .int 0, .ref q1, .ref q2, .ref q3, .ref q4, .ref q5])) :: [(q1, .inl (B.1.2.2 0, 9, .inl (fun _ => 0))), (q2, .inl (B.1.2.2 0, 9, .inl (fun _ => 0))), (q3, .inl (B.1.2.2 0, 9, .inl (fun _ => 0))), (q4, .inl (B.1.2.2 0, 9, .inl (fun _ => 0))), (q5, .inl (B.1.2.2 0, 9, .inl (fun _ => 0)))]

set_option maxHeartbeats 1000000 in
set_option maxRecDepth 20000 in
theorem ct_X0 {B : sB} (X : va_W) (h : Nat) (pl : Nat) : DS B (fun _ => True) yX0_init cX0_init 2 2 5 45 0 (lv_args 0 [.ref h, .ref pl]) [] 0 0 (X ++ [(h, .inr (0, [.null, .int 0, .int 0, .int 0, .null, .null, .null, .null, .null]))]) (fun w => ∃ q1 q2 q3 q4 q5 : Nat, w = X ++ blk0 B h pl q1 q2 q3 q4 q5) := by
  refine d_aload_n dX0_init_0 rfl rfl ?_
  refine d_obj (sT_1 94 rfl rfl) (by decide) dX0_init_1 ?_
  refine d_aload_n dX0_init_4 rfl rfl ?_
  refine d_bipush (v := 9) dX0_init_5 (by decide) ?_
  refine d_newI (n := 9) (by decide) (by decide) (by decide) (by decide) (by decide) dX0_init_7 (fun q1 => ?_)
  refine d_eq (ws' := (X ++ (h, .inr (0, [.null, .int 0, .int 0, .int 0, .null, .null, .null, .null, .null])) :: [(q1, .inl (B.1.2.2 0, 9, .inl (fun _ => 0)))])) (by rw [List.append_assoc]; rfl) ?_
  refine d_putF (X := X) (j := 4) rfl iX0 tyX0_ok nmX0 (by decide) (sT_1 103 rfl rfl) rfl rfl (tyX0_ok 4 (by decide)) rfl rfl (Nat.le_of_ble_eq_true rfl) dX0_init_9 ?_
  refine d_eq (ws' := (X ++ (h, .inr (0, [.null, .int 0, .int 0, .int 0, .ref q1, .null, .null, .null, .null])) :: [(q1, .inl (B.1.2.2 0, 9, .inl (fun _ => 0)))])) rfl ?_
  refine d_aload_n dX0_init_12 rfl rfl ?_
  refine d_bipush (v := 9) dX0_init_13 (by decide) ?_
  refine d_newI (n := 9) (by decide) (by decide) (by decide) (by decide) (by decide) dX0_init_15 (fun q2 => ?_)
  refine d_eq (ws' := (X ++ (h, .inr (0, [.null, .int 0, .int 0, .int 0, .ref q1, .null, .null, .null, .null])) :: [(q1, .inl (B.1.2.2 0, 9, .inl (fun _ => 0))), (q2, .inl (B.1.2.2 0, 9, .inl (fun _ => 0)))])) (by rw [List.append_assoc]; rfl) ?_
  refine d_putF (X := X) (j := 5) rfl iX0 tyX0_ok nmX0 (by decide) (sT_1 105 rfl rfl) rfl rfl (tyX0_ok 5 (by decide)) rfl rfl (Nat.le_of_ble_eq_true rfl) dX0_init_17 ?_
  refine d_eq (ws' := (X ++ (h, .inr (0, [.null, .int 0, .int 0, .int 0, .ref q1, .ref q2, .null, .null, .null])) :: [(q1, .inl (B.1.2.2 0, 9, .inl (fun _ => 0))), (q2, .inl (B.1.2.2 0, 9, .inl (fun _ => 0)))])) rfl ?_
  refine d_aload_n dX0_init_20 rfl rfl ?_
  refine d_bipush (v := 9) dX0_init_21 (by decide) ?_
  refine d_newI (n := 9) (by decide) (by decide) (by decide) (by decide) (by decide) dX0_init_23 (fun q3 => ?_)
  refine d_eq (ws' := (X ++ (h, .inr (0, [.null, .int 0, .int 0, .int 0, .ref q1, .ref q2, .null, .null, .null])) :: [(q1, .inl (B.1.2.2 0, 9, .inl (fun _ => 0))), (q2, .inl (B.1.2.2 0, 9, .inl (fun _ => 0))), (q3, .inl (B.1.2.2 0, 9, .inl (fun _ => 0)))])) (by rw [List.append_assoc]; rfl) ?_
  refine d_putF (X := X) (j := 6) rfl iX0 tyX0_ok nmX0 (by decide) (sT_1 107 rfl rfl) rfl rfl (tyX0_ok 6 (by decide)) rfl rfl (Nat.le_of_ble_eq_true rfl) dX0_init_25 ?_
  refine d_eq (ws' := (X ++ (h, .inr (0, [.null, .int 0, .int 0, .int 0, .ref q1, .ref q2, .ref q3, .null, .null])) :: [(q1, .inl (B.1.2.2 0, 9, .inl (fun _ => 0))), (q2, .inl (B.1.2.2 0, 9, .inl (fun _ => 0))), (q3, .inl (B.1.2.2 0, 9, .inl (fun _ => 0)))])) rfl ?_
  refine d_aload_n dX0_init_28 rfl rfl ?_
  refine d_bipush (v := 9) dX0_init_29 (by decide) ?_
  refine d_newI (n := 9) (by decide) (by decide) (by decide) (by decide) (by decide) dX0_init_31 (fun q4 => ?_)
  refine d_eq (ws' := (X ++ (h, .inr (0, [.null, .int 0, .int 0, .int 0, .ref q1, .ref q2, .ref q3, .null, .null])) :: [(q1, .inl (B.1.2.2 0, 9, .inl (fun _ => 0))), (q2, .inl (B.1.2.2 0, 9, .inl (fun _ => 0))), (q3, .inl (B.1.2.2 0, 9, .inl (fun _ => 0))), (q4, .inl (B.1.2.2 0, 9, .inl (fun _ => 0)))])) (by rw [List.append_assoc]; rfl) ?_
  refine d_putF (X := X) (j := 7) rfl iX0 tyX0_ok nmX0 (by decide) (sT_1 109 rfl rfl) rfl rfl (tyX0_ok 7 (by decide)) rfl rfl (Nat.le_of_ble_eq_true rfl) dX0_init_33 ?_
  refine d_eq (ws' := (X ++ (h, .inr (0, [.null, .int 0, .int 0, .int 0, .ref q1, .ref q2, .ref q3, .ref q4, .null])) :: [(q1, .inl (B.1.2.2 0, 9, .inl (fun _ => 0))), (q2, .inl (B.1.2.2 0, 9, .inl (fun _ => 0))), (q3, .inl (B.1.2.2 0, 9, .inl (fun _ => 0))), (q4, .inl (B.1.2.2 0, 9, .inl (fun _ => 0)))])) rfl ?_
  refine d_aload_n dX0_init_36 rfl rfl ?_
  refine d_bipush (v := 9) dX0_init_37 (by decide) ?_
  refine d_newI (n := 9) (by decide) (by decide) (by decide) (by decide) (by decide) dX0_init_39 (fun q5 => ?_)
  refine d_eq (ws' := (X ++ (h, .inr (0, [.null, .int 0, .int 0, .int 0, .ref q1, .ref q2, .ref q3, .ref q4, .null])) :: [(q1, .inl (B.1.2.2 0, 9, .inl (fun _ => 0))), (q2, .inl (B.1.2.2 0, 9, .inl (fun _ => 0))), (q3, .inl (B.1.2.2 0, 9, .inl (fun _ => 0))), (q4, .inl (B.1.2.2 0, 9, .inl (fun _ => 0))), (q5, .inl (B.1.2.2 0, 9, .inl (fun _ => 0)))])) (by rw [List.append_assoc]; rfl) ?_
  refine d_putF (X := X) (j := 8) rfl iX0 tyX0_ok nmX0 (by decide) (sT_1 111 rfl rfl) rfl rfl (tyX0_ok 8 (by decide)) rfl rfl (Nat.le_of_ble_eq_true rfl) dX0_init_41 ?_
  refine d_eq (ws' := (X ++ (h, .inr (0, [.null, .int 0, .int 0, .int 0, .ref q1, .ref q2, .ref q3, .ref q4, .ref q5])) :: [(q1, .inl (B.1.2.2 0, 9, .inl (fun _ => 0))), (q2, .inl (B.1.2.2 0, 9, .inl (fun _ => 0))), (q3, .inl (B.1.2.2 0, 9, .inl (fun _ => 0))), (q4, .inl (B.1.2.2 0, 9, .inl (fun _ => 0))), (q5, .inl (B.1.2.2 0, 9, .inl (fun _ => 0)))])) rfl ?_
  refine d_aload_n dX0_init_44 rfl rfl ?_
  refine d_aload_n dX0_init_45 rfl rfl ?_
  refine d_putF (X := X) (j := 0) rfl iX0 tyX0_ok nmX0 (by decide) (sT_1 95 rfl rfl) rfl rfl (tyX0_ok 0 (by decide)) rfl rfl (Nat.le_of_ble_eq_true rfl) dX0_init_46 ?_
  refine d_eq (ws' := (X ++ (h, .inr (0, [.ref pl, .int 0, .int 0, .int 0, .ref q1, .ref q2, .ref q3, .ref q4, .ref q5])) :: [(q1, .inl (B.1.2.2 0, 9, .inl (fun _ => 0))), (q2, .inl (B.1.2.2 0, 9, .inl (fun _ => 0))), (q3, .inl (B.1.2.2 0, 9, .inl (fun _ => 0))), (q4, .inl (B.1.2.2 0, 9, .inl (fun _ => 0))), (q5, .inl (B.1.2.2 0, 9, .inl (fun _ => 0)))])) rfl ?_
  exact d_return dX0_init_49 ⟨q1, q2, q3, q4, q5, rfl⟩
