/-! CONSTRUCTOR of the past: eight belts -/
abbrev bT : Type := Nat × Nat × Nat × Nat × Nat × Nat
def bW (B : sB) (pl : Nat) (t : bT) : va_W := blk0 B t.1 pl t.2.1 t.2.2.1 t.2.2.2.1 t.2.2.2.2.1 t.2.2.2.2.2
def pfn (l : List bT) : Nat → Option Nat := fun j => (l[j]?).map (fun t => t.1)
def blk1 (B : sB) (h qa pl : Nat) (l : List bT) : va_W := (h, .inr (1, [.ref qa, .int 0, .int 0])) :: (qa, .inl (B.1.2.2 3, 8, .inr (.inr (.inr (.inr (pfn l)))))) :: l.flatMap (bW B pl)
theorem pfn_up {l : List bT} {i : Nat} {t : bT} (h : l.length = i) : va_up (pfn l) i (some t.1) = pfn (l ++ [t]) := by
  funext j
  unfold va_up pfn
  subst h
  by_cases hj : j = l.length
  · subst hj; simp
  · rw [if_neg hj]
    rcases Nat.lt_or_ge j l.length with h | h
    · rw [List.getElem?_append_left h]
    · rw [List.getElem?_eq_none h, List.getElem?_eq_none (by simp; omega)]
theorem d_cs {B : sB} {E : State → Prop} {y : MethodName} {cc : ByteArray} {mL d cm sm pc : Nat} {lv : List (Nat × Value)} {st : List Value} {cu su cu' su' : Nat} {ws : va_W} {Q : va_W → Prop} (h1 : cu = cu') (h2 : su = su') (k : DS B E y cc mL d cm sm pc lv st cu' su' ws Q) : DS B E y cc mL d cm sm pc lv st cu su ws Q := by
  subst h1; subst h2; exact k
set_option maxHeartbeats 1000000 in
theorem lm_past (B : sB) (X : va_W) (h pl qa : Nat) : ∀ (k i : Nat) (l : List bT), i + k = 8 → l.length = i → DS B (fun _ => True) yX1_init cX1_init 3 3 49 440 15 [(2, .int (nI i)), (0, .ref h), (1, .ref pl)] [] (1 + 6 * i) (8 + 54 * i) (X ++ blk1 B h qa pl l) (fun w => ∃ (qa : Nat) (l : List bT), l.length = 8 ∧ w = X ++ blk1 B h qa pl l) := by
  intro k
  induction k with
  | zero =>
    intro i l hi hl
    obtain rfl : i = 8 := by omega
    refine d_iload_n dX1_init_15 rfl rfl ?_
    refine d_bipush (v := 8) dX1_init_16 (by decide) ?_
    refine d_icmp_ge (tgt := 41) dX1_init_18 (by decide) (fun _ => ?_) (fun c => absurd (nI_le (a := 8) (b := 8) (by omega) (by omega)) c)
    exact d_return dX1_init_41 ⟨qa, l, hl, rfl⟩
  | succ k ih =>
    intro i l hi hl
    refine d_iload_n dX1_init_15 rfl rfl ?_
    refine d_bipush (v := 8) dX1_init_16 (by decide) ?_
    refine d_icmp_ge (tgt := 41) dX1_init_18 (by decide) (fun c => absurd c (nI_ge (b := 8) (by omega) (by omega))) (fun _ => ?_)
    refine d_aload_n dX1_init_21 rfl rfl ?_
    refine d_eq (ws' := X ++ (h, .inr (1, [.ref qa, .int 0, .int 0])) :: (qa, .inl (B.1.2.2 3, 8, .inr (.inr (.inr (.inr (pfn l)))))) :: l.flatMap (bW B pl)) rfl ?_
    refine d_get (X := X) (j := 0) rfl iX1 (by decide) (sT_1 141 rfl rfl) rfl dX1_init_22 ?_
    refine d_iload_n dX1_init_25 rfl rfl ?_
    refine d_new (ci := 0) rfl iX0 tyX0_ok (sT_1 138 rfl rfl) (sT_1 90 rfl rfl) (sT_1 4 rfl rfl) dfX0 (by omega) (by omega) dX1_init_26 (fun q => ?_)
    refine d_dup dX1_init_29 rfl ?_
    refine d_aload_n dX1_init_30 rfl rfl ?_
    refine d_callI (i := 17) (n := 1) (av := [.ref pl]) (ct_X0 _ q pl) mX0_init rfl (Nat.le_of_ble_eq_true rfl) rfl (sT_1 140 rfl rfl) vX0_init (by decide) (by omega) (by omega) rfl (Nat.le_of_ble_eq_true rfl) dX1_init_31 (fun w hw => ?_)
    obtain ⟨q1, q2, q3, q4, q5, rfl⟩ := hw
    refine d_eq (ws' := (X ++ [(h, .inr (1, [.ref qa, .int 0, .int 0]))]) ++ (qa, .inl (B.1.2.2 3, 8, .inr (.inr (.inr (.inr (pfn l)))))) :: (l.flatMap (bW B pl) ++ blk0 B q pl q1 q2 q3 q4 q5)) (by simp) ?_
    refine d_aast (by omega) (by decide) dX1_init_34 ?_
    refine d_eq (ws' := X ++ blk1 B h qa pl (l ++ [(q, q1, q2, q3, q4, q5)])) (by rw [pfn_up (t := (q, q1, q2, q3, q4, q5)) hl]; simp [blk1, bW, blk0]) ?_
    refine d_iinc (v := nI (i + 1)) (lv' := [(2, _), (0, _), (1, _)]) dX1_init_35 rfl (nI_1 i) (by decide) rfl ?_
    refine d_goto (tgt := 15) dX1_init_38 (by decide) ?_
    exact d_cs (by omega) (by omega) (ih (i + 1) _ (by omega) (by simp [hl]))
theorem ct_X1 {B : sB} (X : va_W) (h pl : Nat) : DS B (fun _ => True) yX1_init cX1_init 3 3 49 440 0 (lv_args 0 [.ref h, .ref pl]) [] 0 0 (X ++ [(h, .inr (1, [.null, .int 0, .int 0]))]) (fun w => ∃ (qa : Nat) (l : List bT), l.length = 8 ∧ w = X ++ blk1 B h qa pl l) := by
  refine d_aload_n dX1_init_0 rfl rfl ?_
  refine d_obj (sT_1 137 rfl rfl) (by decide) dX1_init_1 ?_
  refine d_aload_n dX1_init_4 rfl rfl ?_
  refine d_bipush (v := 8) dX1_init_5 (by decide) ?_
  refine d_newq (n := 8) (sT_1 138 rfl rfl) (by decide) (by decide) (by decide) (by decide) (by decide) dX1_init_7 (fun qa => ?_)
  refine d_eq (ws' := X ++ (h, .inr (1, [.null, .int 0, .int 0])) :: [(qa, .inl (B.1.2.2 3, 8, .inr (.inr (.inr (.inr (fun _ => none))))))]) (by rw [List.append_assoc]; rfl) ?_
  refine d_putF (X := X) (j := 0) rfl iX1 tyX1_ok nmX1 (by decide) (sT_1 141 rfl rfl) rfl rfl (tyX1_ok 0 (by decide)) rfl rfl (Nat.le_of_ble_eq_true rfl) dX1_init_10 ?_
  refine d_eq (ws' := X ++ blk1 B h qa pl []) rfl ?_
  refine d_iconst (v := 0) dX1_init_13 (by decide) ?_
  refine d_istore_n (lv' := [(2, _), (0, _), (1, _)]) dX1_init_14 rfl (by decide) rfl ?_
  exact lm_past B X h pl qa 8 0 [] (by omega) rfl
