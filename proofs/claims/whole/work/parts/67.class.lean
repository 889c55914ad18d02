/-! CONSTRUCTOR of the class (wip/whole/w67.py) -/

def shpX : List sShp := [.inr (.inl (6, [some 1, some 4, some 8, some 12, some 18, some 24, some 30, some 80, none, some 81, some 86])), .inr (.inl (5, [some 2, some 3, none, none])), .inl (1, 200), .inl (0, 3), .inr (.inl (2, [none, none, none, none, none, some 5, some 6, some 7])), .inl (0, 9), .inl (0, 9), .inl (0, 9), .inr (.inl (2, [none, none, none, none, none, some 9, some 10, some 11])), .inl (0, 9), .inl (0, 9), .inl (0, 9), .inr (.inl (0, [some 8, none, none, none, some 13, some 14, some 15, some 16, some 17])), .inl (0, 9), .inl (0, 9), .inl (0, 9), .inl (0, 9), .inl (0, 9), .inr (.inl (0, [some 8, none, none, none, some 19, some 20, some 21, some 22, some 23])), .inl (0, 9), .inl (0, 9), .inl (0, 9), .inl (0, 9), .inl (0, 9), .inr (.inl (0, [some 8, none, none, none, some 25, some 26, some 27, some 28, some 29])), .inl (0, 9), .inl (0, 9), .inl (0, 9), .inl (0, 9), .inl (0, 9), .inr (.inl (1, [some 31, none, none])), .inr (.inr [32, 38, 44, 50, 56, 62, 68, 74]), .inr (.inl (0, [some 8, none, none, none, some 33, some 34, some 35, some 36, some 37])), .inl (0, 9), .inl (0, 9), .inl (0, 9), .inl (0, 9), .inl (0, 9), .inr (.inl (0, [some 8, none, none, none, some 39, some 40, some 41, some 42, some 43])), .inl (0, 9), .inl (0, 9), .inl (0, 9), .inl (0, 9), .inl (0, 9), .inr (.inl (0, [some 8, none, none, none, some 45, some 46, some 47, some 48, some 49])), .inl (0, 9), .inl (0, 9), .inl (0, 9), .inl (0, 9), .inl (0, 9), .inr (.inl (0, [some 8, none, none, none, some 51, some 52, some 53, some 54, some 55])), .inl (0, 9), .inl (0, 9), .inl (0, 9), .inl (0, 9), .inl (0, 9), .inr (.inl (0, [some 8, none, none, none, some 57, some 58, some 59, some 60, some 61])), .inl (0, 9), .inl (0, 9), .inl (0, 9), .inl (0, 9), .inl (0, 9), .inr (.inl (0, [some 8, none, none, none, some 63, some 64, some 65, some 66, some 67])), .inl (0, 9), .inl (0, 9), .inl (0, 9), .inl (0, 9), .inl (0, 9), .inr (.inl (0, [some 8, none, none, none, some 69, some 70, some 71, some 72, some 73])), .inl (0, 9), .inl (0, 9), .inl (0, 9), .inl (0, 9), .inl (0, 9), .inr (.inl (0, [some 8, none, none, none, some 75, some 76, some 77, some 78, some 79])), .inl (0, 9), .inl (0, 9), .inl (0, 9), .inl (0, 9), .inl (0, 9), .inr (.inr [90, 96]), .inr (.inl (4, [some 82, some 83, some 84, some 85, none])), .inl (0, 6), .inl (0, 6), .inl (0, 6), .inl (0, 6), .inr (.inl (3, [some 87, some 88, none, none, some 89, none])), .inl (0, 9), .inl (0, 9), .inl (0, 9), .inr (.inl (0, [some 8, none, none, none, some 91, some 92, some 93, some 94, some 95])), .inl (0, 9), .inl (0, 9), .inl (0, 9), .inl (0, 9), .inl (0, 9), .inr (.inl (0, [some 8, none, none, none, some 97, some 98, some 99, some 100, some 101])), .inl (0, 9), .inl (0, 9), .inl (0, 9), .inl (0, 9), .inl (0, 9)]

theorem shpX_ok {G : sG} {A : Nat → Prop} {r : List sShp} : shX (G, shpX ++ r, A) := by
  refine ⟨rfl, ⟨rfl, rfl, rfl⟩, ⟨rfl, rfl, rfl, rfl⟩, ⟨rfl, rfl, rfl, rfl⟩, ⟨rfl, rfl, rfl, rfl, rfl, rfl⟩, ⟨rfl, rfl, rfl, rfl, rfl, rfl⟩, ⟨rfl, rfl, rfl, rfl, rfl, rfl⟩, ⟨rfl, rfl, fun i hi => ?_⟩, rfl, ⟨rfl, rfl, rfl, rfl, rfl⟩, ⟨rfl, rfl, rfl, rfl⟩, ⟨rfl, rfl, rfl, rfl, rfl, rfl⟩, ⟨rfl, rfl, rfl, rfl, rfl, rfl⟩⟩
  iterate 8 (rcases i with _ | i; · exact ⟨rfl, rfl, rfl, rfl, rfl, rfl⟩)
  omega

def s_wo (G : sG) (S : sSt) : Nat → List sShp → va_W
  | _, [] => []
  | n, x :: t => (G.2.1 n, s_cell G x (S n)) :: s_wo G S (n + 1) t
theorem s_wo_mi {G : sG} {S : sSt} : ∀ (sh : List sShp) (n : Nat), sh.mapIdx (fun k x => (G.2.1 (k + n), s_cell G x (S (k + n)))) = s_wo G S n sh := by
  intro sh
  induction sh with
  | nil => intro n; rfl
  | cons x t ih =>
    intro n
    rw [List.mapIdx_cons, s_wo, ← ih (n + 1)]
    simp only [Nat.zero_add, Nat.add_assoc, Nat.add_comm 1 n]
theorem s_w_o {B : sB} {S : sSt} : s_w B S = s_wo B.1 S 0 B.2.1 := s_wo_mi (G := B.1) B.2.1 0

def wX (B : sB) (h t0 t1 t2 d0 d1 d2 d3 l0 l1 l2 l3 n0 n1 n2 n3 n4 n5 r0 r1 r2 r3 r4 r5 a0 a1 a2 a3 a4 a5 p0 p1 kq s0 s1 s2 s3 s4 g0 g1 g2 g3 k0 k1 k2 k3 k4 k5 m0 m1 m2 m3 m4 m5 b00 b01 b02 b03 b04 b05 b10 b11 b12 b13 b14 b15 b20 b21 b22 b23 b24 b25 b30 b31 b32 b33 b34 b35 b40 b41 b42 b43 b44 b45 b50 b51 b52 b53 b54 b55 b60 b61 b62 b63 b64 b65 b70 b71 b72 b73 b74 b75 : Nat) : va_W := ((h, .inr (6, [.ref t0, .ref d0, .ref l0, .ref n0, .ref r0, .ref a0, .ref p0, .ref kq, .int 0, .ref s0, .ref g0])) :: (((((((([] ++ blk5 B t0 t1 t2) ++ blk2 B d0 d1 d2 d3) ++ blk2 B l0 l1 l2 l3) ++ blk0 B n0 l0 n1 n2 n3 n4 n5) ++ blk0 B r0 l0 r1 r2 r3 r4 r5) ++ blk0 B a0 l0 a1 a2 a3 a4 a5) ++ blk1 B p0 p1 l0 [(b00, b01, b02, b03, b04, b05), (b10, b11, b12, b13, b14, b15), (b20, b21, b22, b23, b24, b25), (b30, b31, b32, b33, b34, b35), (b40, b41, b42, b43, b44, b45), (b50, b51, b52, b53, b54, b55), (b60, b61, b62, b63, b64, b65), (b70, b71, b72, b73, b74, b75)]) ++ ((kq, .inl (B.1.2.2 3, 2, .inr (.inr (.inr (.inr (va_up (va_up (fun _ => none) 0 (some k0)) 1 (some m0))))))) :: (((blk4 B s0 s1 s2 s3 s4 ++ blk3 B g0 g1 g2 g3) ++ blk0 B k0 l0 k1 k2 k3 k4 k5) ++ blk0 B m0 l0 m1 m2 m3 m4 m5))))

set_option maxHeartbeats 1000000 in
set_option maxRecDepth 20000 in
theorem wX_gen (B : sB) (ad : Nat → Nat) : wX B (ad 0) (ad 1) (ad 2) (ad 3) (ad 4) (ad 5) (ad 6) (ad 7) (ad 8) (ad 9) (ad 10) (ad 11) (ad 12) (ad 13) (ad 14) (ad 15) (ad 16) (ad 17) (ad 18) (ad 19) (ad 20) (ad 21) (ad 22) (ad 23) (ad 24) (ad 25) (ad 26) (ad 27) (ad 28) (ad 29) (ad 30) (ad 31) (ad 80) (ad 81) (ad 82) (ad 83) (ad 84) (ad 85) (ad 86) (ad 87) (ad 88) (ad 89) (ad 90) (ad 91) (ad 92) (ad 93) (ad 94) (ad 95) (ad 96) (ad 97) (ad 98) (ad 99) (ad 100) (ad 101) (ad 32) (ad 33) (ad 34) (ad 35) (ad 36) (ad 37) (ad 38) (ad 39) (ad 40) (ad 41) (ad 42) (ad 43) (ad 44) (ad 45) (ad 46) (ad 47) (ad 48) (ad 49) (ad 50) (ad 51) (ad 52) (ad 53) (ad 54) (ad 55) (ad 56) (ad 57) (ad 58) (ad 59) (ad 60) (ad 61) (ad 62) (ad 63) (ad 64) (ad 65) (ad 66) (ad 67) (ad 68) (ad 69) (ad 70) (ad 71) (ad 72) (ad 73) (ad 74) (ad 75) (ad 76) (ad 77) (ad 78) (ad 79) = s_w ((B.1.1, ad, B.1.2.2), shpX, B.2.2) (fun _ _ => 0) := by
  have e1 : pfn [((ad 32), (ad 33), (ad 34), (ad 35), (ad 36), (ad 37)), ((ad 38), (ad 39), (ad 40), (ad 41), (ad 42), (ad 43)), ((ad 44), (ad 45), (ad 46), (ad 47), (ad 48), (ad 49)), ((ad 50), (ad 51), (ad 52), (ad 53), (ad 54), (ad 55)), ((ad 56), (ad 57), (ad 58), (ad 59), (ad 60), (ad 61)), ((ad 62), (ad 63), (ad 64), (ad 65), (ad 66), (ad 67)), ((ad 68), (ad 69), (ad 70), (ad 71), (ad 72), (ad 73)), ((ad 74), (ad 75), (ad 76), (ad 77), (ad 78), (ad 79))] = (fun j => (([32, 38, 44, 50, 56, 62, 68, 74] : List Nat)[j]?).map ad) := by
    funext j
    iterate 8 (rcases j with _ | j; · rfl)
    rfl
  have e2 : (va_up (va_up (fun _ => none) 0 (some (ad 90))) 1 (some (ad 96))) = (fun j => (([90, 96] : List Nat)[j]?).map ad) := by
    funext j
    iterate 2 (rcases j with _ | j; · rfl)
    rfl
  unfold wX blk1
  rw [e1, e2, s_w_o]
  rfl

set_option maxHeartbeats 1000000 in
set_option maxRecDepth 20000 in
theorem wX_eq (B : sB) (h t0 t1 t2 d0 d1 d2 d3 l0 l1 l2 l3 n0 n1 n2 n3 n4 n5 r0 r1 r2 r3 r4 r5 a0 a1 a2 a3 a4 a5 p0 p1 kq s0 s1 s2 s3 s4 g0 g1 g2 g3 k0 k1 k2 k3 k4 k5 m0 m1 m2 m3 m4 m5 b00 b01 b02 b03 b04 b05 b10 b11 b12 b13 b14 b15 b20 b21 b22 b23 b24 b25 b30 b31 b32 b33 b34 b35 b40 b41 b42 b43 b44 b45 b50 b51 b52 b53 b54 b55 b60 b61 b62 b63 b64 b65 b70 b71 b72 b73 b74 b75 : Nat) : wX B h t0 t1 t2 d0 d1 d2 d3 l0 l1 l2 l3 n0 n1 n2 n3 n4 n5 r0 r1 r2 r3 r4 r5 a0 a1 a2 a3 a4 a5 p0 p1 kq s0 s1 s2 s3 s4 g0 g1 g2 g3 k0 k1 k2 k3 k4 k5 m0 m1 m2 m3 m4 m5 b00 b01 b02 b03 b04 b05 b10 b11 b12 b13 b14 b15 b20 b21 b22 b23 b24 b25 b30 b31 b32 b33 b34 b35 b40 b41 b42 b43 b44 b45 b50 b51 b52 b53 b54 b55 b60 b61 b62 b63 b64 b65 b70 b71 b72 b73 b74 b75 = s_w ((B.1.1, (fun k => [h, t0, t1, t2, d0, d1, d2, d3, l0, l1, l2, l3, n0, n1, n2, n3, n4, n5, r0, r1, r2, r3, r4, r5, a0, a1, a2, a3, a4, a5, p0, p1, b00, b01, b02, b03, b04, b05, b10, b11, b12, b13, b14, b15, b20, b21, b22, b23, b24, b25, b30, b31, b32, b33, b34, b35, b40, b41, b42, b43, b44, b45, b50, b51, b52, b53, b54, b55, b60, b61, b62, b63, b64, b65, b70, b71, b72, b73, b74, b75, kq, s0, s1, s2, s3, s4, g0, g1, g2, g3, k0, k1, k2, k3, k4, k5, m0, m1, m2, m3, m4, m5].getD k 0), B.1.2.2), shpX, B.2.2) (fun _ _ => 0) := by
  exact wX_gen B (fun k => [h, t0, t1, t2, d0, d1, d2, d3, l0, l1, l2, l3, n0, n1, n2, n3, n4, n5, r0, r1, r2, r3, r4, r5, a0, a1, a2, a3, a4, a5, p0, p1, b00, b01, b02, b03, b04, b05, b10, b11, b12, b13, b14, b15, b20, b21, b22, b23, b24, b25, b30, b31, b32, b33, b34, b35, b40, b41, b42, b43, b44, b45, b50, b51, b52, b53, b54, b55, b60, b61, b62, b63, b64, b65, b70, b71, b72, b73, b74, b75, kq, s0, s1, s2, s3, s4, g0, g1, g2, g3, k0, k1, k2, k3, k4, k5, m0, m1, m2, m3, m4, m5].getD k 0)

theorem len8 {l : List bT} (h : l.length = 8) : ∃ b0 b1 b2 b3 b4 b5 b6 b7, l = [b0, b1, b2, b3, b4, b5, b6, b7] := by
  rcases l with _ | ⟨b0, _ | ⟨b1, _ | ⟨b2, _ | ⟨b3, _ | ⟨b4, _ | ⟨b5, _ | ⟨b6, _ | ⟨b7, _ | ⟨b8, l⟩⟩⟩⟩⟩⟩⟩⟩⟩ <;> first | (exact ⟨b0, b1, b2, b3, b4, b5, b6, b7, rfl⟩) | (simp at h)

set_option maxHeartbeats 1000000 in
set_option maxRecDepth 20000 in
theorem ct_X6 {B : sB} {aK aV : Nat} (h : Nat) : DS B (sEz B.2.2 aK aV 67 fB) yX6_init cX6_init 2 8 101 1054 0 (lv_args 0 [.ref h]) [] 0 0 [(h, .inr (6, [.null, .null, .null, .null, .null, .null, .null, .null, .int 0, .null, .null]))] (fun w => ∃ (ad : Nat → Nat) (S : sSt), ad 0 = h ∧ w = s_w ((B.1.1, ad, B.1.2.2), shpX, B.2.2) S ∧ RX S A0) := by
  refine d_eq (ws' := [] ++ (h, .inr (6, [.null, .null, .null, .null, .null, .null, .null, .null, .int 0, .null, .null])) :: []) rfl ?_
  refine d_aload_n dX6_init_0 rfl rfl ?_
  refine d_obj (sT_1 20 rfl rfl) (by decide) dX6_init_1 ?_
  refine d_aload_n dX6_init_4 rfl rfl ?_
  refine d_new (ci := 5) rfl iX5 tyX5_ok (sT_1 23 rfl rfl) (sT_1 24 rfl rfl) (sT_1 2 rfl rfl) dfX5 (by decide) (by decide) dX6_init_5 (fun t0 => ?_)
  refine d_dup dX6_init_8 rfl ?_
  refine d_callIN (host := "ToastBelt") (i := 9) (n := 0) (av := []) (ct_X5 _ t0) mX5_init rfl (Nat.le_of_ble_eq_true rfl) rfl (by decide +kernel) vX5_init (by decide) (by decide) (by decide) rfl (Nat.le_of_ble_eq_true rfl) dX6_init_9 (fun w hw => ?_)
  obtain ⟨t1, t2, rfl⟩ := hw
  refine d_eq (ws' := (([] : va_W) ++ (h, .inr (6, [.null, .null, .null, .null, .null, .null, .null, .null, .int 0, .null, .null])) :: ([] ++ blk5 B t0 t1 t2))) (by rw [List.append_assoc]; rfl) ?_
  refine d_putF (X := []) (j := 0) rfl iX6 tyX6_ok nmX6 (by decide) (sT_2 89 rfl rfl) rfl rfl (tyX6_ok 0 (by decide)) rfl rfl (Nat.le_of_ble_eq_true rfl) dX6_init_12 ?_
  refine d_eq (ws' := (([] : va_W) ++ (h, .inr (6, [.ref t0, .null, .null, .null, .null, .null, .null, .null, .int 0, .null, .null])) :: ([] ++ blk5 B t0 t1 t2))) rfl ?_
  refine d_aload_n dX6_init_15 rfl rfl ?_
  refine d_new (ci := 2) rfl iX2 tyX2_ok (sT_1 44 rfl rfl) (sT_1 45 rfl rfl) (sT_1 3 rfl rfl) dfX2 (by decide) (by decide) dX6_init_16 (fun d0 => ?_)
  refine d_dup dX6_init_19 rfl ?_
  refine d_callIN (host := "ToastBelt") (i := 18) (n := 0) (av := []) (ct_X2 _ d0) mX2_init rfl (Nat.le_of_ble_eq_true rfl) rfl (by decide +kernel) vX2_init (by decide) (by decide) (by decide) rfl (Nat.le_of_ble_eq_true rfl) dX6_init_20 (fun w hw => ?_)
  obtain ⟨d1, d2, d3, rfl⟩ := hw
  refine d_eq (ws' := (([] : va_W) ++ (h, .inr (6, [.ref t0, .null, .null, .null, .null, .null, .null, .null, .int 0, .null, .null])) :: (([] ++ blk5 B t0 t1 t2) ++ blk2 B d0 d1 d2 d3))) (by rw [List.append_assoc]; rfl) ?_
  refine d_putF (X := []) (j := 1) rfl iX6 tyX6_ok nmX6 (by decide) (sT_2 90 rfl rfl) rfl rfl (tyX6_ok 1 (by decide)) rfl rfl (Nat.le_of_ble_eq_true rfl) dX6_init_23 ?_
  refine d_eq (ws' := (([] : va_W) ++ (h, .inr (6, [.ref t0, .ref d0, .null, .null, .null, .null, .null, .null, .int 0, .null, .null])) :: (([] ++ blk5 B t0 t1 t2) ++ blk2 B d0 d1 d2 d3))) rfl ?_
  refine d_aload_n dX6_init_26 rfl rfl ?_
  refine d_new (ci := 2) rfl iX2 tyX2_ok (sT_1 44 rfl rfl) (sT_1 45 rfl rfl) (sT_1 3 rfl rfl) dfX2 (by decide) (by decide) dX6_init_27 (fun l0 => ?_)
  refine d_dup dX6_init_30 rfl ?_
  refine d_callIN (host := "ToastBelt") (i := 18) (n := 0) (av := []) (ct_X2 _ l0) mX2_init rfl (Nat.le_of_ble_eq_true rfl) rfl (by decide +kernel) vX2_init (by decide) (by decide) (by decide) rfl (Nat.le_of_ble_eq_true rfl) dX6_init_31 (fun w hw => ?_)
  obtain ⟨l1, l2, l3, rfl⟩ := hw
  refine d_eq (ws' := (([] : va_W) ++ (h, .inr (6, [.ref t0, .ref d0, .null, .null, .null, .null, .null, .null, .int 0, .null, .null])) :: ((([] ++ blk5 B t0 t1 t2) ++ blk2 B d0 d1 d2 d3) ++ blk2 B l0 l1 l2 l3))) (by rw [List.append_assoc]; rfl) ?_
  refine d_putF (X := []) (j := 2) rfl iX6 tyX6_ok nmX6 (by decide) (sT_2 91 rfl rfl) rfl rfl (tyX6_ok 2 (by decide)) rfl rfl (Nat.le_of_ble_eq_true rfl) dX6_init_34 ?_
  refine d_eq (ws' := (([] : va_W) ++ (h, .inr (6, [.ref t0, .ref d0, .ref l0, .null, .null, .null, .null, .null, .int 0, .null, .null])) :: ((([] ++ blk5 B t0 t1 t2) ++ blk2 B d0 d1 d2 d3) ++ blk2 B l0 l1 l2 l3))) rfl ?_
  refine d_aload_n dX6_init_37 rfl rfl ?_
  refine d_new (ci := 0) rfl iX0 tyX0_ok (sT_1 89 rfl rfl) (sT_1 90 rfl rfl) (sT_1 4 rfl rfl) dfX0 (by decide) (by decide) dX6_init_38 (fun n0 => ?_)
  refine d_dup dX6_init_41 rfl ?_
  refine d_aload_n dX6_init_42 rfl rfl ?_
  refine d_eq (ws' := ([] : va_W) ++ (h, .inr (6, [.ref t0, .ref d0, .ref l0, .null, .null, .null, .null, .null, .int 0, .null, .null])) :: (((([] ++ blk5 B t0 t1 t2) ++ blk2 B d0 d1 d2 d3) ++ blk2 B l0 l1 l2 l3) ++ [(n0, .inr (0, [.null, .int 0, .int 0, .int 0, .null, .null, .null, .null, .null]))])) (by rw [List.append_assoc]; rfl) ?_
  refine d_get (X := []) (j := 2) rfl iX6 (by decide) (sT_2 91 rfl rfl) rfl dX6_init_43 ?_
  refine d_eq (ws' := (([] : va_W) ++ (h, .inr (6, [.ref t0, .ref d0, .ref l0, .null, .null, .null, .null, .null, .int 0, .null, .null])) :: ((([] ++ blk5 B t0 t1 t2) ++ blk2 B d0 d1 d2 d3) ++ blk2 B l0 l1 l2 l3)) ++ [(n0, .inr (0, [.null, .int 0, .int 0, .int 0, .null, .null, .null, .null, .null]))]) (by simp only [List.append_assoc, List.cons_append, List.nil_append]) ?_
  refine d_callI (i := 28) (n := 1) (av := [.ref l0]) (ct_X0 _ n0 l0) mX0_init rfl (Nat.le_of_ble_eq_true rfl) rfl (sT_1 91 rfl rfl) vX0_init (by decide) (by decide) (by decide) rfl (Nat.le_of_ble_eq_true rfl) dX6_init_46 (fun w hw => ?_)
  obtain ⟨n1, n2, n3, n4, n5, rfl⟩ := hw
  refine d_eq (ws' := (([] : va_W) ++ (h, .inr (6, [.ref t0, .ref d0, .ref l0, .null, .null, .null, .null, .null, .int 0, .null, .null])) :: (((([] ++ blk5 B t0 t1 t2) ++ blk2 B d0 d1 d2 d3) ++ blk2 B l0 l1 l2 l3) ++ blk0 B n0 l0 n1 n2 n3 n4 n5))) (by rw [List.append_assoc]; rfl) ?_
  refine d_putF (X := []) (j := 3) rfl iX6 tyX6_ok nmX6 (by decide) (sT_2 92 rfl rfl) rfl rfl (tyX6_ok 3 (by decide)) rfl rfl (Nat.le_of_ble_eq_true rfl) dX6_init_49 ?_
  refine d_eq (ws' := (([] : va_W) ++ (h, .inr (6, [.ref t0, .ref d0, .ref l0, .ref n0, .null, .null, .null, .null, .int 0, .null, .null])) :: (((([] ++ blk5 B t0 t1 t2) ++ blk2 B d0 d1 d2 d3) ++ blk2 B l0 l1 l2 l3) ++ blk0 B n0 l0 n1 n2 n3 n4 n5))) rfl ?_
  refine d_aload_n dX6_init_52 rfl rfl ?_
  refine d_new (ci := 0) rfl iX0 tyX0_ok (sT_1 89 rfl rfl) (sT_1 90 rfl rfl) (sT_1 4 rfl rfl) dfX0 (by decide) (by decide) dX6_init_53 (fun r0 => ?_)
  refine d_dup dX6_init_56 rfl ?_
  refine d_aload_n dX6_init_57 rfl rfl ?_
  refine d_eq (ws' := ([] : va_W) ++ (h, .inr (6, [.ref t0, .ref d0, .ref l0, .ref n0, .null, .null, .null, .null, .int 0, .null, .null])) :: ((((([] ++ blk5 B t0 t1 t2) ++ blk2 B d0 d1 d2 d3) ++ blk2 B l0 l1 l2 l3) ++ blk0 B n0 l0 n1 n2 n3 n4 n5) ++ [(r0, .inr (0, [.null, .int 0, .int 0, .int 0, .null, .null, .null, .null, .null]))])) (by rw [List.append_assoc]; rfl) ?_
  refine d_get (X := []) (j := 2) rfl iX6 (by decide) (sT_2 91 rfl rfl) rfl dX6_init_58 ?_
  refine d_eq (ws' := (([] : va_W) ++ (h, .inr (6, [.ref t0, .ref d0, .ref l0, .ref n0, .null, .null, .null, .null, .int 0, .null, .null])) :: (((([] ++ blk5 B t0 t1 t2) ++ blk2 B d0 d1 d2 d3) ++ blk2 B l0 l1 l2 l3) ++ blk0 B n0 l0 n1 n2 n3 n4 n5)) ++ [(r0, .inr (0, [.null, .int 0, .int 0, .int 0, .null, .null, .null, .null, .null]))]) (by simp only [List.append_assoc, List.cons_append, List.nil_append]) ?_
  refine d_callI (i := 28) (n := 1) (av := [.ref l0]) (ct_X0 _ r0 l0) mX0_init rfl (Nat.le_of_ble_eq_true rfl) rfl (sT_1 91 rfl rfl) vX0_init (by decide) (by decide) (by decide) rfl (Nat.le_of_ble_eq_true rfl) dX6_init_61 (fun w hw => ?_)
  obtain ⟨r1, r2, r3, r4, r5, rfl⟩ := hw
  refine d_eq (ws' := (([] : va_W) ++ (h, .inr (6, [.ref t0, .ref d0, .ref l0, .ref n0, .null, .null, .null, .null, .int 0, .null, .null])) :: ((((([] ++ blk5 B t0 t1 t2) ++ blk2 B d0 d1 d2 d3) ++ blk2 B l0 l1 l2 l3) ++ blk0 B n0 l0 n1 n2 n3 n4 n5) ++ blk0 B r0 l0 r1 r2 r3 r4 r5))) (by rw [List.append_assoc]; rfl) ?_
  refine d_putF (X := []) (j := 4) rfl iX6 tyX6_ok nmX6 (by decide) (sT_2 93 rfl rfl) rfl rfl (tyX6_ok 4 (by decide)) rfl rfl (Nat.le_of_ble_eq_true rfl) dX6_init_64 ?_
  refine d_eq (ws' := (([] : va_W) ++ (h, .inr (6, [.ref t0, .ref d0, .ref l0, .ref n0, .ref r0, .null, .null, .null, .int 0, .null, .null])) :: ((((([] ++ blk5 B t0 t1 t2) ++ blk2 B d0 d1 d2 d3) ++ blk2 B l0 l1 l2 l3) ++ blk0 B n0 l0 n1 n2 n3 n4 n5) ++ blk0 B r0 l0 r1 r2 r3 r4 r5))) rfl ?_
  refine d_aload_n dX6_init_67 rfl rfl ?_
  refine d_new (ci := 0) rfl iX0 tyX0_ok (sT_1 89 rfl rfl) (sT_1 90 rfl rfl) (sT_1 4 rfl rfl) dfX0 (by decide) (by decide) dX6_init_68 (fun a0 => ?_)
  refine d_dup dX6_init_71 rfl ?_
  refine d_aload_n dX6_init_72 rfl rfl ?_
  refine d_eq (ws' := ([] : va_W) ++ (h, .inr (6, [.ref t0, .ref d0, .ref l0, .ref n0, .ref r0, .null, .null, .null, .int 0, .null, .null])) :: (((((([] ++ blk5 B t0 t1 t2) ++ blk2 B d0 d1 d2 d3) ++ blk2 B l0 l1 l2 l3) ++ blk0 B n0 l0 n1 n2 n3 n4 n5) ++ blk0 B r0 l0 r1 r2 r3 r4 r5) ++ [(a0, .inr (0, [.null, .int 0, .int 0, .int 0, .null, .null, .null, .null, .null]))])) (by rw [List.append_assoc]; rfl) ?_
  refine d_get (X := []) (j := 2) rfl iX6 (by decide) (sT_2 91 rfl rfl) rfl dX6_init_73 ?_
  refine d_eq (ws' := (([] : va_W) ++ (h, .inr (6, [.ref t0, .ref d0, .ref l0, .ref n0, .ref r0, .null, .null, .null, .int 0, .null, .null])) :: ((((([] ++ blk5 B t0 t1 t2) ++ blk2 B d0 d1 d2 d3) ++ blk2 B l0 l1 l2 l3) ++ blk0 B n0 l0 n1 n2 n3 n4 n5) ++ blk0 B r0 l0 r1 r2 r3 r4 r5)) ++ [(a0, .inr (0, [.null, .int 0, .int 0, .int 0, .null, .null, .null, .null, .null]))]) (by simp only [List.append_assoc, List.cons_append, List.nil_append]) ?_
  refine d_callI (i := 28) (n := 1) (av := [.ref l0]) (ct_X0 _ a0 l0) mX0_init rfl (Nat.le_of_ble_eq_true rfl) rfl (sT_1 91 rfl rfl) vX0_init (by decide) (by decide) (by decide) rfl (Nat.le_of_ble_eq_true rfl) dX6_init_76 (fun w hw => ?_)
  obtain ⟨a1, a2, a3, a4, a5, rfl⟩ := hw
  refine d_eq (ws' := (([] : va_W) ++ (h, .inr (6, [.ref t0, .ref d0, .ref l0, .ref n0, .ref r0, .null, .null, .null, .int 0, .null, .null])) :: (((((([] ++ blk5 B t0 t1 t2) ++ blk2 B d0 d1 d2 d3) ++ blk2 B l0 l1 l2 l3) ++ blk0 B n0 l0 n1 n2 n3 n4 n5) ++ blk0 B r0 l0 r1 r2 r3 r4 r5) ++ blk0 B a0 l0 a1 a2 a3 a4 a5))) (by rw [List.append_assoc]; rfl) ?_
  refine d_putF (X := []) (j := 5) rfl iX6 tyX6_ok nmX6 (by decide) (sT_2 94 rfl rfl) rfl rfl (tyX6_ok 5 (by decide)) rfl rfl (Nat.le_of_ble_eq_true rfl) dX6_init_79 ?_
  refine d_eq (ws' := (([] : va_W) ++ (h, .inr (6, [.ref t0, .ref d0, .ref l0, .ref n0, .ref r0, .ref a0, .null, .null, .int 0, .null, .null])) :: (((((([] ++ blk5 B t0 t1 t2) ++ blk2 B d0 d1 d2 d3) ++ blk2 B l0 l1 l2 l3) ++ blk0 B n0 l0 n1 n2 n3 n4 n5) ++ blk0 B r0 l0 r1 r2 r3 r4 r5) ++ blk0 B a0 l0 a1 a2 a3 a4 a5))) rfl ?_
  refine d_aload_n dX6_init_82 rfl rfl ?_
  refine d_new (ci := 1) rfl iX1 tyX1_ok (sT_1 132 rfl rfl) (sT_1 133 rfl rfl) (sT_1 5 rfl rfl) dfX1 (by decide) (by decide) dX6_init_83 (fun p0 => ?_)
  refine d_dup dX6_init_86 rfl ?_
  refine d_aload_n dX6_init_87 rfl rfl ?_
  refine d_eq (ws' := ([] : va_W) ++ (h, .inr (6, [.ref t0, .ref d0, .ref l0, .ref n0, .ref r0, .ref a0, .null, .null, .int 0, .null, .null])) :: ((((((([] ++ blk5 B t0 t1 t2) ++ blk2 B d0 d1 d2 d3) ++ blk2 B l0 l1 l2 l3) ++ blk0 B n0 l0 n1 n2 n3 n4 n5) ++ blk0 B r0 l0 r1 r2 r3 r4 r5) ++ blk0 B a0 l0 a1 a2 a3 a4 a5) ++ [(p0, .inr (1, [.null, .int 0, .int 0]))])) (by rw [List.append_assoc]; rfl) ?_
  refine d_get (X := []) (j := 2) rfl iX6 (by decide) (sT_2 91 rfl rfl) rfl dX6_init_88 ?_
  refine d_eq (ws' := (([] : va_W) ++ (h, .inr (6, [.ref t0, .ref d0, .ref l0, .ref n0, .ref r0, .ref a0, .null, .null, .int 0, .null, .null])) :: (((((([] ++ blk5 B t0 t1 t2) ++ blk2 B d0 d1 d2 d3) ++ blk2 B l0 l1 l2 l3) ++ blk0 B n0 l0 n1 n2 n3 n4 n5) ++ blk0 B r0 l0 r1 r2 r3 r4 r5) ++ blk0 B a0 l0 a1 a2 a3 a4 a5)) ++ [(p0, .inr (1, [.null, .int 0, .int 0]))]) (by simp only [List.append_assoc, List.cons_append, List.nil_append]) ?_
  refine d_callI (i := 43) (n := 1) (av := [.ref l0]) (ct_X1 _ p0 l0) mX1_init rfl (Nat.le_of_ble_eq_true rfl) rfl (sT_1 134 rfl rfl) vX1_init (by decide) (by decide) (by decide) rfl (Nat.le_of_ble_eq_true rfl) dX6_init_91 (fun w hw => ?_)
  obtain ⟨p1, bl, hbl, rfl⟩ := hw
  refine d_eq (ws' := (([] : va_W) ++ (h, .inr (6, [.ref t0, .ref d0, .ref l0, .ref n0, .ref r0, .ref a0, .null, .null, .int 0, .null, .null])) :: ((((((([] ++ blk5 B t0 t1 t2) ++ blk2 B d0 d1 d2 d3) ++ blk2 B l0 l1 l2 l3) ++ blk0 B n0 l0 n1 n2 n3 n4 n5) ++ blk0 B r0 l0 r1 r2 r3 r4 r5) ++ blk0 B a0 l0 a1 a2 a3 a4 a5) ++ blk1 B p0 p1 l0 bl))) (by rw [List.append_assoc]; rfl) ?_
  refine d_putF (X := []) (j := 6) rfl iX6 tyX6_ok nmX6 (by decide) (sT_2 95 rfl rfl) rfl rfl (tyX6_ok 6 (by decide)) rfl rfl (Nat.le_of_ble_eq_true rfl) dX6_init_94 ?_
  refine d_eq (ws' := (([] : va_W) ++ (h, .inr (6, [.ref t0, .ref d0, .ref l0, .ref n0, .ref r0, .ref a0, .ref p0, .null, .int 0, .null, .null])) :: ((((((([] ++ blk5 B t0 t1 t2) ++ blk2 B d0 d1 d2 d3) ++ blk2 B l0 l1 l2 l3) ++ blk0 B n0 l0 n1 n2 n3 n4 n5) ++ blk0 B r0 l0 r1 r2 r3 r4 r5) ++ blk0 B a0 l0 a1 a2 a3 a4 a5) ++ blk1 B p0 p1 l0 bl))) rfl ?_
  refine d_aload_n dX6_init_97 rfl rfl ?_
  refine d_iconst (v := 2) dX6_init_98 (by decide) ?_
  refine d_newq (n := 2) (sT_1 89 rfl rfl) (by decide) (by decide) (by decide) (by decide) (by decide) dX6_init_99 (fun kq => ?_)
  refine d_eq (ws' := (([] : va_W) ++ (h, .inr (6, [.ref t0, .ref d0, .ref l0, .ref n0, .ref r0, .ref a0, .ref p0, .null, .int 0, .null, .null])) :: (((((((([] ++ blk5 B t0 t1 t2) ++ blk2 B d0 d1 d2 d3) ++ blk2 B l0 l1 l2 l3) ++ blk0 B n0 l0 n1 n2 n3 n4 n5) ++ blk0 B r0 l0 r1 r2 r3 r4 r5) ++ blk0 B a0 l0 a1 a2 a3 a4 a5) ++ blk1 B p0 p1 l0 bl) ++ [(kq, .inl (B.1.2.2 3, 2, .inr (.inr (.inr (.inr (fun _ => none))))))]))) (by rw [List.append_assoc]; rfl) ?_
  refine d_putF (X := []) (j := 7) rfl iX6 tyX6_ok nmX6 (by decide) (sT_2 96 rfl rfl) rfl rfl (tyX6_ok 7 (by decide)) rfl rfl (Nat.le_of_ble_eq_true rfl) dX6_init_102 ?_
  refine d_eq (ws' := (([] : va_W) ++ (h, .inr (6, [.ref t0, .ref d0, .ref l0, .ref n0, .ref r0, .ref a0, .ref p0, .ref kq, .int 0, .null, .null])) :: (((((((([] ++ blk5 B t0 t1 t2) ++ blk2 B d0 d1 d2 d3) ++ blk2 B l0 l1 l2 l3) ++ blk0 B n0 l0 n1 n2 n3 n4 n5) ++ blk0 B r0 l0 r1 r2 r3 r4 r5) ++ blk0 B a0 l0 a1 a2 a3 a4 a5) ++ blk1 B p0 p1 l0 bl) ++ [(kq, .inl (B.1.2.2 3, 2, .inr (.inr (.inr (.inr (fun _ => none))))))]))) rfl ?_
  refine d_aload_n dX6_init_105 rfl rfl ?_
  refine d_new (ci := 4) rfl iX4 tyX4_ok (sT_1 152 rfl rfl) (sT_1 153 rfl rfl) (sT_1 6 rfl rfl) dfX4 (by decide) (by decide) dX6_init_106 (fun s0 => ?_)
  refine d_dup dX6_init_109 rfl ?_
  refine d_callIN (host := "ToastBelt") (i := 54) (n := 0) (av := []) (ct_X4 _ s0) mX4_init rfl (Nat.le_of_ble_eq_true rfl) rfl (by decide +kernel) vX4_init (by decide) (by decide) (by decide) rfl (Nat.le_of_ble_eq_true rfl) dX6_init_110 (fun w hw => ?_)
  obtain ⟨s1, s2, s3, s4, rfl⟩ := hw
  refine d_eq (ws' := (([] : va_W) ++ (h, .inr (6, [.ref t0, .ref d0, .ref l0, .ref n0, .ref r0, .ref a0, .ref p0, .ref kq, .int 0, .null, .null])) :: ((((((((([] ++ blk5 B t0 t1 t2) ++ blk2 B d0 d1 d2 d3) ++ blk2 B l0 l1 l2 l3) ++ blk0 B n0 l0 n1 n2 n3 n4 n5) ++ blk0 B r0 l0 r1 r2 r3 r4 r5) ++ blk0 B a0 l0 a1 a2 a3 a4 a5) ++ blk1 B p0 p1 l0 bl) ++ [(kq, .inl (B.1.2.2 3, 2, .inr (.inr (.inr (.inr (fun _ => none))))))]) ++ blk4 B s0 s1 s2 s3 s4))) (by rw [List.append_assoc]; rfl) ?_
  refine d_putF (X := []) (j := 9) rfl iX6 tyX6_ok nmX6 (by decide) (sT_2 98 rfl rfl) rfl rfl (tyX6_ok 9 (by decide)) rfl rfl (Nat.le_of_ble_eq_true rfl) dX6_init_113 ?_
  refine d_eq (ws' := (([] : va_W) ++ (h, .inr (6, [.ref t0, .ref d0, .ref l0, .ref n0, .ref r0, .ref a0, .ref p0, .ref kq, .int 0, .ref s0, .null])) :: ((((((((([] ++ blk5 B t0 t1 t2) ++ blk2 B d0 d1 d2 d3) ++ blk2 B l0 l1 l2 l3) ++ blk0 B n0 l0 n1 n2 n3 n4 n5) ++ blk0 B r0 l0 r1 r2 r3 r4 r5) ++ blk0 B a0 l0 a1 a2 a3 a4 a5) ++ blk1 B p0 p1 l0 bl) ++ [(kq, .inl (B.1.2.2 3, 2, .inr (.inr (.inr (.inr (fun _ => none))))))]) ++ blk4 B s0 s1 s2 s3 s4))) rfl ?_
  refine d_aload_n dX6_init_116 rfl rfl ?_
  refine d_new (ci := 3) rfl iX3 tyX3_ok (sT_1 175 rfl rfl) (sT_1 176 rfl rfl) (sT_1 7 rfl rfl) dfX3 (by decide) (by decide) dX6_init_117 (fun g0 => ?_)
  refine d_dup dX6_init_120 rfl ?_
  refine d_callIN (host := "ToastBelt") (i := 61) (n := 0) (av := []) (ct_X3 _ g0) mX3_init rfl (Nat.le_of_ble_eq_true rfl) rfl (by decide +kernel) vX3_init (by decide) (by decide) (by decide) rfl (Nat.le_of_ble_eq_true rfl) dX6_init_121 (fun w hw => ?_)
  obtain ⟨g1, g2, g3, rfl⟩ := hw
  refine d_eq (ws' := (([] : va_W) ++ (h, .inr (6, [.ref t0, .ref d0, .ref l0, .ref n0, .ref r0, .ref a0, .ref p0, .ref kq, .int 0, .ref s0, .null])) :: (((((((((([] ++ blk5 B t0 t1 t2) ++ blk2 B d0 d1 d2 d3) ++ blk2 B l0 l1 l2 l3) ++ blk0 B n0 l0 n1 n2 n3 n4 n5) ++ blk0 B r0 l0 r1 r2 r3 r4 r5) ++ blk0 B a0 l0 a1 a2 a3 a4 a5) ++ blk1 B p0 p1 l0 bl) ++ [(kq, .inl (B.1.2.2 3, 2, .inr (.inr (.inr (.inr (fun _ => none))))))]) ++ blk4 B s0 s1 s2 s3 s4) ++ blk3 B g0 g1 g2 g3))) (by rw [List.append_assoc]; rfl) ?_
  refine d_putF (X := []) (j := 10) rfl iX6 tyX6_ok nmX6 (by decide) (sT_2 99 rfl rfl) rfl rfl (tyX6_ok 10 (by decide)) rfl rfl (Nat.le_of_ble_eq_true rfl) dX6_init_124 ?_
  refine d_eq (ws' := (([] : va_W) ++ (h, .inr (6, [.ref t0, .ref d0, .ref l0, .ref n0, .ref r0, .ref a0, .ref p0, .ref kq, .int 0, .ref s0, .ref g0])) :: (((((((((([] ++ blk5 B t0 t1 t2) ++ blk2 B d0 d1 d2 d3) ++ blk2 B l0 l1 l2 l3) ++ blk0 B n0 l0 n1 n2 n3 n4 n5) ++ blk0 B r0 l0 r1 r2 r3 r4 r5) ++ blk0 B a0 l0 a1 a2 a3 a4 a5) ++ blk1 B p0 p1 l0 bl) ++ [(kq, .inl (B.1.2.2 3, 2, .inr (.inr (.inr (.inr (fun _ => none))))))]) ++ blk4 B s0 s1 s2 s3 s4) ++ blk3 B g0 g1 g2 g3))) rfl ?_
  refine d_iconst (v := 0) dX6_init_127 (by decide) ?_
  refine d_istore_n (lv' := [(1, _), (0, _)]) dX6_init_128 rfl (by decide) rfl ?_
  refine d_iload_n dX6_init_129 rfl rfl ?_
  refine d_iconst (v := 2) dX6_init_130 (by decide) ?_
  refine d_icmp_ge (tgt := 157) dX6_init_131 (by decide) (fun c => absurd c (by decide)) (fun _ => ?_)
  refine d_aload_n dX6_init_134 rfl rfl ?_
  refine d_get (X := []) (j := 7) rfl iX6 (by decide) (sT_2 96 rfl rfl) rfl dX6_init_135 ?_
  refine d_iload_n dX6_init_138 rfl rfl ?_
  refine d_new (ci := 0) rfl iX0 tyX0_ok (sT_1 89 rfl rfl) (sT_1 90 rfl rfl) (sT_1 4 rfl rfl) dfX0 (by decide) (by decide) dX6_init_139 (fun k0 => ?_)
  refine d_dup dX6_init_142 rfl ?_
  refine d_aload_n dX6_init_143 rfl rfl ?_
  refine d_eq (ws' := ([] : va_W) ++ (h, .inr (6, [.ref t0, .ref d0, .ref l0, .ref n0, .ref r0, .ref a0, .ref p0, .ref kq, .int 0, .ref s0, .ref g0])) :: ((((((((((([] ++ blk5 B t0 t1 t2) ++ blk2 B d0 d1 d2 d3) ++ blk2 B l0 l1 l2 l3) ++ blk0 B n0 l0 n1 n2 n3 n4 n5) ++ blk0 B r0 l0 r1 r2 r3 r4 r5) ++ blk0 B a0 l0 a1 a2 a3 a4 a5) ++ blk1 B p0 p1 l0 bl) ++ [(kq, .inl (B.1.2.2 3, 2, .inr (.inr (.inr (.inr (fun _ => none))))))]) ++ blk4 B s0 s1 s2 s3 s4) ++ blk3 B g0 g1 g2 g3) ++ [(k0, .inr (0, [.null, .int 0, .int 0, .int 0, .null, .null, .null, .null, .null]))])) (by rw [List.append_assoc]; rfl) ?_
  refine d_get (X := []) (j := 2) rfl iX6 (by decide) (sT_2 91 rfl rfl) rfl dX6_init_144 ?_
  refine d_eq (ws' := (([] : va_W) ++ (h, .inr (6, [.ref t0, .ref d0, .ref l0, .ref n0, .ref r0, .ref a0, .ref p0, .ref kq, .int 0, .ref s0, .ref g0])) :: (((((((((([] ++ blk5 B t0 t1 t2) ++ blk2 B d0 d1 d2 d3) ++ blk2 B l0 l1 l2 l3) ++ blk0 B n0 l0 n1 n2 n3 n4 n5) ++ blk0 B r0 l0 r1 r2 r3 r4 r5) ++ blk0 B a0 l0 a1 a2 a3 a4 a5) ++ blk1 B p0 p1 l0 bl) ++ [(kq, .inl (B.1.2.2 3, 2, .inr (.inr (.inr (.inr (fun _ => none))))))]) ++ blk4 B s0 s1 s2 s3 s4) ++ blk3 B g0 g1 g2 g3)) ++ [(k0, .inr (0, [.null, .int 0, .int 0, .int 0, .null, .null, .null, .null, .null]))]) (by simp only [List.append_assoc, List.cons_append, List.nil_append]) ?_
  refine d_callI (i := 28) (n := 1) (av := [.ref l0]) (ct_X0 _ k0 l0) mX0_init rfl (Nat.le_of_ble_eq_true rfl) rfl (sT_1 91 rfl rfl) vX0_init (by decide) (by decide) (by decide) rfl (Nat.le_of_ble_eq_true rfl) dX6_init_147 (fun w hw => ?_)
  obtain ⟨k1, k2, k3, k4, k5, rfl⟩ := hw
  refine d_eq (ws' := (([] : va_W) ++ (h, .inr (6, [.ref t0, .ref d0, .ref l0, .ref n0, .ref r0, .ref a0, .ref p0, .ref kq, .int 0, .ref s0, .ref g0])) :: ((((((((((([] ++ blk5 B t0 t1 t2) ++ blk2 B d0 d1 d2 d3) ++ blk2 B l0 l1 l2 l3) ++ blk0 B n0 l0 n1 n2 n3 n4 n5) ++ blk0 B r0 l0 r1 r2 r3 r4 r5) ++ blk0 B a0 l0 a1 a2 a3 a4 a5) ++ blk1 B p0 p1 l0 bl) ++ [(kq, .inl (B.1.2.2 3, 2, .inr (.inr (.inr (.inr (fun _ => none))))))]) ++ blk4 B s0 s1 s2 s3 s4) ++ blk3 B g0 g1 g2 g3) ++ blk0 B k0 l0 k1 k2 k3 k4 k5))) (by rw [List.append_assoc]; rfl) ?_
  refine d_eq (ws' := (([] : va_W) ++ (h, .inr (6, [.ref t0, .ref d0, .ref l0, .ref n0, .ref r0, .ref a0, .ref p0, .ref kq, .int 0, .ref s0, .ref g0])) :: ((((((([] ++ blk5 B t0 t1 t2) ++ blk2 B d0 d1 d2 d3) ++ blk2 B l0 l1 l2 l3) ++ blk0 B n0 l0 n1 n2 n3 n4 n5) ++ blk0 B r0 l0 r1 r2 r3 r4 r5) ++ blk0 B a0 l0 a1 a2 a3 a4 a5) ++ blk1 B p0 p1 l0 bl)) ++ (kq, .inl (B.1.2.2 3, 2, .inr (.inr (.inr (.inr (fun _ => none)))))) :: ((blk4 B s0 s1 s2 s3 s4 ++ blk3 B g0 g1 g2 g3) ++ blk0 B k0 l0 k1 k2 k3 k4 k5)) (by simp only [List.append_assoc, List.cons_append, List.nil_append, List.singleton_append]) ?_
  refine d_aast (i := 0) (by decide) (by decide) dX6_init_150 ?_
  refine d_eq (ws' := (([] : va_W) ++ (h, .inr (6, [.ref t0, .ref d0, .ref l0, .ref n0, .ref r0, .ref a0, .ref p0, .ref kq, .int 0, .ref s0, .ref g0])) :: (((((((([] ++ blk5 B t0 t1 t2) ++ blk2 B d0 d1 d2 d3) ++ blk2 B l0 l1 l2 l3) ++ blk0 B n0 l0 n1 n2 n3 n4 n5) ++ blk0 B r0 l0 r1 r2 r3 r4 r5) ++ blk0 B a0 l0 a1 a2 a3 a4 a5) ++ blk1 B p0 p1 l0 bl) ++ ((kq, .inl (B.1.2.2 3, 2, .inr (.inr (.inr (.inr (va_up (fun _ => none) 0 (some k0))))))) :: ((blk4 B s0 s1 s2 s3 s4 ++ blk3 B g0 g1 g2 g3) ++ blk0 B k0 l0 k1 k2 k3 k4 k5))))) (by rw [List.append_assoc]; rfl) ?_
  refine d_iinc (v := 1) (lv' := [(1, _), (0, _)]) dX6_init_151 rfl (by decide) (by decide) rfl ?_
  refine d_goto (tgt := 129) dX6_init_154 (by decide) ?_
  refine d_iload_n dX6_init_129 rfl rfl ?_
  refine d_iconst (v := 2) dX6_init_130 (by decide) ?_
  refine d_icmp_ge (tgt := 157) dX6_init_131 (by decide) (fun c => absurd c (by decide)) (fun _ => ?_)
  refine d_aload_n dX6_init_134 rfl rfl ?_
  refine d_get (X := []) (j := 7) rfl iX6 (by decide) (sT_2 96 rfl rfl) rfl dX6_init_135 ?_
  refine d_iload_n dX6_init_138 rfl rfl ?_
  refine d_new (ci := 0) rfl iX0 tyX0_ok (sT_1 89 rfl rfl) (sT_1 90 rfl rfl) (sT_1 4 rfl rfl) dfX0 (by decide) (by decide) dX6_init_139 (fun m0 => ?_)
  refine d_dup dX6_init_142 rfl ?_
  refine d_aload_n dX6_init_143 rfl rfl ?_
  refine d_eq (ws' := ([] : va_W) ++ (h, .inr (6, [.ref t0, .ref d0, .ref l0, .ref n0, .ref r0, .ref a0, .ref p0, .ref kq, .int 0, .ref s0, .ref g0])) :: ((((((((([] ++ blk5 B t0 t1 t2) ++ blk2 B d0 d1 d2 d3) ++ blk2 B l0 l1 l2 l3) ++ blk0 B n0 l0 n1 n2 n3 n4 n5) ++ blk0 B r0 l0 r1 r2 r3 r4 r5) ++ blk0 B a0 l0 a1 a2 a3 a4 a5) ++ blk1 B p0 p1 l0 bl) ++ ((kq, .inl (B.1.2.2 3, 2, .inr (.inr (.inr (.inr (va_up (fun _ => none) 0 (some k0))))))) :: ((blk4 B s0 s1 s2 s3 s4 ++ blk3 B g0 g1 g2 g3) ++ blk0 B k0 l0 k1 k2 k3 k4 k5))) ++ [(m0, .inr (0, [.null, .int 0, .int 0, .int 0, .null, .null, .null, .null, .null]))])) (by rw [List.append_assoc]; rfl) ?_
  refine d_get (X := []) (j := 2) rfl iX6 (by decide) (sT_2 91 rfl rfl) rfl dX6_init_144 ?_
  refine d_eq (ws' := (([] : va_W) ++ (h, .inr (6, [.ref t0, .ref d0, .ref l0, .ref n0, .ref r0, .ref a0, .ref p0, .ref kq, .int 0, .ref s0, .ref g0])) :: (((((((([] ++ blk5 B t0 t1 t2) ++ blk2 B d0 d1 d2 d3) ++ blk2 B l0 l1 l2 l3) ++ blk0 B n0 l0 n1 n2 n3 n4 n5) ++ blk0 B r0 l0 r1 r2 r3 r4 r5) ++ blk0 B a0 l0 a1 a2 a3 a4 a5) ++ blk1 B p0 p1 l0 bl) ++ ((kq, .inl (B.1.2.2 3, 2, .inr (.inr (.inr (.inr (va_up (fun _ => none) 0 (some k0))))))) :: ((blk4 B s0 s1 s2 s3 s4 ++ blk3 B g0 g1 g2 g3) ++ blk0 B k0 l0 k1 k2 k3 k4 k5)))) ++ [(m0, .inr (0, [.null, .int 0, .int 0, .int 0, .null, .null, .null, .null, .null]))]) (by simp only [List.append_assoc, List.cons_append, List.nil_append]) ?_
  refine d_callI (i := 28) (n := 1) (av := [.ref l0]) (ct_X0 _ m0 l0) mX0_init rfl (Nat.le_of_ble_eq_true rfl) rfl (sT_1 91 rfl rfl) vX0_init (by decide) (by decide) (by decide) rfl (Nat.le_of_ble_eq_true rfl) dX6_init_147 (fun w hw => ?_)
  obtain ⟨m1, m2, m3, m4, m5, rfl⟩ := hw
  refine d_eq (ws' := (([] : va_W) ++ (h, .inr (6, [.ref t0, .ref d0, .ref l0, .ref n0, .ref r0, .ref a0, .ref p0, .ref kq, .int 0, .ref s0, .ref g0])) :: ((((((((([] ++ blk5 B t0 t1 t2) ++ blk2 B d0 d1 d2 d3) ++ blk2 B l0 l1 l2 l3) ++ blk0 B n0 l0 n1 n2 n3 n4 n5) ++ blk0 B r0 l0 r1 r2 r3 r4 r5) ++ blk0 B a0 l0 a1 a2 a3 a4 a5) ++ blk1 B p0 p1 l0 bl) ++ ((kq, .inl (B.1.2.2 3, 2, .inr (.inr (.inr (.inr (va_up (fun _ => none) 0 (some k0))))))) :: ((blk4 B s0 s1 s2 s3 s4 ++ blk3 B g0 g1 g2 g3) ++ blk0 B k0 l0 k1 k2 k3 k4 k5))) ++ blk0 B m0 l0 m1 m2 m3 m4 m5))) (by rw [List.append_assoc]; rfl) ?_
  refine d_eq (ws' := (([] : va_W) ++ (h, .inr (6, [.ref t0, .ref d0, .ref l0, .ref n0, .ref r0, .ref a0, .ref p0, .ref kq, .int 0, .ref s0, .ref g0])) :: ((((((([] ++ blk5 B t0 t1 t2) ++ blk2 B d0 d1 d2 d3) ++ blk2 B l0 l1 l2 l3) ++ blk0 B n0 l0 n1 n2 n3 n4 n5) ++ blk0 B r0 l0 r1 r2 r3 r4 r5) ++ blk0 B a0 l0 a1 a2 a3 a4 a5) ++ blk1 B p0 p1 l0 bl)) ++ (kq, .inl (B.1.2.2 3, 2, .inr (.inr (.inr (.inr (va_up (fun _ => none) 0 (some k0))))))) :: (((blk4 B s0 s1 s2 s3 s4 ++ blk3 B g0 g1 g2 g3) ++ blk0 B k0 l0 k1 k2 k3 k4 k5) ++ blk0 B m0 l0 m1 m2 m3 m4 m5)) (by simp only [List.append_assoc, List.cons_append, List.nil_append, List.singleton_append]) ?_
  refine d_aast (i := 1) (by decide) (by decide) dX6_init_150 ?_
  refine d_eq (ws' := (([] : va_W) ++ (h, .inr (6, [.ref t0, .ref d0, .ref l0, .ref n0, .ref r0, .ref a0, .ref p0, .ref kq, .int 0, .ref s0, .ref g0])) :: (((((((([] ++ blk5 B t0 t1 t2) ++ blk2 B d0 d1 d2 d3) ++ blk2 B l0 l1 l2 l3) ++ blk0 B n0 l0 n1 n2 n3 n4 n5) ++ blk0 B r0 l0 r1 r2 r3 r4 r5) ++ blk0 B a0 l0 a1 a2 a3 a4 a5) ++ blk1 B p0 p1 l0 bl) ++ ((kq, .inl (B.1.2.2 3, 2, .inr (.inr (.inr (.inr (va_up (va_up (fun _ => none) 0 (some k0)) 1 (some m0))))))) :: (((blk4 B s0 s1 s2 s3 s4 ++ blk3 B g0 g1 g2 g3) ++ blk0 B k0 l0 k1 k2 k3 k4 k5) ++ blk0 B m0 l0 m1 m2 m3 m4 m5))))) (by rw [List.append_assoc]; rfl) ?_
  refine d_iinc (v := 2) (lv' := [(1, _), (0, _)]) dX6_init_151 rfl (by decide) (by decide) rfl ?_
  refine d_goto (tgt := 129) dX6_init_154 (by decide) ?_
  refine d_iload_n dX6_init_129 rfl rfl ?_
  refine d_iconst (v := 2) dX6_init_130 (by decide) ?_
  refine d_icmp_ge (tgt := 157) dX6_init_131 (by decide) (fun _ => ?_) (fun c => absurd (by decide) c)
  obtain ⟨b0, b1, b2, b3, b4, b5, b6, b7, rfl⟩ := len8 hbl
  obtain ⟨b00, b01, b02, b03, b04, b05⟩ := b0
  obtain ⟨b10, b11, b12, b13, b14, b15⟩ := b1
  obtain ⟨b20, b21, b22, b23, b24, b25⟩ := b2
  obtain ⟨b30, b31, b32, b33, b34, b35⟩ := b3
  obtain ⟨b40, b41, b42, b43, b44, b45⟩ := b4
  obtain ⟨b50, b51, b52, b53, b54, b55⟩ := b5
  obtain ⟨b60, b61, b62, b63, b64, b65⟩ := b6
  obtain ⟨b70, b71, b72, b73, b74, b75⟩ := b7
  refine d_static (ad := fun k => [h, t0, t1, t2, d0, d1, d2, d3, l0, l1, l2, l3, n0, n1, n2, n3, n4, n5, r0, r1, r2, r3, r4, r5, a0, a1, a2, a3, a4, a5, p0, p1, b00, b01, b02, b03, b04, b05, b10, b11, b12, b13, b14, b15, b20, b21, b22, b23, b24, b25, b30, b31, b32, b33, b34, b35, b40, b41, b42, b43, b44, b45, b50, b51, b52, b53, b54, b55, b60, b61, b62, b63, b64, b65, b70, b71, b72, b73, b74, b75, kq, s0, s1, s2, s3, s4, g0, g1, g2, g3, k0, k1, k2, k3, k4, k5, m0, m1, m2, m3, m4, m5].getD k 0) (sh := shpX) (wX_eq B h t0 t1 t2 d0 d1 d2 d3 l0 l1 l2 l3 n0 n1 n2 n3 n4 n5 r0 r1 r2 r3 r4 r5 a0 a1 a2 a3 a4 a5 p0 p1 kq s0 s1 s2 s3 s4 g0 g1 g2 g3 k0 k1 k2 k3 k4 k5 m0 m1 m2 m3 m4 m5 b00 b01 b02 b03 b04 b05 b10 b11 b12 b13 b14 b15 b20 b21 b22 b23 b24 b25 b30 b31 b32 b33 b34 b35 b40 b41 b42 b43 b44 b45 b50 b51 b52 b53 b54 b55 b60 b61 b62 b63 b64 b65 b70 b71 b72 b73 b74 b75) ?_
  refine x_wk [1] rfl ?_
  refine x_post (Q := fun v S1 => v = none ∧ RX S1 A0) (fun v S1 hq => ⟨hq.1, (fun k => [h, t0, t1, t2, d0, d1, d2, d3, l0, l1, l2, l3, n0, n1, n2, n3, n4, n5, r0, r1, r2, r3, r4, r5, a0, a1, a2, a3, a4, a5, p0, p1, b00, b01, b02, b03, b04, b05, b10, b11, b12, b13, b14, b15, b20, b21, b22, b23, b24, b25, b30, b31, b32, b33, b34, b35, b40, b41, b42, b43, b44, b45, b50, b51, b52, b53, b54, b55, b60, b61, b62, b63, b64, b65, b70, b71, b72, b73, b74, b75, kq, s0, s1, s2, s3, s4, g0, g1, g2, g3, k0, k1, k2, k3, k4, k5, m0, m1, m2, m3, m4, m5].getD k 0), S1, rfl, rfl, hq.2⟩) ?_
  exact ct_init6 (B := ((B.1.1, (fun k => [h, t0, t1, t2, d0, d1, d2, d3, l0, l1, l2, l3, n0, n1, n2, n3, n4, n5, r0, r1, r2, r3, r4, r5, a0, a1, a2, a3, a4, a5, p0, p1, b00, b01, b02, b03, b04, b05, b10, b11, b12, b13, b14, b15, b20, b21, b22, b23, b24, b25, b30, b31, b32, b33, b34, b35, b40, b41, b42, b43, b44, b45, b50, b51, b52, b53, b54, b55, b60, b61, b62, b63, b64, b65, b70, b71, b72, b73, b74, b75, kq, s0, s1, s2, s3, s4, g0, g1, g2, g3, k0, k1, k2, k3, k4, k5, m0, m1, m2, m3, m4, m5].getD k 0), B.1.2.2), shpX, B.2.2)) (shpX_ok (r := [])) (fun _ _ _ => rfl)
