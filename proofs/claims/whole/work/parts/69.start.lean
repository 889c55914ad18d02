/-! THE LAW's start: what the Statement gives there, in the words of the static layer; a constructor's call -/
theorem tb_1 (i : Nat) {w : Cond} (h : tables_1_1[i]? = some w) : w ∈ lw_tbl := List.mem_append_right _ (List.mem_append_left _ (List.mem_of_getElem? h))
theorem sT_of {args : Array Value} {s : State} (hts : ∀ w ∈ lw_tbl, w.before args s = true) : ∀ w ∈ sT, w.before args s = true := fun w h => hts w (List.mem_filter.mp h).1
theorem ao_start {args : Array Value} {s : State} (hts : ∀ w ∈ lw_tbl, w.before args s = true) : va_AO RX0 s := va_AO.of (hts (Cond.arrayOver (.object RX0)) (tb_1 139 rfl))
theorem nw_start {args : Array Value} {s : State} (hts : ∀ w ∈ lw_tbl, w.before args s = true) : ∀ w ∈ sNw, va_Nw w s := by
  intro w hw
  obtain ⟨h1, h2⟩ := List.mem_filter.mp hw
  have ho : w.onTables = true := by
    revert h2
    cases w <;> first | (intro _; rfl) | (intro h; cases h)
  exact va_Nw.of ho (hts w h1)
set_option maxRecDepth 20000 in
theorem kn_start {args : Array Value} {s : State} (hts : ∀ w ∈ lw_tbl, w.before args s = true) : ∃ (D : va_G) (ty : Nat → ClassId), ∀ (ad : Nat → Nat) (sh : List sShp) (A : Nat → Prop), sKn ((D, ad, ty), sh, A) s := by
  have hT := sT_of hts
  obtain ⟨c0, i0, k0⟩ := u_known (C := RX0) (T := TX0) (N := 9) (n := 9) hT iX0 (hT _ (sT_1 90 rfl rfl))
  obtain ⟨c1, i1, k1⟩ := u_known (C := RX1) (T := TX1) (N := 3) (n := 3) hT iX1 (hT _ (sT_1 133 rfl rfl))
  obtain ⟨c2, i2, k2⟩ := u_known (C := RX2) (T := TX2) (N := 8) (n := 8) hT iX2 (hT _ (sT_1 45 rfl rfl))
  obtain ⟨c3, i3, k3⟩ := u_known (C := RX3) (T := TX3) (N := 6) (n := 6) hT iX3 (hT _ (sT_1 176 rfl rfl))
  obtain ⟨c4, i4, k4⟩ := u_known (C := RX4) (T := TX4) (N := 5) (n := 5) hT iX4 (hT _ (sT_1 153 rfl rfl))
  obtain ⟨c5, i5, k5⟩ := u_known (C := RX5) (T := TX5) (N := 4) (n := 4) hT iX5 (hT _ (sT_1 24 rfl rfl))
  obtain ⟨c6, i6, k6⟩ := u_known (C := RX6) (T := TX6) (N := 11) (n := 11) hT iX6 (hT _ (sT_1 16 rfl rfl))
  obtain ⟨c7, i7, k7⟩ := u_known (C := RX7) (T := TX7) (N := 26) (n := 26) hT iX7 (hT _ (sT_3 159 rfl rfl))
  obtain ⟨cI, kI, pI, a1, a2, a3⟩ := Cond.arrayClass_spec (type := .int) (hT (Cond.arrayClass .int) (sT_1 43 rfl rfl))
  obtain ⟨cC, kC, pC, b1, b2, b3⟩ := Cond.arrayClass_spec (type := .char) (hT (Cond.arrayClass .char) (sT_1 42 rfl rfl))
  obtain ⟨cB, kB, pB, e1, e2, e3⟩ := Cond.arrayClass_spec (type := .byte) (hT (Cond.arrayClass .byte) (sT_2 123 rfl rfl))
  obtain ⟨pO, cO, kO, o1, o2, o3, o4, o5⟩ := Cond.arrayOver_spec (n := RX0) (hts (Cond.arrayOver (.object RX0)) (tb_1 139 rfl))
  refine ⟨(fun k => match k with | 0 => c0 | 1 => c1 | 2 => c2 | 3 => c3 | 4 => c4 | 5 => c5 | 6 => c6 | _ => c7, fun k => match k with | 0 => i0 | 1 => i1 | 2 => i2 | 3 => i3 | 4 => i4 | 5 => i5 | 6 => i6 | _ => i7), fun k => match k with | 0 => cI | 1 => cC | 2 => cB | _ => cO, fun ad sh A => ⟨⟨fun k q hq => ?_, fun k q hq => ?_⟩, nw_start hts⟩⟩
  · match k, hq with
    | 0, hq => cases hq; exact k0
    | 1, hq => cases hq; exact k1
    | 2, hq => cases hq; exact k2
    | 3, hq => cases hq; exact k3
    | 4, hq => cases hq; exact k4
    | 5, hq => cases hq; exact k5
    | 6, hq => cases hq; exact k6
    | 7, hq => cases hq; exact k7
    | k + 8, hq => simp [vwCl] at hq
  · match k, hq with
    | 0, hq => cases hq; exact ⟨fun N z => ⟨(fun k h => by cases h), kI, a2, pI, a3⟩, a1⟩
    | 1, hq => cases hq; exact ⟨fun N z => ⟨(fun k h => by cases h), kC, b2, pC, b3⟩, b1⟩
    | 2, hq => cases hq; exact ⟨fun N z => ⟨(fun k h => by cases h), kB, e2, pB, e3⟩, e1⟩
    | 3, hq => cases hq; exact ⟨fun N z => ⟨(fun k h => by cases h), kO, o3, pO, o4⟩, kO, pO, o3, o4, o1, o5⟩
    | k + 4, hq => simp [s_tys] at hq
abbrev lvT : Term := .string "ToastBelt" 66
abbrev lvV : Term := .field lvT "java/lang/String" "value" "[B"
theorem el_in : ∀ j : Fin 67, (Cond.eq (.elem lvV (.int (Int32.ofNat j.1))) (.int (fB j.1))) ∈ flatC (Cond.and given_1 narrow_1) := by decide +kernel
theorem ez_start {args : Array Value} {s : State} {A : Nat → Prop} (hts : ∀ w ∈ lw_tbl, w.before args s = true) (hgv : (Cond.and given_1 narrow_1).before args s = true) (hA : ∀ a : Nat, a < s.heap.size → ¬ A a) : ∃ aK aV : Nat, sEz A aK aV 67 fB s := by
  have hs := flat_of_before _ hgv
  have hT := sT_of hts
  obtain ⟨a, c, cell, k, q1, q2, q3, q4, q5, q6, -⟩ := Cond.exactly_spec (args := args) (first := s) (o := none) (s := s) (idx := []) (t := lvT) (cls := "java/lang/String") (hs (Cond.exactly lvT "java/lang/String") (by decide +kernel))
  obtain ⟨t, ht, hv⟩ := va_Tof (tm := lvV) (ty := .byte) (N := 67) (f := fun j => .int (fB j)) (A := A) (by decide) (hs (Cond.arrayOf lvV .byte) (by decide +kernel)) (va_eqt (hs (Cond.eq (.length lvV) (.int 67)) (by decide +kernel))) (fun j hj => va_eqt (hs _ (el_in ⟨j, hj⟩))) hA
  exact ⟨a, t, ⟨cell, q3, q5, by rw [q6]; exact q2, hA a (Array.getElem?_eq_some_iff.mp q3).1⟩, vk_OFof q1 (va_eqt (hs (Cond.eq (.field lvT "java/lang/String" "coder" "B") (.int 0)) (by decide +kernel))) hA, vk_OFof q1 ht hA, hv, va_Zof (hts (Cond.laysStatic "java/lang/String" "COMPACT_STRINGS" "Z") (tb_1 212 rfl)) (hts (Cond.initialized "java/lang/String") (tb_1 8 rfl)) (va_eqt (hs (Cond.eq (.static "java/lang/String" "COMPACT_STRINGS" "Z") (.int 1)) (by decide +kernel))) hA, va_Zqof (hts (Cond.laysStatic "jdk/internal/util/Preconditions" "SIOOBE_FORMATTER" "Ljava/util/function/BiFunction;") (tb_1 228 rfl)) (hts (Cond.initialized "jdk/internal/util/Preconditions") (tb_1 10 rfl)) (hs (Cond.isRef (.static "jdk/internal/util/Preconditions" "SIOOBE_FORMATTER" "Ljava/util/function/BiFunction;")) (by decide +kernel)) hA, vk_R.of (hts (Cond.stringRef "ToastBelt" 66 stT) (tb_1 202 rfl)) q1⟩
theorem w_callI {B : sB} {E : State → Prop} {y y2 : MethodName} {cc cc2 : ByteArray} {mL mL2 d2 pc i n mc ms h cells slots : Nat} {lv : List (Nat × Value)} {st stk av : List Value} {ws : va_W} {Q2 : va_W → Prop} {p : Program} {l : Launch} {e : Env} {R : Room} {s : State} {m : MethodId} {args : Array Value} {below : List Frame} {meth : Method} {c : Code} {ls : Array Slot} {H : Heap} {locs : List Loc} {QQ : State → Prop}
    (hx : p.tables.exec = Jvm.exec) (hb : c.code = cc) (hml : c.maxLocals = mL) (hown : s.vm.findClass y.cls = some m.cls) (hts : ∀ w ∈ sT, w.before args s = true) (hKn : sKn B s) (hA : ∀ q, s.heap.size ≤ q → B.2.2 q) (hAO : va_AO RX0 s) (hE : E s) (hpo : sPo B E)
    (h2 : DS B E y2 cc2 mL2 d2 mc ms 0 (lv_args 0 (.ref h :: av)) [] 0 0 ws Q2) (hm : sM y2 cc2 mL2 none n) (hlen : av.length = n) (hln : (lg_sl (.ref h :: av)).length ≤ mL2) (hyn : y2.name = "<init>") (hw : Cond.methodLink y.cls i y2 ∈ sT) (hw2 : Cond.instanceMethod y2 ∈ sT) (hfr : d2 + 1 ≤ R.frames) (hlo : 8 + (mL2 + 11) + 100 * d2 ≤ R.locals) (hcu : cells + mc ≤ R.cells) (hsu : slots + ms ≤ R.slots)
    (hP : va_P B.1.1 vwCl ws H) (hD : va_D B.2.2 ws) (hS : va_S B.2.2 s.heap H locs) (hl : lv_has ls mL lv) (hstk : stk = av.reverse ++ .ref h :: st) (hst : (st.map fun v => v.category).sum ≤ 8) (hd : decode cc pc = .ok (.invokespecial i, 3))
    (k : ∀ (ws' : va_W) (H' : Heap) (locs' : List Loc), Q2 ws' → va_P B.1.1 vwCl ws' H' → va_D B.2.2 ws' → va_S B.2.2 s.heap H' locs' → W p l e R s m args below meth c H' locs' (cells + mc) (slots + ms) QQ (F0 m (pc + 3) ls st)) : W p l e R s m args below meth c H locs cells slots QQ (F0 m pc ls stk) := by
  have hr := va_runI (H := H) (locs := locs) (cells := cells) (slots := slots) (g := F0 m pc ls stk) (below := below) (e := e) (meth := meth) (As := av) (Ts := sT) (n := n) (rest := st) ⟨hx, hb, hml, hown, hts⟩ (d_met l hm.2.2.2.1 hyn hln h2) ⟨callB_of n hts (sT_goodIn hm.1) rfl rfl rfl (hts _ hm.2.1) (hts _ hw) hm.2.2.1 ⟨hfr, hlo⟩, hyn, hts _ hw2⟩ ⟨dPre_blind hpo.2, fun U hU hW => ⟨rfl, by rw [hU]; exact hP, hD, sKn_moved hW hKn, fun q hq => hA q (Nat.le_trans hS.1 (by rw [← hU]; exact hq)), hpo.1 s U locs hE (by rw [hU]; exact hS) hW, va_AO.moved hW.alike hAO⟩⟩ rfl hlen hl.1 hstk (lv_room hst) hd ⟨hcu, hsu⟩
  intro T hT X
  obtain ⟨v, st₀, t, T', L, h0, X', hL, e1, e2, ⟨⟨hv, ws', hq, hP', hD'⟩, hz, hk⟩, stp⟩ := hr T hT X
  cases hv
  rw [h0] at hz hk
  have hS' : va_S B.2.2 s.heap T'.heap (locs ++ L) := ⟨Nat.le_trans hS.1 (by rw [e1]; exact hz), fun q h1 h2 => by rw [e1, hk q (Nat.lt_of_lt_of_le h1 hS.1) h2]; exact hS.2.1 q h1 h2, fun q hq => by
      rcases List.mem_append.mp hq with h | h
      · exact hS.2.2 q h
      · exact hL q h⟩
  obtain ⟨t2, a1, b1⟩ := k ws' T'.heap (locs ++ L) hq (by rw [e1]; exact hP') hD' hS' T' rfl X'
  exact ⟨t2, stp t2 a1, b1⟩
theorem po_true {B : sB} : sPo B (fun _ => True) := ⟨fun _ _ _ _ _ _ => trivial, fun _ _ _ _ _ => trivial⟩
