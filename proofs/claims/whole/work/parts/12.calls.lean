/-! CALLS over the static layer -/
theorem sT_good : ∀ w ∈ sT, goodWord w = true := fun w h => (List.mem_filter.mp h).2
def sM (y : MethodName) (cc : ByteArray) (mL : Nat) (rt : Option FieldType) (n : Nat) : Prop := Cond.code y cc mL rt ∈ sT ∧ Cond.initialized y.cls ∈ sT ∧ (y.cls ≠ "java/lang/invoke/MethodHandle" ∧ y.cls ≠ "java/lang/invoke/VarHandle" ∧ (parseMethodDescriptor y.desc).map (fun d => d.parameters.length) = some n) ∧ plainName y.cls = true ∧ mL ≤ 70
theorem sT_goodIn {w0 : Cond} (h : w0 ∈ sT) : GoodIn sT (w0 :: sT) := by
  intro w hw
  have hm : w ∈ sT := by
    rcases List.mem_cons.mp hw with rfl | h2
    · exact h
    · exact h2
  exact ⟨hm, good_of_word (sT_good w hm)⟩
theorem sKn_moved {B : sB} {s U : State} (hW : s.WarmedH U.vm) (h : sKn B s) : sKn B U := by
  refine ⟨va_K.moved hW.alike h.1, fun w hw => ?_⟩
  have h1 := h.2 w hw
  have h2 := (List.mem_filter.mp hw).2
  cases w <;> first | exact va_Nw.warmF hW h1 | exact va_Nw.warmM hW h1 | (simp at h2)
theorem sKn_same {B : sB} {s U : State} (hvm : s.vm = U.vm) (h : sKn B s) : sKn B U := by
  refine ⟨va_K.moved (by rw [hvm]; exact Vm.Alike.refl _) h.1, fun w hw => ?_⟩
  have h1 := h.2 w hw
  have h2 := (List.mem_filter.mp hw).2
  cases w <;> first | exact va_Nw.same rfl hvm h1 | (simp at h2)
def sQ (B : sB) (rt : Option FieldType) (Q : Option Value → sSt → Prop) : Array Value → State → Outcome → State → Prop := fun _ st oc t => (∃ (v : Option Value) (S' : sSt), oc = .returned v ∧ ((v = none ∧ rt = none) ∨ ∃ (x : Int32) (ty : FieldType), v = some (.int x) ∧ rt = some ty ∧ narrow ty (.int x) = .int x) ∧ Q v S' ∧ va_P B.1.1 vwCl (s_w B S') t.heap) ∧ va_F B.2.2 st t
def sPre (B : sB) (av : List Value) (S : sSt) : Array Value → State → Prop := va_Pc av (fun U => va_P B.1.1 vwCl (s_w B S) U.heap ∧ sKn B U)
abbrev sRm (d : Nat) : Room := { frames := d, cells := 0, slots := 0, locals := 100 * d }
theorem x_met {B : sB} {y : MethodName} {cc : ByteArray} {mL : Nat} {rt : Option FieldType} {d : Nat} {av : List Value} {S : sSt} {Q : Option Value → sSt → Prop} (l : Launch) (hap : sAp B) (hpl : plainName y.cls = true) (hln : (lg_sl av).length ≤ mL) (h : CS B y cc mL rt d av S Q) :
    Met l y (Cond.code y cc mL rt :: sT) (sRm d) (sPre B av S) (sQ B rt Q) 0 0 B.2.2 := by
  refine Met.ofW (cc := cc) (maxL := mL) (ret := rt) hpl rfl ?_
  intro p e s m args below meth c s₁ Bd hml hv
  obtain ⟨rfl, hP, hK⟩ := hv
  have hts := atoms_spec (ws := Cond.code y cc mL rt :: sT) Bd.pre
  have hown : s.vm.findClass y.cls = some m.cls := findClass_of_methodNamed Bd.named
  have hl := lv_entry av (n := mL) hln
  rw [lg_entry_eq]
  refine h p l e _ s m av.toArray below meth c ⟨Bd.exec, Bd.bytes, hml, Bd.returns, Bd.notSynchronized, hown, fun w hw => hts w (List.mem_cons_of_mem _ hw), Nat.le_refl _, Nat.le_refl _, hK, hap, trivial⟩ s.heap [] 0 0 _ _ hP va_S.rf hl ⟨Nat.zero_le _, Nat.zero_le _⟩ ?_
  intro v S' H' locs' pc' ls' hq hP' hS' hend
  have hlocks := Bd.notSynchronized
  rcases hend with ⟨rfl, hr, hdd⟩ | ⟨x, ty, rfl, hr, hn, hdd⟩
  · exact W.vret Bd.exec Bd.bytes (Bd.returns.trans hr) (fun t ht hW => ⟨⟨none, S', rfl, Or.inl ⟨rfl, hr⟩, hq, by rw [ht]; exact hP'⟩, hS'.F ht⟩) hS'.2.2 hdd
  · exact W.zret Bd.exec Bd.bytes (Bd.returns.trans hr) hn (fun t ht hW => ⟨⟨some (.int x), S', rfl, Or.inr ⟨x, ty, rfl, hr, hn⟩, hq, by rw [ht]; exact hP'⟩, hS'.F ht⟩) hS'.2.2 hdd
theorem sPre_blind {B : sB} {av : List Value} {S : sSt} : FrameBlind (sPre B av S) := by
  intro a U g mk h
  obtain ⟨h1, h2, h3⟩ := h
  exact ⟨h1, h2, sKn_same (s := U) (U := U.calling g mk a) rfl h3⟩
section XC
variable {B : sB} {E : State → Prop} {y y2 : MethodName} {cc cc2 : ByteArray} {mL mL2 : Nat} {rt rt2 : Option FieldType} {d d2 pc i n : Nat} {lv : List (Nat × Value)} {st stk : List Value} {S : sSt} {Q Q2 : Option Value → sSt → Prop} {av : List Value}
theorem x_run {p : Program} {l : Launch} {e : Env} {R : Room} {s : State} {m : MethodId} {args : Array Value} {below : List Frame} {meth : Method} {c : Code} {a : Array Value} {ls : Array Slot} {H : Heap} {locs : List Loc} {cells slots : Nat} {QQ : State → Prop}
    (C : sCtx B E y cc mL rt d p R s m args meth c) (hS : va_S B.2.2 s.heap H locs) (hl : lv_has ls mL lv) (hc : cells ≤ R.cells ∧ slots ≤ R.slots)
    (hr : va_Run p l e R s m args below meth c H locs cells slots 0 0 (F0 m pc ls stk) st (sQ B rt2 Q2 a) B.2.2)
    (fin : ∀ (v : Option Value) (S' : sSt) (H' : Heap) (locs' : List Loc) (pc' : Nat) (ls' : Array Slot), Q v S' → va_P B.1.1 vwCl (s_w B S') H' → va_S B.2.2 s.heap H' locs' → sEnd cc rt pc' v → W p l e R s m args below meth c H' locs' cells slots QQ (F0 m pc' ls' v.toList))
    (k : ∀ (v : Option Value) (S' : sSt), ((v = none ∧ rt2 = none) ∨ ∃ (x : Int32) (ty : FieldType), v = some (.int x) ∧ rt2 = some ty ∧ narrow ty (.int x) = .int x) → Q2 v S' → WS B E y cc mL rt d (pc + 3) lv (v.toList ++ st) S' Q) :
    W p l e R s m args below meth c H locs cells slots QQ (F0 m pc ls stk) := by
  intro T hT X
  obtain ⟨v, st₀, t, T', L, h0, X', hL, e1, e2, ⟨⟨v', S', hv, hrt, hq, hP'⟩, hz, hk⟩, stp⟩ := hr T hT X
  cases hv
  rw [h0] at hz hk
  have hS' : va_S B.2.2 s.heap T'.heap (locs ++ L) := ⟨Nat.le_trans hS.1 (by rw [e1]; exact hz), fun q h1 h2 => by rw [e1, hk q (Nat.lt_of_lt_of_le h1 hS.1) h2]; exact hS.2.1 q h1 h2, fun q hq => by
      rcases List.mem_append.mp hq with h | h
      · exact hS.2.2 q h
      · exact hL q h⟩
  obtain ⟨t2, a1, b1⟩ := k v S' hrt hq p l e R s m args below meth c C T'.heap (locs ++ L) cells slots ls QQ (by rw [e1]; exact hP') hS' hl hc fin T' rfl X'
  exact ⟨t2, stp t2 a1, b1⟩
theorem x_callS (h2 : CS B y2 cc2 mL2 rt2 d2 av S Q2) (hm : sM y2 cc2 mL2 rt2 n) (hlen : av.length = n) (hln : (lg_sl av).length ≤ mL2) (hw : Cond.methodLink y.cls i y2 ∈ sT) (hw2 : Cond.static y2 ∈ sT) (hd2 : d2 < d) (hstk : stk = av.reverse ++ st) (hst : (st.map fun v => v.category).sum ≤ 8) (hd : decode cc pc = .ok (.invokestatic i, 3))
    (k : ∀ (v : Option Value) (S' : sSt), ((v = none ∧ rt2 = none) ∨ ∃ (x : Int32) (ty : FieldType), v = some (.int x) ∧ rt2 = some ty ∧ narrow ty (.int x) = .int x) → Q2 v S' → WS B E y cc mL rt d (pc + 3) lv (v.toList ++ st) S' Q) : WS B E y cc mL rt d pc lv stk S Q := by
  intro p l e R s m args below meth c C H locs cells slots ls QQ hP hS hl hc fin
  have hts := C.2.2.2.2.2.2.1
  refine x_run C hS hl hc (va_runS (As := av) (Ts := sT) (n := n) ⟨C.1, C.2.1, C.2.2.1, C.2.2.2.2.2.1, hts⟩ (x_met l C.2.2.2.2.2.2.2.2.2.2.1 hm.2.2.2.1 hln h2) ⟨callB_of n hts (sT_goodIn hm.1) rfl rfl rfl (hts _ hm.2.1) (hts _ hw) hm.2.2.1 ⟨by have := C.2.2.2.2.2.2.2.1; show d2 + 1 ≤ R.frames; omega, by have := C.2.2.2.2.2.2.2.2.1; have := hm.2.2.2.2; show 8 + (mL2 + 11) + 100 * d2 ≤ R.locals; omega⟩, hts _ hw2⟩ ⟨sPre_blind, fun U hU hW => ⟨rfl, by rw [hU]; exact hP, sKn_moved hW C.2.2.2.2.2.2.2.2.2.1⟩⟩ rfl hlen hl.1 hstk (lv_room hst) hd ⟨hc.1, hc.2⟩) fin k
theorem x_callSN {host : String} (h2 : CS B y2 cc2 mL2 rt2 d2 av S Q2) (hm : sM y2 cc2 mL2 rt2 n) (hlen : av.length = n) (hln : (lg_sl av).length ≤ mL2) (hw : Cond.methodLinkNest y.cls i y2 host ∈ sNw) (hw2 : Cond.static y2 ∈ sT) (hd2 : d2 < d) (hstk : stk = av.reverse ++ st) (hst : (st.map fun v => v.category).sum ≤ 8) (hd : decode cc pc = .ok (.invokestatic i, 3))
    (k : ∀ (v : Option Value) (S' : sSt), ((v = none ∧ rt2 = none) ∨ ∃ (x : Int32) (ty : FieldType), v = some (.int x) ∧ rt2 = some ty ∧ narrow ty (.int x) = .int x) → Q2 v S' → WS B E y cc mL rt d (pc + 3) lv (v.toList ++ st) S' Q) : WS B E y cc mL rt d pc lv stk S Q := by
  intro p l e R s m args below meth c C H locs cells slots ls QQ hP hS hl hc fin
  have hts := C.2.2.2.2.2.2.1
  refine x_run C hS hl hc (va_runSN (As := av) (Ts := sT) (n := n) ⟨C.1, C.2.1, C.2.2.1, C.2.2.2.2.2.1, hts⟩ (x_met l C.2.2.2.2.2.2.2.2.2.2.1 hm.2.2.2.1 hln h2) ⟨va_cnB n hts (sT_goodIn hm.1) rfl rfl rfl (C.2.2.2.2.2.2.2.2.2.1.2 _ hw) (hts _ hm.2.1) hm.2.2.1 ⟨by have := C.2.2.2.2.2.2.2.1; show d2 + 1 ≤ R.frames; omega, by have := C.2.2.2.2.2.2.2.2.1; have := hm.2.2.2.2; show 8 + (mL2 + 11) + 100 * d2 ≤ R.locals; omega⟩, hts _ hw2, trivial⟩ ⟨sPre_blind, fun U hU hW => ⟨rfl, by rw [hU]; exact hP, sKn_moved hW C.2.2.2.2.2.2.2.2.2.1⟩⟩ rfl hlen hl.1 hstk (lv_room hst) hd ⟨hc.1, hc.2⟩) fin k
theorem x_callV {o ci N : Nat} {T : u_T} {fl : List (Option Nat)} (hsh : B.2.1[o]? = some (.inr (.inl (ci, fl)))) (hci : vwCl[ci]? = some (y2.cls, T, N)) (h2 : CS B y2 cc2 mL2 rt2 d2 (.ref (s_ad B o) :: av) S Q2) (hm : sM y2 cc2 mL2 rt2 n) (hlen : av.length = n) (hln : (lg_sl (.ref (s_ad B o) :: av)).length ≤ mL2) (hw : Cond.methodLink y.cls i y2 ∈ sT) (hw2 : Cond.instanceMethod y2 ∈ sT ∧ Cond.selects y2.cls y2 y2 ∈ sT) (hd2 : d2 < d) (hstk : stk = av.reverse ++ .ref (s_ad B o) :: st) (hst : (st.map fun v => v.category).sum ≤ 8) (hd : decode cc pc = .ok (.invokevirtual i, 3))
    (k : ∀ (v : Option Value) (S' : sSt), ((v = none ∧ rt2 = none) ∨ ∃ (x : Int32) (ty : FieldType), v = some (.int x) ∧ rt2 = some ty ∧ narrow ty (.int x) = .int x) → Q2 v S' → WS B E y cc mL rt d (pc + 3) lv (v.toList ++ st) S' Q) : WS B E y cc mL rt d pc lv stk S Q := by
  intro p l e R s m args below meth c C H locs cells slots ls QQ hP hS hl hc fin
  have hts := C.2.2.2.2.2.2.1
  refine x_run C hS hl hc (va_runV (As := av) (Ts := sT) (n := n) (C := y2.cls) ⟨C.1, C.2.1, C.2.2.1, C.2.2.2.2.2.1, hts⟩ (x_met l C.2.2.2.2.2.2.2.2.2.2.1 hm.2.2.2.1 hln h2) ⟨callB_of n hts (sT_goodIn hm.1) rfl rfl rfl (hts _ hm.2.1) (hts _ hw) hm.2.2.1 ⟨by have := C.2.2.2.2.2.2.2.1; show d2 + 1 ≤ R.frames; omega, by have := C.2.2.2.2.2.2.2.2.1; have := hm.2.2.2.2; show 8 + (mL2 + 11) + 100 * d2 ≤ R.locals; omega⟩, hts _ hw2.1, hts _ hw2.2⟩ ⟨sPre_blind, va_recv C.2.2.2.2.2.2.2.2.2.1.1 hP hci (s_w_get hsh), fun U hU hW => ⟨rfl, by rw [hU]; exact hP, sKn_moved hW C.2.2.2.2.2.2.2.2.2.1⟩⟩ rfl hlen hl.1 hstk (lv_room hst) hd ⟨hc.1, hc.2⟩) fin k
theorem cs_mono {d3 : Nat} (h : d2 ≤ d3) (hc : CS B y2 cc2 mL2 rt2 d2 av S Q2) : CS B y2 cc2 mL2 rt2 d3 av S Q2 := by
  intro p l e R s m args below meth c C
  exact hc p l e R s m args below meth c ⟨C.1, C.2.1, C.2.2.1, C.2.2.2.1, C.2.2.2.2.1, C.2.2.2.2.2.1, C.2.2.2.2.2.2.1, by have := C.2.2.2.2.2.2.2.1; omega, by have := C.2.2.2.2.2.2.2.2.1; omega, C.2.2.2.2.2.2.2.2.2⟩
theorem cs_post (hq : ∀ v S', Q2 v S' → Q v S') (hc : CS B y2 cc2 mL2 rt2 d2 av S Q2) : CS B y2 cc2 mL2 rt2 d2 av S Q := x_post hq hc
theorem cs_intro (hlv : lv_args 0 av = lv) (h : WS B (fun _ => True) y2 cc2 mL2 rt2 d2 0 lv [] S Q2) : CS B y2 cc2 mL2 rt2 d2 av S Q2 := by
  unfold CS; rw [hlv]; exact h
theorem x_S1i {ty : FieldType} {a1 : Value} (h2 : CS B y2 cc2 mL2 (some ty) d2 [a1] S Q2) (hm : sM y2 cc2 mL2 (some ty) 1) (hln : (lg_sl [a1]).length ≤ mL2) (hw : Cond.methodLink y.cls i y2 ∈ sT) (hw2 : Cond.static y2 ∈ sT) (hd2 : d2 < d) (hst : (st.map fun v => v.category).sum ≤ 8) (hd : decode cc pc = .ok (.invokestatic i, 3))
    (k : ∀ (r : Int32) (S' : sSt), narrow ty (.int r) = .int r → Q2 (some (.int r)) S' → WS B E y cc mL rt d (pc + 3) lv (.int r :: st) S' Q) : WS B E y cc mL rt d pc lv (a1 :: st) S Q :=
  x_callS h2 hm rfl hln hw hw2 hd2 rfl hst hd (fun v S' hv hq => by
    rcases hv with ⟨-, h⟩ | ⟨x, ty2, rfl, h, hn⟩
    · cases h
    · cases h; exact k x S' hn hq)
theorem x_S1v {a1 : Value} (h2 : CS B y2 cc2 mL2 none d2 [a1] S Q2) (hm : sM y2 cc2 mL2 none 1) (hln : (lg_sl [a1]).length ≤ mL2) (hw : Cond.methodLink y.cls i y2 ∈ sT) (hw2 : Cond.static y2 ∈ sT) (hd2 : d2 < d) (hst : (st.map fun v => v.category).sum ≤ 8) (hd : decode cc pc = .ok (.invokestatic i, 3))
    (k : ∀ (S' : sSt), Q2 none S' → WS B E y cc mL rt d (pc + 3) lv st S' Q) : WS B E y cc mL rt d pc lv (a1 :: st) S Q :=
  x_callS h2 hm rfl hln hw hw2 hd2 rfl hst hd (fun v S' hv hq => by
    rcases hv with ⟨rfl, -⟩ | ⟨x, ty2, -, h, -⟩
    · exact k S' hq
    · cases h)
theorem x_S2i {ty : FieldType} {a1 a2 : Value} (h2 : CS B y2 cc2 mL2 (some ty) d2 [a1, a2] S Q2) (hm : sM y2 cc2 mL2 (some ty) 2) (hln : (lg_sl [a1, a2]).length ≤ mL2) (hw : Cond.methodLink y.cls i y2 ∈ sT) (hw2 : Cond.static y2 ∈ sT) (hd2 : d2 < d) (hst : (st.map fun v => v.category).sum ≤ 8) (hd : decode cc pc = .ok (.invokestatic i, 3))
    (k : ∀ (r : Int32) (S' : sSt), narrow ty (.int r) = .int r → Q2 (some (.int r)) S' → WS B E y cc mL rt d (pc + 3) lv (.int r :: st) S' Q) : WS B E y cc mL rt d pc lv (a2 :: a1 :: st) S Q :=
  x_callS h2 hm rfl hln hw hw2 hd2 rfl hst hd (fun v S' hv hq => by
    rcases hv with ⟨-, h⟩ | ⟨x, ty2, rfl, h, hn⟩
    · cases h
    · cases h; exact k x S' hn hq)
theorem x_S2v {a1 a2 : Value} (h2 : CS B y2 cc2 mL2 none d2 [a1, a2] S Q2) (hm : sM y2 cc2 mL2 none 2) (hln : (lg_sl [a1, a2]).length ≤ mL2) (hw : Cond.methodLink y.cls i y2 ∈ sT) (hw2 : Cond.static y2 ∈ sT) (hd2 : d2 < d) (hst : (st.map fun v => v.category).sum ≤ 8) (hd : decode cc pc = .ok (.invokestatic i, 3))
    (k : ∀ (S' : sSt), Q2 none S' → WS B E y cc mL rt d (pc + 3) lv st S' Q) : WS B E y cc mL rt d pc lv (a2 :: a1 :: st) S Q :=
  x_callS h2 hm rfl hln hw hw2 hd2 rfl hst hd (fun v S' hv hq => by
    rcases hv with ⟨rfl, -⟩ | ⟨x, ty2, -, h, -⟩
    · exact k S' hq
    · cases h)
theorem x_S3i {ty : FieldType} {a1 a2 a3 : Value} (h2 : CS B y2 cc2 mL2 (some ty) d2 [a1, a2, a3] S Q2) (hm : sM y2 cc2 mL2 (some ty) 3) (hln : (lg_sl [a1, a2, a3]).length ≤ mL2) (hw : Cond.methodLink y.cls i y2 ∈ sT) (hw2 : Cond.static y2 ∈ sT) (hd2 : d2 < d) (hst : (st.map fun v => v.category).sum ≤ 8) (hd : decode cc pc = .ok (.invokestatic i, 3))
    (k : ∀ (r : Int32) (S' : sSt), narrow ty (.int r) = .int r → Q2 (some (.int r)) S' → WS B E y cc mL rt d (pc + 3) lv (.int r :: st) S' Q) : WS B E y cc mL rt d pc lv (a3 :: a2 :: a1 :: st) S Q :=
  x_callS h2 hm rfl hln hw hw2 hd2 rfl hst hd (fun v S' hv hq => by
    rcases hv with ⟨-, h⟩ | ⟨x, ty2, rfl, h, hn⟩
    · cases h
    · cases h; exact k x S' hn hq)
theorem x_S3v {a1 a2 a3 : Value} (h2 : CS B y2 cc2 mL2 none d2 [a1, a2, a3] S Q2) (hm : sM y2 cc2 mL2 none 3) (hln : (lg_sl [a1, a2, a3]).length ≤ mL2) (hw : Cond.methodLink y.cls i y2 ∈ sT) (hw2 : Cond.static y2 ∈ sT) (hd2 : d2 < d) (hst : (st.map fun v => v.category).sum ≤ 8) (hd : decode cc pc = .ok (.invokestatic i, 3))
    (k : ∀ (S' : sSt), Q2 none S' → WS B E y cc mL rt d (pc + 3) lv st S' Q) : WS B E y cc mL rt d pc lv (a3 :: a2 :: a1 :: st) S Q :=
  x_callS h2 hm rfl hln hw hw2 hd2 rfl hst hd (fun v S' hv hq => by
    rcases hv with ⟨rfl, -⟩ | ⟨x, ty2, -, h, -⟩
    · exact k S' hq
    · cases h)
theorem x_S4i {ty : FieldType} {a1 a2 a3 a4 : Value} (h2 : CS B y2 cc2 mL2 (some ty) d2 [a1, a2, a3, a4] S Q2) (hm : sM y2 cc2 mL2 (some ty) 4) (hln : (lg_sl [a1, a2, a3, a4]).length ≤ mL2) (hw : Cond.methodLink y.cls i y2 ∈ sT) (hw2 : Cond.static y2 ∈ sT) (hd2 : d2 < d) (hst : (st.map fun v => v.category).sum ≤ 8) (hd : decode cc pc = .ok (.invokestatic i, 3))
    (k : ∀ (r : Int32) (S' : sSt), narrow ty (.int r) = .int r → Q2 (some (.int r)) S' → WS B E y cc mL rt d (pc + 3) lv (.int r :: st) S' Q) : WS B E y cc mL rt d pc lv (a4 :: a3 :: a2 :: a1 :: st) S Q :=
  x_callS h2 hm rfl hln hw hw2 hd2 rfl hst hd (fun v S' hv hq => by
    rcases hv with ⟨-, h⟩ | ⟨x, ty2, rfl, h, hn⟩
    · cases h
    · cases h; exact k x S' hn hq)
theorem x_S4v {a1 a2 a3 a4 : Value} (h2 : CS B y2 cc2 mL2 none d2 [a1, a2, a3, a4] S Q2) (hm : sM y2 cc2 mL2 none 4) (hln : (lg_sl [a1, a2, a3, a4]).length ≤ mL2) (hw : Cond.methodLink y.cls i y2 ∈ sT) (hw2 : Cond.static y2 ∈ sT) (hd2 : d2 < d) (hst : (st.map fun v => v.category).sum ≤ 8) (hd : decode cc pc = .ok (.invokestatic i, 3))
    (k : ∀ (S' : sSt), Q2 none S' → WS B E y cc mL rt d (pc + 3) lv st S' Q) : WS B E y cc mL rt d pc lv (a4 :: a3 :: a2 :: a1 :: st) S Q :=
  x_callS h2 hm rfl hln hw hw2 hd2 rfl hst hd (fun v S' hv hq => by
    rcases hv with ⟨rfl, -⟩ | ⟨x, ty2, -, h, -⟩
    · exact k S' hq
    · cases h)
theorem x_SN1i {host : String} {ty : FieldType} {a1 : Value} (h2 : CS B y2 cc2 mL2 (some ty) d2 [a1] S Q2) (hm : sM y2 cc2 mL2 (some ty) 1) (hln : (lg_sl [a1]).length ≤ mL2) (hw : Cond.methodLinkNest y.cls i y2 host ∈ sNw) (hw2 : Cond.static y2 ∈ sT) (hd2 : d2 < d) (hst : (st.map fun v => v.category).sum ≤ 8) (hd : decode cc pc = .ok (.invokestatic i, 3))
    (k : ∀ (r : Int32) (S' : sSt), narrow ty (.int r) = .int r → Q2 (some (.int r)) S' → WS B E y cc mL rt d (pc + 3) lv (.int r :: st) S' Q) : WS B E y cc mL rt d pc lv (a1 :: st) S Q :=
  x_callSN h2 hm rfl hln hw hw2 hd2 rfl hst hd (fun v S' hv hq => by
    rcases hv with ⟨-, h⟩ | ⟨x, ty2, rfl, h, hn⟩
    · cases h
    · cases h; exact k x S' hn hq)
theorem x_SN2i {host : String} {ty : FieldType} {a1 a2 : Value} (h2 : CS B y2 cc2 mL2 (some ty) d2 [a1, a2] S Q2) (hm : sM y2 cc2 mL2 (some ty) 2) (hln : (lg_sl [a1, a2]).length ≤ mL2) (hw : Cond.methodLinkNest y.cls i y2 host ∈ sNw) (hw2 : Cond.static y2 ∈ sT) (hd2 : d2 < d) (hst : (st.map fun v => v.category).sum ≤ 8) (hd : decode cc pc = .ok (.invokestatic i, 3))
    (k : ∀ (r : Int32) (S' : sSt), narrow ty (.int r) = .int r → Q2 (some (.int r)) S' → WS B E y cc mL rt d (pc + 3) lv (.int r :: st) S' Q) : WS B E y cc mL rt d pc lv (a2 :: a1 :: st) S Q :=
  x_callSN h2 hm rfl hln hw hw2 hd2 rfl hst hd (fun v S' hv hq => by
    rcases hv with ⟨-, h⟩ | ⟨x, ty2, rfl, h, hn⟩
    · cases h
    · cases h; exact k x S' hn hq)
theorem x_SN3i {host : String} {ty : FieldType} {a1 a2 a3 : Value} (h2 : CS B y2 cc2 mL2 (some ty) d2 [a1, a2, a3] S Q2) (hm : sM y2 cc2 mL2 (some ty) 3) (hln : (lg_sl [a1, a2, a3]).length ≤ mL2) (hw : Cond.methodLinkNest y.cls i y2 host ∈ sNw) (hw2 : Cond.static y2 ∈ sT) (hd2 : d2 < d) (hst : (st.map fun v => v.category).sum ≤ 8) (hd : decode cc pc = .ok (.invokestatic i, 3))
    (k : ∀ (r : Int32) (S' : sSt), narrow ty (.int r) = .int r → Q2 (some (.int r)) S' → WS B E y cc mL rt d (pc + 3) lv (.int r :: st) S' Q) : WS B E y cc mL rt d pc lv (a3 :: a2 :: a1 :: st) S Q :=
  x_callSN h2 hm rfl hln hw hw2 hd2 rfl hst hd (fun v S' hv hq => by
    rcases hv with ⟨-, h⟩ | ⟨x, ty2, rfl, h, hn⟩
    · cases h
    · cases h; exact k x S' hn hq)
theorem x_V0i {o ci N : Nat} {T : u_T} {fl : List (Option Nat)} {ty : FieldType}  (h2 : CS B y2 cc2 mL2 (some ty) d2 (.ref (s_ad B o) :: []) S Q2) (hsh : B.2.1[o]? = some (.inr (.inl (ci, fl)))) (hci : vwCl[ci]? = some (y2.cls, T, N)) (hm : sM y2 cc2 mL2 (some ty) 0) (hln : (lg_sl (.ref (s_ad B o) :: [])).length ≤ mL2) (hw : Cond.methodLink y.cls i y2 ∈ sT) (hw2 : Cond.instanceMethod y2 ∈ sT ∧ Cond.selects y2.cls y2 y2 ∈ sT) (hd2 : d2 < d) (hst : (st.map fun v => v.category).sum ≤ 8) (hd : decode cc pc = .ok (.invokevirtual i, 3))
    (k : ∀ (r : Int32) (S' : sSt), narrow ty (.int r) = .int r → Q2 (some (.int r)) S' → WS B E y cc mL rt d (pc + 3) lv (.int r :: st) S' Q) : WS B E y cc mL rt d pc lv (.ref (s_ad B o) :: st) S Q :=
  x_callV hsh hci h2 hm rfl hln hw hw2 hd2 rfl hst hd (fun v S' hv hq => by
    rcases hv with ⟨-, h⟩ | ⟨x, ty2, rfl, h, hn⟩
    · cases h
    · cases h; exact k x S' hn hq)
theorem x_V0v {o ci N : Nat} {T : u_T} {fl : List (Option Nat)}  (h2 : CS B y2 cc2 mL2 none d2 (.ref (s_ad B o) :: []) S Q2) (hsh : B.2.1[o]? = some (.inr (.inl (ci, fl)))) (hci : vwCl[ci]? = some (y2.cls, T, N)) (hm : sM y2 cc2 mL2 none 0) (hln : (lg_sl (.ref (s_ad B o) :: [])).length ≤ mL2) (hw : Cond.methodLink y.cls i y2 ∈ sT) (hw2 : Cond.instanceMethod y2 ∈ sT ∧ Cond.selects y2.cls y2 y2 ∈ sT) (hd2 : d2 < d) (hst : (st.map fun v => v.category).sum ≤ 8) (hd : decode cc pc = .ok (.invokevirtual i, 3))
    (k : ∀ (S' : sSt), Q2 none S' → WS B E y cc mL rt d (pc + 3) lv st S' Q) : WS B E y cc mL rt d pc lv (.ref (s_ad B o) :: st) S Q :=
  x_callV hsh hci h2 hm rfl hln hw hw2 hd2 rfl hst hd (fun v S' hv hq => by
    rcases hv with ⟨rfl, -⟩ | ⟨x, ty2, -, h, -⟩
    · exact k S' hq
    · cases h)
theorem x_V1i {o ci N : Nat} {T : u_T} {fl : List (Option Nat)} {ty : FieldType} {a1 : Value} (h2 : CS B y2 cc2 mL2 (some ty) d2 (.ref (s_ad B o) :: [a1]) S Q2) (hsh : B.2.1[o]? = some (.inr (.inl (ci, fl)))) (hci : vwCl[ci]? = some (y2.cls, T, N)) (hm : sM y2 cc2 mL2 (some ty) 1) (hln : (lg_sl (.ref (s_ad B o) :: [a1])).length ≤ mL2) (hw : Cond.methodLink y.cls i y2 ∈ sT) (hw2 : Cond.instanceMethod y2 ∈ sT ∧ Cond.selects y2.cls y2 y2 ∈ sT) (hd2 : d2 < d) (hst : (st.map fun v => v.category).sum ≤ 8) (hd : decode cc pc = .ok (.invokevirtual i, 3))
    (k : ∀ (r : Int32) (S' : sSt), narrow ty (.int r) = .int r → Q2 (some (.int r)) S' → WS B E y cc mL rt d (pc + 3) lv (.int r :: st) S' Q) : WS B E y cc mL rt d pc lv (a1 :: .ref (s_ad B o) :: st) S Q :=
  x_callV hsh hci h2 hm rfl hln hw hw2 hd2 rfl hst hd (fun v S' hv hq => by
    rcases hv with ⟨-, h⟩ | ⟨x, ty2, rfl, h, hn⟩
    · cases h
    · cases h; exact k x S' hn hq)
theorem x_V1v {o ci N : Nat} {T : u_T} {fl : List (Option Nat)} {a1 : Value} (h2 : CS B y2 cc2 mL2 none d2 (.ref (s_ad B o) :: [a1]) S Q2) (hsh : B.2.1[o]? = some (.inr (.inl (ci, fl)))) (hci : vwCl[ci]? = some (y2.cls, T, N)) (hm : sM y2 cc2 mL2 none 1) (hln : (lg_sl (.ref (s_ad B o) :: [a1])).length ≤ mL2) (hw : Cond.methodLink y.cls i y2 ∈ sT) (hw2 : Cond.instanceMethod y2 ∈ sT ∧ Cond.selects y2.cls y2 y2 ∈ sT) (hd2 : d2 < d) (hst : (st.map fun v => v.category).sum ≤ 8) (hd : decode cc pc = .ok (.invokevirtual i, 3))
    (k : ∀ (S' : sSt), Q2 none S' → WS B E y cc mL rt d (pc + 3) lv st S' Q) : WS B E y cc mL rt d pc lv (a1 :: .ref (s_ad B o) :: st) S Q :=
  x_callV hsh hci h2 hm rfl hln hw hw2 hd2 rfl hst hd (fun v S' hv hq => by
    rcases hv with ⟨rfl, -⟩ | ⟨x, ty2, -, h, -⟩
    · exact k S' hq
    · cases h)
theorem x_V2i {o ci N : Nat} {T : u_T} {fl : List (Option Nat)} {ty : FieldType} {a1 a2 : Value} (h2 : CS B y2 cc2 mL2 (some ty) d2 (.ref (s_ad B o) :: [a1, a2]) S Q2) (hsh : B.2.1[o]? = some (.inr (.inl (ci, fl)))) (hci : vwCl[ci]? = some (y2.cls, T, N)) (hm : sM y2 cc2 mL2 (some ty) 2) (hln : (lg_sl (.ref (s_ad B o) :: [a1, a2])).length ≤ mL2) (hw : Cond.methodLink y.cls i y2 ∈ sT) (hw2 : Cond.instanceMethod y2 ∈ sT ∧ Cond.selects y2.cls y2 y2 ∈ sT) (hd2 : d2 < d) (hst : (st.map fun v => v.category).sum ≤ 8) (hd : decode cc pc = .ok (.invokevirtual i, 3))
    (k : ∀ (r : Int32) (S' : sSt), narrow ty (.int r) = .int r → Q2 (some (.int r)) S' → WS B E y cc mL rt d (pc + 3) lv (.int r :: st) S' Q) : WS B E y cc mL rt d pc lv (a2 :: a1 :: .ref (s_ad B o) :: st) S Q :=
  x_callV hsh hci h2 hm rfl hln hw hw2 hd2 rfl hst hd (fun v S' hv hq => by
    rcases hv with ⟨-, h⟩ | ⟨x, ty2, rfl, h, hn⟩
    · cases h
    · cases h; exact k x S' hn hq)
theorem x_V2v {o ci N : Nat} {T : u_T} {fl : List (Option Nat)} {a1 a2 : Value} (h2 : CS B y2 cc2 mL2 none d2 (.ref (s_ad B o) :: [a1, a2]) S Q2) (hsh : B.2.1[o]? = some (.inr (.inl (ci, fl)))) (hci : vwCl[ci]? = some (y2.cls, T, N)) (hm : sM y2 cc2 mL2 none 2) (hln : (lg_sl (.ref (s_ad B o) :: [a1, a2])).length ≤ mL2) (hw : Cond.methodLink y.cls i y2 ∈ sT) (hw2 : Cond.instanceMethod y2 ∈ sT ∧ Cond.selects y2.cls y2 y2 ∈ sT) (hd2 : d2 < d) (hst : (st.map fun v => v.category).sum ≤ 8) (hd : decode cc pc = .ok (.invokevirtual i, 3))
    (k : ∀ (S' : sSt), Q2 none S' → WS B E y cc mL rt d (pc + 3) lv st S' Q) : WS B E y cc mL rt d pc lv (a2 :: a1 :: .ref (s_ad B o) :: st) S Q :=
  x_callV hsh hci h2 hm rfl hln hw hw2 hd2 rfl hst hd (fun v S' hv hq => by
    rcases hv with ⟨rfl, -⟩ | ⟨x, ty2, -, h, -⟩
    · exact k S' hq
    · cases h)
theorem x_V3i {o ci N : Nat} {T : u_T} {fl : List (Option Nat)} {ty : FieldType} {a1 a2 a3 : Value} (h2 : CS B y2 cc2 mL2 (some ty) d2 (.ref (s_ad B o) :: [a1, a2, a3]) S Q2) (hsh : B.2.1[o]? = some (.inr (.inl (ci, fl)))) (hci : vwCl[ci]? = some (y2.cls, T, N)) (hm : sM y2 cc2 mL2 (some ty) 3) (hln : (lg_sl (.ref (s_ad B o) :: [a1, a2, a3])).length ≤ mL2) (hw : Cond.methodLink y.cls i y2 ∈ sT) (hw2 : Cond.instanceMethod y2 ∈ sT ∧ Cond.selects y2.cls y2 y2 ∈ sT) (hd2 : d2 < d) (hst : (st.map fun v => v.category).sum ≤ 8) (hd : decode cc pc = .ok (.invokevirtual i, 3))
    (k : ∀ (r : Int32) (S' : sSt), narrow ty (.int r) = .int r → Q2 (some (.int r)) S' → WS B E y cc mL rt d (pc + 3) lv (.int r :: st) S' Q) : WS B E y cc mL rt d pc lv (a3 :: a2 :: a1 :: .ref (s_ad B o) :: st) S Q :=
  x_callV hsh hci h2 hm rfl hln hw hw2 hd2 rfl hst hd (fun v S' hv hq => by
    rcases hv with ⟨-, h⟩ | ⟨x, ty2, rfl, h, hn⟩
    · cases h
    · cases h; exact k x S' hn hq)
theorem x_V3v {o ci N : Nat} {T : u_T} {fl : List (Option Nat)} {a1 a2 a3 : Value} (h2 : CS B y2 cc2 mL2 none d2 (.ref (s_ad B o) :: [a1, a2, a3]) S Q2) (hsh : B.2.1[o]? = some (.inr (.inl (ci, fl)))) (hci : vwCl[ci]? = some (y2.cls, T, N)) (hm : sM y2 cc2 mL2 none 3) (hln : (lg_sl (.ref (s_ad B o) :: [a1, a2, a3])).length ≤ mL2) (hw : Cond.methodLink y.cls i y2 ∈ sT) (hw2 : Cond.instanceMethod y2 ∈ sT ∧ Cond.selects y2.cls y2 y2 ∈ sT) (hd2 : d2 < d) (hst : (st.map fun v => v.category).sum ≤ 8) (hd : decode cc pc = .ok (.invokevirtual i, 3))
    (k : ∀ (S' : sSt), Q2 none S' → WS B E y cc mL rt d (pc + 3) lv st S' Q) : WS B E y cc mL rt d pc lv (a3 :: a2 :: a1 :: .ref (s_ad B o) :: st) S Q :=
  x_callV hsh hci h2 hm rfl hln hw hw2 hd2 rfl hst hd (fun v S' hv hq => by
    rcases hv with ⟨rfl, -⟩ | ⟨x, ty2, -, h, -⟩
    · exact k S' hq
    · cases h)
theorem x_V4i {o ci N : Nat} {T : u_T} {fl : List (Option Nat)} {ty : FieldType} {a1 a2 a3 a4 : Value} (h2 : CS B y2 cc2 mL2 (some ty) d2 (.ref (s_ad B o) :: [a1, a2, a3, a4]) S Q2) (hsh : B.2.1[o]? = some (.inr (.inl (ci, fl)))) (hci : vwCl[ci]? = some (y2.cls, T, N)) (hm : sM y2 cc2 mL2 (some ty) 4) (hln : (lg_sl (.ref (s_ad B o) :: [a1, a2, a3, a4])).length ≤ mL2) (hw : Cond.methodLink y.cls i y2 ∈ sT) (hw2 : Cond.instanceMethod y2 ∈ sT ∧ Cond.selects y2.cls y2 y2 ∈ sT) (hd2 : d2 < d) (hst : (st.map fun v => v.category).sum ≤ 8) (hd : decode cc pc = .ok (.invokevirtual i, 3))
    (k : ∀ (r : Int32) (S' : sSt), narrow ty (.int r) = .int r → Q2 (some (.int r)) S' → WS B E y cc mL rt d (pc + 3) lv (.int r :: st) S' Q) : WS B E y cc mL rt d pc lv (a4 :: a3 :: a2 :: a1 :: .ref (s_ad B o) :: st) S Q :=
  x_callV hsh hci h2 hm rfl hln hw hw2 hd2 rfl hst hd (fun v S' hv hq => by
    rcases hv with ⟨-, h⟩ | ⟨x, ty2, rfl, h, hn⟩
    · cases h
    · cases h; exact k x S' hn hq)
theorem x_V4v {o ci N : Nat} {T : u_T} {fl : List (Option Nat)} {a1 a2 a3 a4 : Value} (h2 : CS B y2 cc2 mL2 none d2 (.ref (s_ad B o) :: [a1, a2, a3, a4]) S Q2) (hsh : B.2.1[o]? = some (.inr (.inl (ci, fl)))) (hci : vwCl[ci]? = some (y2.cls, T, N)) (hm : sM y2 cc2 mL2 none 4) (hln : (lg_sl (.ref (s_ad B o) :: [a1, a2, a3, a4])).length ≤ mL2) (hw : Cond.methodLink y.cls i y2 ∈ sT) (hw2 : Cond.instanceMethod y2 ∈ sT ∧ Cond.selects y2.cls y2 y2 ∈ sT) (hd2 : d2 < d) (hst : (st.map fun v => v.category).sum ≤ 8) (hd : decode cc pc = .ok (.invokevirtual i, 3))
    (k : ∀ (S' : sSt), Q2 none S' → WS B E y cc mL rt d (pc + 3) lv st S' Q) : WS B E y cc mL rt d pc lv (a4 :: a3 :: a2 :: a1 :: .ref (s_ad B o) :: st) S Q :=
  x_callV hsh hci h2 hm rfl hln hw hw2 hd2 rfl hst hd (fun v S' hv hq => by
    rcases hv with ⟨rfl, -⟩ | ⟨x, ty2, -, h, -⟩
    · exact k S' hq
    · cases h)
theorem x_V5i {o ci N : Nat} {T : u_T} {fl : List (Option Nat)} {ty : FieldType} {a1 a2 a3 a4 a5 : Value} (h2 : CS B y2 cc2 mL2 (some ty) d2 (.ref (s_ad B o) :: [a1, a2, a3, a4, a5]) S Q2) (hsh : B.2.1[o]? = some (.inr (.inl (ci, fl)))) (hci : vwCl[ci]? = some (y2.cls, T, N)) (hm : sM y2 cc2 mL2 (some ty) 5) (hln : (lg_sl (.ref (s_ad B o) :: [a1, a2, a3, a4, a5])).length ≤ mL2) (hw : Cond.methodLink y.cls i y2 ∈ sT) (hw2 : Cond.instanceMethod y2 ∈ sT ∧ Cond.selects y2.cls y2 y2 ∈ sT) (hd2 : d2 < d) (hst : (st.map fun v => v.category).sum ≤ 8) (hd : decode cc pc = .ok (.invokevirtual i, 3))
    (k : ∀ (r : Int32) (S' : sSt), narrow ty (.int r) = .int r → Q2 (some (.int r)) S' → WS B E y cc mL rt d (pc + 3) lv (.int r :: st) S' Q) : WS B E y cc mL rt d pc lv (a5 :: a4 :: a3 :: a2 :: a1 :: .ref (s_ad B o) :: st) S Q :=
  x_callV hsh hci h2 hm rfl hln hw hw2 hd2 rfl hst hd (fun v S' hv hq => by
    rcases hv with ⟨-, h⟩ | ⟨x, ty2, rfl, h, hn⟩
    · cases h
    · cases h; exact k x S' hn hq)
theorem x_V5v {o ci N : Nat} {T : u_T} {fl : List (Option Nat)} {a1 a2 a3 a4 a5 : Value} (h2 : CS B y2 cc2 mL2 none d2 (.ref (s_ad B o) :: [a1, a2, a3, a4, a5]) S Q2) (hsh : B.2.1[o]? = some (.inr (.inl (ci, fl)))) (hci : vwCl[ci]? = some (y2.cls, T, N)) (hm : sM y2 cc2 mL2 none 5) (hln : (lg_sl (.ref (s_ad B o) :: [a1, a2, a3, a4, a5])).length ≤ mL2) (hw : Cond.methodLink y.cls i y2 ∈ sT) (hw2 : Cond.instanceMethod y2 ∈ sT ∧ Cond.selects y2.cls y2 y2 ∈ sT) (hd2 : d2 < d) (hst : (st.map fun v => v.category).sum ≤ 8) (hd : decode cc pc = .ok (.invokevirtual i, 3))
    (k : ∀ (S' : sSt), Q2 none S' → WS B E y cc mL rt d (pc + 3) lv st S' Q) : WS B E y cc mL rt d pc lv (a5 :: a4 :: a3 :: a2 :: a1 :: .ref (s_ad B o) :: st) S Q :=
  x_callV hsh hci h2 hm rfl hln hw hw2 hd2 rfl hst hd (fun v S' hv hq => by
    rcases hv with ⟨rfl, -⟩ | ⟨x, ty2, -, h, -⟩
    · exact k S' hq
    · cases h)
end XC
