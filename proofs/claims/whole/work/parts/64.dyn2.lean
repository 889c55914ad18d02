/-! CONSTRUCTORS: their contracts, their calls, and the way into the static layer -/
abbrev dRm (d mc ms : Nat) : Room := { frames := d, cells := mc, slots := ms, locals := 100 * d }
def dPre (B : sB) (E : State → Prop) (av : List Value) (ws : va_W) : Array Value → State → Prop := va_Pc av (fun U => va_P B.1.1 vwCl ws U.heap ∧ va_D B.2.2 ws ∧ sKn B U ∧ (∀ q, U.heap.size ≤ q → B.2.2 q) ∧ E U ∧ va_AO RX0 U)
def dQ (B : sB) (Q : va_W → Prop) : Array Value → State → Outcome → State → Prop := fun _ st oc t => (oc = .returned none ∧ ∃ ws', Q ws' ∧ va_P B.1.1 vwCl ws' t.heap ∧ va_D B.2.2 ws') ∧ va_F B.2.2 st t
theorem d_met {B : sB} {E : State → Prop} {y : MethodName} {cc : ByteArray} {mL d mc ms : Nat} {av : List Value} {ws : va_W} {Q : va_W → Prop} (l : Launch) (hpl : plainName y.cls = true) (hyn : y.name = "<init>") (hln : (lg_sl av).length ≤ mL) (h : DS B E y cc mL d mc ms 0 (lv_args 0 av) [] 0 0 ws Q) :
    Met l y (Cond.code y cc mL none :: sT) (dRm d mc ms) (dPre B E av ws) (dQ B Q) mc ms B.2.2 := by
  refine Met.ofW (cc := cc) (maxL := mL) (ret := none) hpl rfl ?_
  intro p e s m args below meth c s₁ Bd hml hv
  obtain ⟨rfl, hP, hD, hK, hA, hE, hO⟩ := hv
  have hts := atoms_spec (ws := Cond.code y cc mL none :: sT) Bd.pre
  have hown : s.vm.findClass y.cls = some m.cls := findClass_of_methodNamed Bd.named
  have hl := lv_entry av (n := mL) hln
  have hnm : meth.name = "<init>" := (name_of_methodNamed Bd.named Bd.method).1.trans hyn
  rw [lg_entry_eq]
  refine h p l e _ s m av.toArray below meth c ⟨Bd.exec, Bd.bytes, hml, Bd.returns, Bd.notSynchronized, hown, fun w hw => hts w (List.mem_cons_of_mem _ hw), Nat.le_refl _, Nat.le_refl _, hK, hA, hE, hnm, ⟨Nat.le_refl _, Nat.le_refl _⟩, hO⟩ s.heap [] _ _ hP hD va_S.rf hl ⟨Nat.zero_le _, Nat.zero_le _⟩ ?_
  intro ws' H' locs' pc' ls' hq hP' hD' hS' hdd
  have hlocks := Bd.notSynchronized
  exact W.vret Bd.exec Bd.bytes Bd.returns (fun t ht hW => ⟨⟨rfl, ws', hq, by rw [ht]; exact hP', hD'⟩, hS'.F ht⟩) hS'.2.2 hdd
theorem dPre_blind {B : sB} {E : State → Prop} (hE : ∀ (U : State) (g : JFrame) (mk : MethodId) (a : Array Value), E U → E (U.calling g mk a)) {av : List Value} {ws : va_W} : FrameBlind (dPre B E av ws) := by
  intro a U g mk h
  obtain ⟨h1, h2, h3, h4, h5, h6, h7⟩ := h
  exact ⟨h1, h2, h3, sKn_same (s := U) (U := U.calling g mk a) rfl h4, h5, hE U g mk a h6, va_AO.moved (u := U) (U := U.calling g mk a) (Vm.Alike.refl U.vm) h7⟩
section DC
variable {B : sB} {E : State → Prop} {y y2 : MethodName} {cc cc2 : ByteArray} {mL mL2 d d2 cm sm pc i n mc ms h : Nat} {lv : List (Nat × Value)} {st stk av : List Value} {cu su : Nat} {ws : va_W} {Q Q2 : va_W → Prop}
theorem d_run {p : Program} {l : Launch} {e : Env} {R : Room} {s : State} {m : MethodId} {args : Array Value} {below : List Frame} {meth : Method} {c : Code} {a : Array Value} {ls : Array Slot} {H : Heap} {locs : List Loc} {QQ : State → Prop}
    (C : dCtx B E y cc mL d cm sm p R s m args meth c) (hS : va_S B.2.2 s.heap H locs) (hl : lv_has ls mL lv) (hc : cu + mc ≤ cm ∧ su + ms ≤ sm)
    (hr : va_Run p l e R s m args below meth c H locs cu su mc ms (F0 m pc ls stk) st (dQ B Q2 a) B.2.2)
    (fin : ∀ (ws' : va_W) (H' : Heap) (locs' : List Loc) (pc' : Nat) (ls' : Array Slot), Q ws' → va_P B.1.1 vwCl ws' H' → va_D B.2.2 ws' → va_S B.2.2 s.heap H' locs' → decode cc pc' = .ok (.return_, 1) → W p l e R s m args below meth c H' locs' cm sm QQ (F0 m pc' ls' []))
    (k : ∀ ws', Q2 ws' → DS B E y cc mL d cm sm (pc + 3) lv st (cu + mc) (su + ms) ws' Q) :
    W p l e R s m args below meth c H locs cu su QQ (F0 m pc ls stk) := by
  intro T hT X
  obtain ⟨v, st₀, t, T', L, h0, X', hL, e1, e2, ⟨⟨hv, ws', hq, hP', hD'⟩, hz, hk⟩, stp⟩ := hr T hT X
  cases hv
  rw [h0] at hz hk
  have hS' : va_S B.2.2 s.heap T'.heap (locs ++ L) := ⟨Nat.le_trans hS.1 (by rw [e1]; exact hz), fun q h1 h2 => by rw [e1, hk q (Nat.lt_of_lt_of_le h1 hS.1) h2]; exact hS.2.1 q h1 h2, fun q hq => by
      rcases List.mem_append.mp hq with h | h
      · exact hS.2.2 q h
      · exact hL q h⟩
  obtain ⟨t2, a1, b1⟩ := k ws' hq p l e R s m args below meth c C T'.heap (locs ++ L) ls QQ (by rw [e1]; exact hP') hD' hS' hl hc fin T' rfl X'
  exact ⟨t2, stp t2 a1, b1⟩
theorem d_pre {s U : State} {R : Room} {p : Program} {m : MethodId} {args : Array Value} {meth : Method} {c : Code} {H : Heap} {locs : List Loc} (C : dCtx B E y cc mL d cm sm p R s m args meth c) (hP : va_P B.1.1 vwCl ws H) (hD : va_D B.2.2 ws) (hS : va_S B.2.2 s.heap H locs) (hU : U.heap = H) (hW : s.WarmedH U.vm) : dPre B (fun _ => True) av ws av.toArray U :=
  ⟨rfl, by rw [hU]; exact hP, hD, sKn_moved hW C.2.2.2.2.2.2.2.2.2.1, fun q hq => C.2.2.2.2.2.2.2.2.2.2.1 q (Nat.le_trans hS.1 (by rw [← hU]; exact hq)), trivial, va_AO.moved hW.alike C.2.2.2.2.2.2.2.2.2.2.2.2.2.2⟩
theorem d_callI (h2 : DS B (fun _ => True) y2 cc2 mL2 d2 mc ms 0 (lv_args 0 (.ref h :: av)) [] 0 0 ws Q2) (hm : sM y2 cc2 mL2 none n) (hlen : av.length = n) (hln : (lg_sl (.ref h :: av)).length ≤ mL2) (hyn : y2.name = "<init>") (hw : Cond.methodLink y.cls i y2 ∈ sT) (hw2 : Cond.instanceMethod y2 ∈ sT) (hd2 : d2 < d) (hcu : cu + mc ≤ cm) (hsu : su + ms ≤ sm) (hstk : stk = av.reverse ++ .ref h :: st) (hst : (st.map fun v => v.category).sum ≤ 8) (hd : decode cc pc = .ok (.invokespecial i, 3))
    (k : ∀ ws', Q2 ws' → DS B E y cc mL d cm sm (pc + 3) lv st (cu + mc) (su + ms) ws' Q) : DS B E y cc mL d cm sm pc lv stk cu su ws Q := by
  intro p l e R s m args below meth c C H locs ls QQ hP hD hS hl hc fin
  have hts := C.2.2.2.2.2.2.1
  have hr := C.2.2.2.2.2.2.2.2.2.2.2.2.2.1
  exact d_run C hS hl ⟨hcu, hsu⟩ (va_runI (As := av) (Ts := sT) (n := n) ⟨C.1, C.2.1, C.2.2.1, C.2.2.2.2.2.1, hts⟩ (d_met l hm.2.2.2.1 hyn hln h2) ⟨callB_of n hts (sT_goodIn hm.1) rfl rfl rfl (hts _ hm.2.1) (hts _ hw) hm.2.2.1 ⟨by have := C.2.2.2.2.2.2.2.1; show d2 + 1 ≤ R.frames; omega, by have := C.2.2.2.2.2.2.2.2.1; have := hm.2.2.2.2; show 8 + (mL2 + 11) + 100 * d2 ≤ R.locals; omega⟩, hyn, hts _ hw2⟩ ⟨dPre_blind (fun _ _ _ _ _ => trivial), fun U hU hW => d_pre C hP hD hS hU hW⟩ rfl hlen hl.1 hstk (lv_room hst) hd ⟨Nat.le_trans hcu hr.1, Nat.le_trans hsu hr.2⟩) fin k
theorem d_callIN {host : String} (h2 : DS B (fun _ => True) y2 cc2 mL2 d2 mc ms 0 (lv_args 0 (.ref h :: av)) [] 0 0 ws Q2) (hm : sM y2 cc2 mL2 none n) (hlen : av.length = n) (hln : (lg_sl (.ref h :: av)).length ≤ mL2) (hyn : y2.name = "<init>") (hw : Cond.methodLinkNest y.cls i y2 host ∈ sNw) (hw2 : Cond.instanceMethod y2 ∈ sT) (hd2 : d2 < d) (hcu : cu + mc ≤ cm) (hsu : su + ms ≤ sm) (hstk : stk = av.reverse ++ .ref h :: st) (hst : (st.map fun v => v.category).sum ≤ 8) (hd : decode cc pc = .ok (.invokespecial i, 3))
    (k : ∀ ws', Q2 ws' → DS B E y cc mL d cm sm (pc + 3) lv st (cu + mc) (su + ms) ws' Q) : DS B E y cc mL d cm sm pc lv stk cu su ws Q := by
  intro p l e R s m args below meth c C H locs ls QQ hP hD hS hl hc fin
  have hts := C.2.2.2.2.2.2.1
  have hr := C.2.2.2.2.2.2.2.2.2.2.2.2.2.1
  exact d_run C hS hl ⟨hcu, hsu⟩ (va_runIN (As := av) (Ts := sT) (n := n) ⟨C.1, C.2.1, C.2.2.1, C.2.2.2.2.2.1, hts⟩ (d_met l hm.2.2.2.1 hyn hln h2) ⟨va_cnB n hts (sT_goodIn hm.1) rfl rfl rfl (C.2.2.2.2.2.2.2.2.2.1.2 _ hw) (hts _ hm.2.1) hm.2.2.1 ⟨by have := C.2.2.2.2.2.2.2.1; show d2 + 1 ≤ R.frames; omega, by have := C.2.2.2.2.2.2.2.2.1; have := hm.2.2.2.2; show 8 + (mL2 + 11) + 100 * d2 ≤ R.locals; omega⟩, hyn, hts _ hw2⟩ ⟨dPre_blind (fun _ _ _ _ _ => trivial), fun U hU hW => d_pre C hP hD hS hU hW⟩ rfl hlen hl.1 hstk (lv_room hst) hd ⟨Nat.le_trans hcu hr.1, Nat.le_trans hsu hr.2⟩) fin k
theorem sAp_of {B2 : sB} {S : sSt} (h : va_D B2.2.2 (s_w B2 S)) : sAp B2 := by
  have g : ∀ i, i < B2.2.1.length → ∃ x, (s_w B2 S)[i]? = some (B2.1.2.1 i, x) := fun i hi => ⟨_, s_w_get (List.getElem?_eq_getElem hi)⟩
  refine ⟨fun i j hi hj e => ?_, fun k hk => ?_⟩
  · obtain ⟨x, hx⟩ := g i hi
    obtain ⟨z, hz⟩ := g j hj
    exact h.1 i j _ _ hx hz e
  · obtain ⟨x, hx⟩ := g k hk
    exact h.2 k _ hx
/-- the world is whole: the rest is walked in the static layer -/
theorem d_static {ad : Nat → Nat} {sh : List sShp} {S : sSt} (hws : ws = s_w ((B.1.1, ad, B.1.2.2), sh, B.2.2) S) (h : WS ((B.1.1, ad, B.1.2.2), sh, B.2.2) E y cc mL none d pc lv st S (fun v S1 => v = none ∧ Q (s_w ((B.1.1, ad, B.1.2.2), sh, B.2.2) S1))) : DS B E y cc mL d cm sm pc lv st cu su ws Q := by
  intro p l e R s m args below meth c C H locs ls QQ hP hD hS hl hc fin
  subst hws
  have hr := C.2.2.2.2.2.2.2.2.2.2.2.2.2.1
  have hap : sAp ((B.1.1, ad, B.1.2.2), sh, B.2.2) := sAp_of hD
  refine h p l e R s m args below meth c ⟨C.1, C.2.1, C.2.2.1, C.2.2.2.1, C.2.2.2.2.1, C.2.2.2.2.2.1, C.2.2.2.2.2.2.1, C.2.2.2.2.2.2.2.1, C.2.2.2.2.2.2.2.2.1, C.2.2.2.2.2.2.2.2.2.1, hap, C.2.2.2.2.2.2.2.2.2.2.2.1⟩ H locs cu su ls QQ hP hS hl ⟨Nat.le_trans hc.1 hr.1, Nat.le_trans hc.2 hr.2⟩ (fun v S' H' locs' pc' ls' hq hP' hS' hend => ?_)
  obtain ⟨rfl, hq⟩ := hq
  rcases hend with ⟨-, -, hdd⟩ | ⟨x, ty, h1, -⟩
  · exact W.widen hc.1 hc.2 (fin _ H' locs' pc' ls' hq hP' (s_w_D hap S') hS' hdd)
  · cases h1
end DC
