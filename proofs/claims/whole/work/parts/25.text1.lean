def figI (t : Nat → Nat) (L p f v : Nat) : Prop := (f = 0 ∧ v = 0) ∨ (f = 1 ∧ dgt t L p = true ∧ v = t p - 48) ∨ (f = 2 ∧ dgt t L p = true ∧ dgt t L (p + 1) = true ∧ v = (t p - 48) * 10 + (t (p + 1) - 48))
theorem fig_done {t : Nat → Nat} {L p f v : Nat} (h : figI t L p f v) (h2 : f = 2 ∨ dgt t L (p + f) = false) : fig t L p = f ∧ vlu t L p = v := by
  rcases h with ⟨rfl, rfl⟩ | ⟨rfl, h1, rfl⟩ | ⟨rfl, h1, h3, rfl⟩
  · rcases h2 with h2 | h2
    · cases h2
    · simp only [Nat.add_zero] at h2; simp [fig, vlu, h2]
  · rcases h2 with h2 | h2
    · cases h2
    · simp [fig, vlu, h1, h2]
  · simp [fig, vlu, h1, h3]
theorem dgt_le {t : Nat → Nat} {L p : Nat} (h : dgt t L p = true) : p < L ∧ 48 ≤ t p ∧ t p ≤ 57 := by
  simpa [dgt] using h
theorem figI_step {t : Nat → Nat} {L p f v : Nat} (h : figI t L p f v) (h2 : f < 2) (h3 : dgt t L (p + f) = true) : figI t L p (f + 1) (v * 10 + (t (p + f) - 48)) := by
  rcases h with ⟨rfl, rfl⟩ | ⟨rfl, h1, rfl⟩ | ⟨rfl, h1, h3, rfl⟩
  · exact Or.inr (Or.inl ⟨rfl, h3, by simp⟩)
  · exact Or.inr (Or.inr ⟨rfl, h1, h3, rfl⟩)
  · omega
theorem figI_v {t : Nat → Nat} {L p f v : Nat} (h : figI t L p f v) : v ≤ 99 := by
  rcases h with ⟨rfl, rfl⟩ | ⟨rfl, h1, rfl⟩ | ⟨rfl, h1, h3, rfl⟩
  · omega
  · have := dgt_le h1; omega
  · have := dgt_le h1; have := dgt_le h3; omega
theorem fig_le {t : Nat → Nat} {L p : Nat} (h : p ≤ L) : p + fig t L p ≤ L := by
  unfold fig
  split
  · rename_i h1
    have := dgt_le h1
    split
    · rename_i h2; have := dgt_le h2; omega
    · omega
  · omega
theorem vlu_le (t : Nat → Nat) (L p : Nat) : vlu t L p ≤ 99 := by
  unfold vlu
  split
  · rename_i h1
    have := dgt_le h1
    split
    · rename_i h2; have := dgt_le h2; omega
    · omega
  · omega
theorem rdU_le {t : Nat → Nat} {L w : Nat} : ∀ {k i p : Nat} {vs : Nat → Nat} {q : Nat} {us : Nat → Nat}, p ≤ L → (∀ j, vs j ≤ 99) → rdU t L w k i p vs = some (q, us) → p ≤ q ∧ q ≤ L ∧ ∀ j, us j ≤ 99 := by
  intro k; induction k with
  | zero => intro i p vs q us h1 h2 h; cases h; exact ⟨Nat.le_refl _, h1, h2⟩
  | succ k ih =>
    intro i p vs q us h1 h2 h
    rw [rdU] at h
    generalize (if i + 1 = w then 59 else 44) = sg at h
    split at h
    · cases h
    · split at h
      · rename_i hs
        have hlt : p + fig t L p < L := by have := hs; simp [sgn] at this; omega
        obtain ⟨a1, a2, a3⟩ := ih (by omega) (fun j => by unfold updN; split; exact vlu_le t L p; exact h2 j) h
        exact ⟨by omega, a2, a3⟩
      · cases h
def itmK (t : Nat → Nat) (L w c : Nat) (d : aD) (k i p : Nat) (vs : Nat → Nat) : Option (Nat × aD) := (rdU t L w k i p vs).bind (fun x => (telF c x.2 d).map (fun d' => (x.1, d')))
theorem itmF_K (t : Nat → Nat) (L p : Nat) (d : aD) : itmF t L p d = itmK t L (nbh (t p)) (t p) d (nbh (t p)) 0 (p + 1) (fun _ => 0) := by
  unfold itmF itmK
  cases h : rdU t L (nbh (t p)) (nbh (t p)) 0 (p + 1) (fun _ => 0) with
  | none => rfl
  | some x => rfl
theorem vpn_char {c : Nat} (h : c < 65536) : vp_nar .char (nI c) = nI c := by
  unfold vp_nar; rw [(pk_charN h).1]

set_option maxHeartbeats 1000000 in
set_option maxRecDepth 20000 in
theorem c_length {B : sB} {S : sSt} {tx L : Nat} {t : Nat → Nat} (ht : shT B tx) (hT : rT S tx t L) : CS B yX5_length cX5_length 1 (some .int) 1 [.ref (s_ad B tx)] S (qI (nI L) S) := by
  refine cs_intro (lv := [(0, .ref (s_ad B tx))]) rfl ?_
  obtain ⟨ht0, ht1, ht2⟩ := ht
  refine x_aload_n dX5_length_0 rfl rfl ?_
  refine gX5_19 dX5_length_1 rfl (by assumption) rfl ?_
  refine x_ireturn dX5_length_4 rfl rfl ?_
  exact qI_of hT.2.1 rfl

set_option maxHeartbeats 1000000 in
set_option maxRecDepth 20000 in
theorem c_clear {B : sB} {S : sSt} {tx L : Nat} {t : Nat → Nat} (ht : shT B tx) (hT : rT S tx t L) : CS B yX5_clear cX5_clear 1 none 1 [.ref (s_ad B tx)] S (fun v S1 => v = none ∧ rT S1 tx t 0 ∧ ∀ a, a ≠ tx → S1 a = S a) := by
  refine cs_intro (lv := [(0, .ref (s_ad B tx))]) rfl ?_
  obtain ⟨ht0, ht1, ht2⟩ := ht
  refine x_aload_n dX5_clear_0 rfl rfl ?_
  refine x_iconst (v := 0) dX5_clear_1 (by decide) ?_
  refine pX5_19 dX5_clear_2 rfl (by assumption) rfl ?_
  refine x_return dX5_clear_5 rfl ?_
  refine ⟨rfl, ⟨by decide, by simp [s_put]; decide, fun i hi => absurd hi (Nat.not_lt_zero i)⟩, fun a ha => s_put_ne ha⟩

set_option maxHeartbeats 1000000 in
set_option maxRecDepth 20000 in
theorem c_add {B : sB} {S : sSt} {tx L : Nat} {t : Nat → Nat} {c : Nat} (ht : shT B tx) (hT : rT S tx t L) (hc : c ≤ 126) : CS B yX5_add cX5_add 2 (some .boolean) 1 [.ref (s_ad B tx), .int (nI c)] S (fun v S1 => v = some (.int (bI (L < 200))) ∧ rT S1 tx (if L < 200 then updN t L c else t) (if L < 200 then L + 1 else L) ∧ ∀ a, a ≠ tx → a ≠ tx + 1 → S1 a = S a) := by
  refine cs_intro (lv := [(0, .ref (s_ad B tx)), (1, .int (nI c))]) rfl ?_
  obtain ⟨ht0, ht1, ht2⟩ := ht
  obtain ⟨g1, g2, g3⟩ := id hT
  refine x_aload_n dX5_add_0 rfl rfl ?_
  refine gX5_19 dX5_add_1 rfl (by assumption) rfl ?_
  rw [g2]
  refine x_sipush (v := 200) dX5_add_4 (by decide) ?_
  refine x_icmp_lt (tgt := 12) dX5_add_7 (by decide) (fun c_7 => ?_) (fun c_7 => ?_)
  · have hL : L < 200 := by
      rcases Nat.lt_or_ge L 200 with h | h
      · exact h
      · exact absurd c_7 (nI_nlt (b := 200) h (by omega))
    refine x_aload_n dX5_add_12 rfl rfl ?_
    refine gX5_9 dX5_add_13 rfl (by assumption) rfl ?_
    refine x_aload_n dX5_add_16 rfl rfl ?_
    refine gX5_19 dX5_add_17 rfl (by assumption) rfl ?_
    rw [g2]
    refine x_iload_n dX5_add_20 rfl rfl ?_
    refine x_castrN (by assumption) dX5_add_21 hL (by decide) ?_
    rw [vpn_char (by omega)]
    refine x_aload_n dX5_add_22 rfl rfl ?_
    refine x_dup dX5_add_23 rfl ?_
    refine gX5_19 dX5_add_24 rfl (by assumption) rfl ?_
    rw [show s_put S (tx + 1) L (nI c) tx 2 = nI L from by rw [s_put_ne (by omega)]; exact g2]
    refine x_iconst (v := 1) dX5_add_27 (by decide) ?_
    refine x_iadd dX5_add_28 ?_
    refine pX5_19 dX5_add_29 rfl (by assumption) rfl ?_
    refine x_iconst (v := 1) dX5_add_32 (by decide) ?_
    refine x_ireturn dX5_add_33 rfl (by first | rfl | exact bI_nar _) ?_
    refine ⟨by simp [bI, hL], ?_, fun a h1 h2 => by rw [s_put_ne h1, s_put_ne h2]⟩
    simp only [if_pos hL]
    refine ⟨hL, by rw [s_put_eq, if_pos rfl]; exact nI_1 L, fun i hi => ?_⟩
    rw [s_put_ne (by omega), s_put_eq]
    unfold updN
    by_cases hi2 : i = L
    · rw [if_pos hi2, if_pos hi2]; exact ⟨rfl, hc⟩
    · rw [if_neg hi2, if_neg hi2]; exact g3 i (by omega)
  · have hL : ¬ L < 200 := fun h => c_7 (nI_lt (b := 200) h (by decide))
    refine x_iconst (v := 0) dX5_add_10 (by decide) ?_
    refine x_ireturn dX5_add_11 rfl (by first | rfl | exact bI_nar _) ?_
    exact ⟨by simp [bI, hL], by simp only [if_neg hL]; exact hT, fun a _ _ => rfl⟩

set_option maxHeartbeats 1000000 in
set_option maxRecDepth 20000 in
theorem c_numbersBehind {B : sB} {S : sSt} {c : Nat} (hc : c ≤ 126) : CS B yX5_numbersBehind cX5_numbersBehind 1 (some .int) 1 [.int (nI c)] S (qI (nI (nbh c)) S) := by
  refine cs_intro (lv := [(0, .int (nI c))]) rfl ?_
  refine x_iload_n dX5_numbersBehind_0 rfl rfl ?_
  by_cases w_103 : nI c = 103
  · refine x_tableIn (tgt := 46) dX5_numbersBehind_1 (by rw [w_103]; decide) (by rw [w_103]; decide) (by rw [w_103]; rfl) (by decide) ?_
    refine x_iconst (v := 3) dX5_numbersBehind_46 (by decide) ?_
    refine x_ireturn dX5_numbersBehind_47 rfl rfl ?_
    refine qI_of ?_ rfl
    have e : c = 103 := (nI_eq (b := 103) (by omega) (by decide)).mp w_103
    subst e; rfl
  by_cases w_104 : nI c = 104
  · refine x_tableIn (tgt := 44) dX5_numbersBehind_1 (by rw [w_104]; decide) (by rw [w_104]; decide) (by rw [w_104]; rfl) (by decide) ?_
    refine x_iconst (v := 2) dX5_numbersBehind_44 (by decide) ?_
    refine x_ireturn dX5_numbersBehind_45 rfl rfl ?_
    refine qI_of ?_ rfl
    have e : c = 104 := (nI_eq (b := 104) (by omega) (by decide)).mp w_104
    subst e; rfl
  by_cases w_105 : nI c = 105
  · refine x_tableIn (tgt := 48) dX5_numbersBehind_1 (by rw [w_105]; decide) (by rw [w_105]; decide) (by rw [w_105]; rfl) (by decide) ?_
    refine x_iconst (v := 0) dX5_numbersBehind_48 (by decide) ?_
    refine x_ireturn dX5_numbersBehind_49 rfl rfl ?_
    first
    | (refine qI_of ?_ rfl; have e : c = 105 := (nI_eq (b := 105) (by omega) (by decide)).mp w_105; subst e; rfl)
    | (refine qI_of ?_ rfl; have e : c = 106 := (nI_eq (b := 106) (by omega) (by decide)).mp w_106; subst e; rfl)
    | (refine qI_of ?_ rfl
       have e3 : c ≠ 103 := fun q => by subst q; exact absurd rfl w_103
       have e4 : c ≠ 104 := fun q => by subst q; exact absurd rfl w_104
       have e7 : c ≠ 107 := fun q => by subst q; exact absurd rfl w_107
       have e8 : c ≠ 108 := fun q => by subst q; exact absurd rfl w_108
       simp [nbh, e3, e4, e7, e8]; decide)
  by_cases w_106 : nI c = 106
  · refine x_tableIn (tgt := 48) dX5_numbersBehind_1 (by rw [w_106]; decide) (by rw [w_106]; decide) (by rw [w_106]; rfl) (by decide) ?_
    refine x_iconst (v := 0) dX5_numbersBehind_48 (by decide) ?_
    refine x_ireturn dX5_numbersBehind_49 rfl rfl ?_
    first
    | (refine qI_of ?_ rfl; have e : c = 105 := (nI_eq (b := 105) (by omega) (by decide)).mp w_105; subst e; rfl)
    | (refine qI_of ?_ rfl; have e : c = 106 := (nI_eq (b := 106) (by omega) (by decide)).mp w_106; subst e; rfl)
    | (refine qI_of ?_ rfl
       have e3 : c ≠ 103 := fun q => by subst q; exact absurd rfl w_103
       have e4 : c ≠ 104 := fun q => by subst q; exact absurd rfl w_104
       have e7 : c ≠ 107 := fun q => by subst q; exact absurd rfl w_107
       have e8 : c ≠ 108 := fun q => by subst q; exact absurd rfl w_108
       simp [nbh, e3, e4, e7, e8]; decide)
  by_cases w_107 : nI c = 107
  · refine x_tableIn (tgt := 42) dX5_numbersBehind_1 (by rw [w_107]; decide) (by rw [w_107]; decide) (by rw [w_107]; rfl) (by decide) ?_
    refine x_iconst (v := 1) dX5_numbersBehind_42 (by decide) ?_
    refine x_ireturn dX5_numbersBehind_43 rfl rfl ?_
    refine qI_of ?_ rfl
    have e : c = 107 := (nI_eq (b := 107) (by omega) (by decide)).mp w_107
    subst e; rfl
  by_cases w_108 : nI c = 108
  · refine x_tableIn (tgt := 40) dX5_numbersBehind_1 (by rw [w_108]; decide) (by rw [w_108]; decide) (by rw [w_108]; rfl) (by decide) ?_
    refine x_iconst (v := 1) dX5_numbersBehind_40 (by decide) ?_
    refine x_ireturn dX5_numbersBehind_41 rfl rfl ?_
    refine qI_of ?_ rfl
    have e : c = 108 := (nI_eq (b := 108) (by omega) (by decide)).mp w_108
    subst e; rfl
  refine x_tableOut (tgt := 48) dX5_numbersBehind_1 (by have z0 := sw_ne (n := 103) (by decide) w_103; have z1 := sw_ne (n := 104) (by decide) w_104; have z2 := sw_ne (n := 105) (by decide) w_105; have z3 := sw_ne (n := 106) (by decide) w_106; have z4 := sw_ne (n := 107) (by decide) w_107; have z5 := sw_ne (n := 108) (by decide) w_108; omega) (by decide) ?_
  refine x_iconst (v := 0) dX5_numbersBehind_48 (by decide) ?_
  refine x_ireturn dX5_numbersBehind_49 rfl rfl ?_
  first
  | (refine qI_of ?_ rfl; have e : c = 105 := (nI_eq (b := 105) (by omega) (by decide)).mp w_105; subst e; rfl)
  | (refine qI_of ?_ rfl; have e : c = 106 := (nI_eq (b := 106) (by omega) (by decide)).mp w_106; subst e; rfl)
  | (refine qI_of ?_ rfl
     have e3 : c ≠ 103 := fun q => by subst q; exact absurd rfl w_103
     have e4 : c ≠ 104 := fun q => by subst q; exact absurd rfl w_104
     have e7 : c ≠ 107 := fun q => by subst q; exact absurd rfl w_107
     have e8 : c ≠ 108 := fun q => by subst q; exact absurd rfl w_108
     simp [nbh, e3, e4, e7, e8]; decide)

set_option maxHeartbeats 1000000 in
set_option maxRecDepth 20000 in
theorem l_readNumber {B : sB} {S : sSt} {tx L : Nat} {t : Nat → Nat} {p n : Nat} (ht : shT B tx) (hT : rT S tx t L) (hp : p ≤ L) (hn : n < 3) :
    ∀ (k f v : Nat) (S0 : sSt), f + k = 2 → figI t L p f v → frT S S0 tx → S0 tx 3 = nI (p + f) → (∀ j, j ≠ n → S0 (tx + 2) j = S (tx + 2) j) → WS B (fun _ => True) yX5_readNumber cX5_readNumber 4 (some .boolean) 2 4 [(3, .int (nI f)), (2, .int (nI v)), (0, .ref (s_ad B tx)), (1, .int (nI n))] [] S0 (fun u S1 => u = some (.int (bI (fig t L p ≠ 0))) ∧ frT S S1 tx ∧ S1 tx 3 = nI (p + fig t L p) ∧ S1 (tx + 2) n = nI (vlu t L p) ∧ ∀ j, j ≠ n → S1 (tx + 2) j = S (tx + 2) j) := by
  obtain ⟨ht0, ht1, ht2⟩ := ht
  intro k
  induction k with
  | zero =>
    intro f v S0 hfk hI hf hat hk
    refine x_iload_n dX5_readNumber_4 rfl rfl ?_
    refine x_iconst (v := 2) dX5_readNumber_5 (by decide) ?_
    refine x_icmp_ge (tgt := 73) dX5_readNumber_6 (by decide) (fun c_6 => ?_) (fun c_6 => ?_)
    · have hdone := fig_done hI (Or.inl (by omega))
      refine x_aload_n dX5_readNumber_73 rfl rfl ?_
      refine gX5_15 dX5_readNumber_74 rfl (by assumption) rfl ?_
      refine x_iload_n dX5_readNumber_77 rfl rfl ?_
      refine x_iload_n dX5_readNumber_78 rfl rfl ?_
      first | refine x_iastN (by assumption) dX5_readNumber_79 (by omega) (by decide) ?_ | refine x_iast (by assumption) dX5_readNumber_79 (by assumption) ?_
      refine x_iload_n dX5_readNumber_80 rfl rfl ?_
      refine x_if_le (tgt := 88) dX5_readNumber_81 (by decide) (fun c_81 => ?_) (fun c_81 => ?_)
      · refine x_iconst (v := 0) dX5_readNumber_88 (by decide) ?_
        refine x_ireturn dX5_readNumber_89 rfl (by first | rfl | exact bI_nar _) ?_
        refine ⟨?_, ⟨fun a h1 h2 => by rw [s_put_ne h2]; exact hf.1 a h1 h2, by rw [s_put_ne (by omega)]; exact hf.2⟩, ?_, ?_, fun j hj => ?_⟩
        · rw [hdone.1]
          first
          | exact congrArg (fun z => some (Value.int z)) (bI_f (fun h => absurd c_81 (nI_nle (by omega) (by omega))))
          | exact congrArg (fun z => some (Value.int z)) (bI_t (fun h => by subst h; exact absurd (by decide) c_81))
        · rw [s_put_ne (by omega), hdone.1]; exact hat
        · rw [s_put_eq, if_pos rfl, hdone.2]
        · rw [s_put_eq, if_neg hj]; exact hk j hj
      · refine x_iconst (v := 1) dX5_readNumber_84 (by decide) ?_
        refine x_goto (tgt := 89) dX5_readNumber_85 (by decide) ?_
        refine x_ireturn dX5_readNumber_89 rfl (by first | rfl | exact bI_nar _) ?_
        refine ⟨?_, ⟨fun a h1 h2 => by rw [s_put_ne h2]; exact hf.1 a h1 h2, by rw [s_put_ne (by omega)]; exact hf.2⟩, ?_, ?_, fun j hj => ?_⟩
        · rw [hdone.1]
          first
          | exact congrArg (fun z => some (Value.int z)) (bI_f (fun h => absurd c_81 (nI_nle (by omega) (by omega))))
          | exact congrArg (fun z => some (Value.int z)) (bI_t (fun h => by subst h; exact absurd (by decide) c_81))
        · rw [s_put_ne (by omega), hdone.1]; exact hat
        · rw [s_put_eq, if_pos rfl, hdone.2]
        · rw [s_put_eq, if_neg hj]; exact hk j hj
    · exact absurd (by rw [show f = 2 by omega]; decide) c_6
  | succ k ih =>
    intro f v S0 hfk hI hf hat hk
    have hT0 := rT_fr hf hT
    have h126 := fun i hi => (hT0.2.2 i hi).2
    have hv9 := figI_v hI
    have hL2 := hT0.1
    have hb6 : t (p + f) < 2 ^ 31 ∨ L ≤ p + f := by
      rcases Nat.lt_or_ge (p + f) L with h | h
      · have := h126 _ h; omega
      · exact Or.inr h
    refine x_iload_n dX5_readNumber_4 rfl rfl ?_
    refine x_iconst (v := 2) dX5_readNumber_5 (by decide) ?_
    refine x_icmp_ge (tgt := 73) dX5_readNumber_6 (by decide) (fun c_6 => ?_) (fun c_6 => ?_)
    · exact absurd c_6 (by exact nI_ge (b := 2) (by omega) (by decide))
    · refine x_aload_n dX5_readNumber_9 rfl rfl ?_
      refine gX5_28 dX5_readNumber_10 rfl (by assumption) rfl ?_
      refine x_aload_n dX5_readNumber_13 rfl rfl ?_
      refine gX5_19 dX5_readNumber_14 rfl (by assumption) rfl ?_
      rw [hat, hT0.2.1]
      refine x_icmp_ge (tgt := 73) dX5_readNumber_17 (by decide) (fun c_17 => ?_) (fun c_17 => ?_)
      · have hdone := fig_done hI (Or.inr (by
          have : ¬ p + f < L := fun h => absurd c_17 (nI_ge h (by have := hT0.1; omega))
          simp [dgt, this]))
        refine x_aload_n dX5_readNumber_73 rfl rfl ?_
        refine gX5_15 dX5_readNumber_74 rfl (by assumption) rfl ?_
        refine x_iload_n dX5_readNumber_77 rfl rfl ?_
        refine x_iload_n dX5_readNumber_78 rfl rfl ?_
        first | refine x_iastN (by assumption) dX5_readNumber_79 (by omega) (by decide) ?_ | refine x_iast (by assumption) dX5_readNumber_79 (by assumption) ?_
        refine x_iload_n dX5_readNumber_80 rfl rfl ?_
        refine x_if_le (tgt := 88) dX5_readNumber_81 (by decide) (fun c_81 => ?_) (fun c_81 => ?_)
        · refine x_iconst (v := 0) dX5_readNumber_88 (by decide) ?_
          refine x_ireturn dX5_readNumber_89 rfl (by first | rfl | exact bI_nar _) ?_
          refine ⟨?_, ⟨fun a h1 h2 => by rw [s_put_ne h2]; exact hf.1 a h1 h2, by rw [s_put_ne (by omega)]; exact hf.2⟩, ?_, ?_, fun j hj => ?_⟩
          · rw [hdone.1]
            first
            | exact congrArg (fun z => some (Value.int z)) (bI_f (fun h => absurd c_81 (nI_nle (by omega) (by omega))))
            | exact congrArg (fun z => some (Value.int z)) (bI_t (fun h => by subst h; exact absurd (by decide) c_81))
          · rw [s_put_ne (by omega), hdone.1]; exact hat
          · rw [s_put_eq, if_pos rfl, hdone.2]
          · rw [s_put_eq, if_neg hj]; exact hk j hj
        · refine x_iconst (v := 1) dX5_readNumber_84 (by decide) ?_
          refine x_goto (tgt := 89) dX5_readNumber_85 (by decide) ?_
          refine x_ireturn dX5_readNumber_89 rfl (by first | rfl | exact bI_nar _) ?_
          refine ⟨?_, ⟨fun a h1 h2 => by rw [s_put_ne h2]; exact hf.1 a h1 h2, by rw [s_put_ne (by omega)]; exact hf.2⟩, ?_, ?_, fun j hj => ?_⟩
          · rw [hdone.1]
            first
            | exact congrArg (fun z => some (Value.int z)) (bI_f (fun h => absurd c_81 (nI_nle (by omega) (by omega))))
            | exact congrArg (fun z => some (Value.int z)) (bI_t (fun h => by subst h; exact absurd (by decide) c_81))
          · rw [s_put_ne (by omega), hdone.1]; exact hat
          · rw [s_put_eq, if_pos rfl, hdone.2]
          · rw [s_put_eq, if_neg hj]; exact hk j hj
      · have hlt : p + f < L := by
          rcases Nat.lt_or_ge (p + f) L with h | h
          · exact h
          · exact absurd (nI_le h (by omega)) c_17
        refine x_aload_n dX5_readNumber_20 rfl rfl ?_
        refine gX5_9 dX5_readNumber_21 rfl (by assumption) rfl ?_
        refine x_aload_n dX5_readNumber_24 rfl rfl ?_
        refine gX5_28 dX5_readNumber_25 rfl (by assumption) rfl ?_
        rw [hat]
        refine x_caldN (by assumption) dX5_readNumber_28 (by have := hT0.1; omega) (by decide) ?_
        rw [(hT0.2.2 (p + f) hlt).1]
        refine x_bipush (v := 48) dX5_readNumber_29 (by decide) ?_
        refine x_bipush (v := 57) dX5_readNumber_31 (by decide) ?_
        refine kX5_51 dX5_readNumber_33 rfl (c_within) (by decide) (Nat.le_of_ble_eq_true rfl) ?_
        refine x_ifeq_b (tgt := 73) dX5_readNumber_36 (by decide) (fun c_36 => ?_) (fun c_36 => ?_)
        · have hdone := fig_done hI (Or.inr (by
            have h9 : ¬ (48 ≤ t (p + f) ∧ t (p + f) ≤ 57) := fun h => c_36 ((nI_within (lo := 48) (hi := 57) (by omega) (by decide) (by decide)).mpr h)
            rw [dgt, Bool.and_eq_false_iff]; right
            rw [← Bool.not_eq_true, Bool.and_eq_true, decide_eq_true_eq, decide_eq_true_eq]; exact h9))
          refine x_aload_n dX5_readNumber_73 rfl rfl ?_
          refine gX5_15 dX5_readNumber_74 rfl (by assumption) rfl ?_
          refine x_iload_n dX5_readNumber_77 rfl rfl ?_
          refine x_iload_n dX5_readNumber_78 rfl rfl ?_
          first | refine x_iastN (by assumption) dX5_readNumber_79 (by omega) (by decide) ?_ | refine x_iast (by assumption) dX5_readNumber_79 (by assumption) ?_
          refine x_iload_n dX5_readNumber_80 rfl rfl ?_
          refine x_if_le (tgt := 88) dX5_readNumber_81 (by decide) (fun c_81 => ?_) (fun c_81 => ?_)
          · refine x_iconst (v := 0) dX5_readNumber_88 (by decide) ?_
            refine x_ireturn dX5_readNumber_89 rfl (by first | rfl | exact bI_nar _) ?_
            refine ⟨?_, ⟨fun a h1 h2 => by rw [s_put_ne h2]; exact hf.1 a h1 h2, by rw [s_put_ne (by omega)]; exact hf.2⟩, ?_, ?_, fun j hj => ?_⟩
            · rw [hdone.1]
              first
              | exact congrArg (fun z => some (Value.int z)) (bI_f (fun h => absurd c_81 (nI_nle (by omega) (by omega))))
              | exact congrArg (fun z => some (Value.int z)) (bI_t (fun h => by subst h; exact absurd (by decide) c_81))
            · rw [s_put_ne (by omega), hdone.1]; exact hat
            · rw [s_put_eq, if_pos rfl, hdone.2]
            · rw [s_put_eq, if_neg hj]; exact hk j hj
          · refine x_iconst (v := 1) dX5_readNumber_84 (by decide) ?_
            refine x_goto (tgt := 89) dX5_readNumber_85 (by decide) ?_
            refine x_ireturn dX5_readNumber_89 rfl (by first | rfl | exact bI_nar _) ?_
            refine ⟨?_, ⟨fun a h1 h2 => by rw [s_put_ne h2]; exact hf.1 a h1 h2, by rw [s_put_ne (by omega)]; exact hf.2⟩, ?_, ?_, fun j hj => ?_⟩
            · rw [hdone.1]
              first
              | exact congrArg (fun z => some (Value.int z)) (bI_f (fun h => absurd c_81 (nI_nle (by omega) (by omega))))
              | exact congrArg (fun z => some (Value.int z)) (bI_t (fun h => by subst h; exact absurd (by decide) c_81))
            · rw [s_put_ne (by omega), hdone.1]; exact hat
            · rw [s_put_eq, if_pos rfl, hdone.2]
            · rw [s_put_eq, if_neg hj]; exact hk j hj
        · have hdg : dgt t L (p + f) = true := by
            have h9 := (nI_within (lo := 48) (hi := 57) (a := t (p + f)) (by omega) (by decide) (by decide)).mp c_36
            simp [dgt, hlt, h9]
          have hd2 := dgt_le hdg
          refine x_iload_n dX5_readNumber_39 rfl rfl ?_
          refine x_bipush (v := 10) dX5_readNumber_40 (by decide) ?_
          refine x_imul dX5_readNumber_42 ?_
          refine x_aload_n dX5_readNumber_43 rfl rfl ?_
          refine gX5_9 dX5_readNumber_44 rfl (by assumption) rfl ?_
          refine x_aload_n dX5_readNumber_47 rfl rfl ?_
          refine gX5_28 dX5_readNumber_48 rfl (by assumption) rfl ?_
          rw [hat]
          refine x_caldN (by assumption) dX5_readNumber_51 (by have := hT0.1; omega) (by decide) ?_
          rw [(hT0.2.2 (p + f) hlt).1]
          refine x_bipush (v := 48) dX5_readNumber_52 (by decide) ?_
          refine x_isub dX5_readNumber_54 ?_
          refine x_iadd dX5_readNumber_55 ?_
          refine x_re (b := nI (v * 10 + (t (p + f) - 48))) (by rw [show nI v * 10 = nI (v * 10) from pk_mul v 10, show nI (t (p + f)) - 48 = nI (t (p + f) - 48) from pk_sub (b := 48) (by omega)]; exact nI_add _ _) ?_
          refine x_istore_n (lv' := [(2, _), (3, _), (0, _), (1, _)]) dX5_readNumber_56 rfl (by decide) rfl ?_
          refine x_aload_n dX5_readNumber_57 rfl rfl ?_
          refine x_dup dX5_readNumber_58 rfl ?_
          refine gX5_28 dX5_readNumber_59 rfl (by assumption) rfl ?_
          rw [hat]
          refine x_iconst (v := 1) dX5_readNumber_62 (by decide) ?_
          refine x_iadd dX5_readNumber_63 ?_
          refine pX5_28 dX5_readNumber_64 rfl (by assumption) rfl ?_
          first | refine x_inc1N (lv' := [(3, _), (2, _), (0, _), (1, _)]) dX5_readNumber_67 rfl (by decide) rfl ?_ | refine x_iinc (v := _ + 1) (lv' := [(3, _), (2, _), (0, _), (1, _)]) dX5_readNumber_67 rfl rfl (by decide) rfl ?_
          refine x_goto (tgt := 4) dX5_readNumber_70 (by decide) ?_
          exact ih (f + 1) _ _ (by omega) (figI_step hI (by omega) hdg) ⟨fun a h1 h2 => by rw [s_put_ne h1]; exact hf.1 a h1 h2, by rw [s_put_eq, if_neg (by decide)]; exact hf.2⟩ (by rw [s_put_eq, if_pos rfl]; exact nI_1 (p + f)) (fun j hj => by rw [s_put_ne (by omega)]; exact hk j hj)

set_option maxHeartbeats 1000000 in
set_option maxRecDepth 20000 in
theorem c_readNumber {B : sB} {S : sSt} {tx L : Nat} {t : Nat → Nat} {p n : Nat} (ht : shT B tx) (hT : rT S tx t L) (hp : p ≤ L) (hn : n < 3) (hat : S tx 3 = nI p) : CS B yX5_readNumber cX5_readNumber 4 (some .boolean) 2 [.ref (s_ad B tx), .int (nI n)] S (fun u S1 => u = some (.int (bI (fig t L p ≠ 0))) ∧ frT S S1 tx ∧ S1 tx 3 = nI (p + fig t L p) ∧ S1 (tx + 2) n = nI (vlu t L p) ∧ ∀ j, j ≠ n → S1 (tx + 2) j = S (tx + 2) j) := by
  refine cs_intro (lv := [(0, .ref (s_ad B tx)), (1, .int (nI n))]) rfl ?_
  refine x_iconst (v := 0) dX5_readNumber_0 (by decide) ?_
  refine x_istore_n (lv' := [(2, _), (0, _), (1, _)]) dX5_readNumber_1 rfl (by decide) rfl ?_
  refine x_iconst (v := 0) dX5_readNumber_2 (by decide) ?_
  refine x_istore_n (lv' := [(3, _), (2, _), (0, _), (1, _)]) dX5_readNumber_3 rfl (by decide) rfl ?_
  exact l_readNumber ht hT hp hn 2 0 0 S (by omega) (Or.inl ⟨rfl, rfl⟩) ⟨fun _ _ _ => rfl, rfl⟩ hat (fun _ _ => rfl)

set_option maxHeartbeats 1000000 in
set_option maxRecDepth 20000 in
theorem c_readSign {B : sB} {S : sSt} {tx L : Nat} {t : Nat → Nat} {p c : Nat} (ht : shT B tx) (hT : rT S tx t L) (hp : p ≤ L) (hc : c ≤ 126) (hat : S tx 3 = nI p) : CS B yX5_readSign cX5_readSign 2 (some .boolean) 1 [.ref (s_ad B tx), .int (nI c)] S (fun u S1 => u = some (.int (bI (sgn t L p c = true))) ∧ frT S S1 tx ∧ S1 tx 3 = nI (if sgn t L p c = true then p + 1 else p) ∧ S1 (tx + 2) = S (tx + 2)) := by
  refine cs_intro (lv := [(0, .ref (s_ad B tx)), (1, .int (nI c))]) rfl ?_
  obtain ⟨ht0, ht1, ht2⟩ := ht
  obtain ⟨g1, g2, g3⟩ := id hT
  refine x_aload_n dX5_readSign_0 rfl rfl ?_
  refine gX5_28 dX5_readSign_1 rfl (by assumption) rfl ?_
  refine x_aload_n dX5_readSign_4 rfl rfl ?_
  refine gX5_19 dX5_readSign_5 rfl (by assumption) rfl ?_
  rw [hat, g2]
  refine x_icmp_ge (tgt := 24) dX5_readSign_8 (by decide) (fun c_8 => ?_) (fun c_8 => ?_)
  · have hs : ¬ sgn t L p c = true := by
      intro h
      simp [sgn] at h
      exact absurd c_8 (nI_ge h.1 (by omega))
    refine x_iconst (v := 0) dX5_readSign_24 (by decide) ?_
    refine x_ireturn dX5_readSign_25 rfl (by first | rfl | exact bI_nar _) ?_
    exact ⟨by simp [bI, hs], ⟨fun _ _ _ => rfl, rfl⟩, by rw [if_neg hs]; exact hat, rfl⟩
  · have hlt : p < L := by
      rcases Nat.lt_or_ge p L with h | h
      · exact h
      · exact absurd (nI_le h (by omega)) c_8
    refine x_aload_n dX5_readSign_11 rfl rfl ?_
    refine gX5_9 dX5_readSign_12 rfl (by assumption) rfl ?_
    refine x_aload_n dX5_readSign_15 rfl rfl ?_
    refine gX5_28 dX5_readSign_16 rfl (by assumption) rfl ?_
    rw [hat]
    refine x_caldN (by assumption) dX5_readSign_19 (by omega) (by decide) ?_
    rw [(g3 p hlt).1]
    refine x_iload_n dX5_readSign_20 rfl rfl ?_
    refine x_icmp_eq (tgt := 26) dX5_readSign_21 (by decide) (fun c_21 => ?_) (fun c_21 => ?_)
    · have hs : sgn t L p c = true := by
        have h6 := (g3 p hlt).2
        have := (nI_eq (by omega) (by omega)).mp c_21
        simp [sgn, hlt, this]
      refine x_aload_n dX5_readSign_26 rfl rfl ?_
      refine x_dup dX5_readSign_27 rfl ?_
      refine gX5_28 dX5_readSign_28 rfl (by assumption) rfl ?_
      rw [hat]
      refine x_iconst (v := 1) dX5_readSign_31 (by decide) ?_
      refine x_iadd dX5_readSign_32 ?_
      refine pX5_28 dX5_readSign_33 rfl (by assumption) rfl ?_
      refine x_iconst (v := 1) dX5_readSign_36 (by decide) ?_
      refine x_ireturn dX5_readSign_37 rfl (by first | rfl | exact bI_nar _) ?_
      exact ⟨by simp [bI, hs], ⟨fun a h1 _ => s_put_ne h1, by rw [s_put_eq, if_neg (by decide)]⟩, by rw [if_pos hs, s_put_eq, if_pos rfl]; exact nI_1 p, s_put_ne (by omega)⟩
    · have hs : ¬ sgn t L p c = true := by
        intro h
        simp [sgn] at h
        exact c_21 (by rw [h.2])
      refine x_iconst (v := 0) dX5_readSign_24 (by decide) ?_
      refine x_ireturn dX5_readSign_25 rfl (by first | rfl | exact bI_nar _) ?_
      exact ⟨by simp [bI, hs], ⟨fun _ _ _ => rfl, rfl⟩, by rw [if_neg hs]; exact hat, rfl⟩

set_option maxHeartbeats 1000000 in
set_option maxRecDepth 20000 in
theorem c_tell {B : sB} {S : sSt} {tx L : Nat} {t : Nat → Nat} {pl c : Nat} {d : aD} {vs : Nat → Nat} (ht : shT B tx) (hp : shP B pl) (hd : rD S pl d) (hc : c ≤ 126) (hv : ∀ i, i < nbh c → S (tx + 2) i = nI (vs i) ∧ vs i ≤ 99) : CS B yX5_tell cX5_tell 3 (some .boolean) 4 [.ref (s_ad B tx), .ref (s_ad B pl), .int (nI c)] S (fun v S1 => v = some (.int (bI ((telF c vs d).isSome = true))) ∧ frD S S1 pl ∧ ∀ d1, telF c vs d = some d1 → rD S1 pl d1) := by
  refine cs_intro (lv := [(0, .ref (s_ad B tx)), (1, .ref (s_ad B pl)), (2, .int (nI c))]) rfl ?_
  obtain ⟨ht0, ht1, ht2⟩ := ht
  have hps := hp.1
  refine x_iload_n dX5_tell_0 rfl rfl ?_
  by_cases w_103 : nI c = 103
  · refine x_tableIn (tgt := 79) dX5_tell_1 (by rw [w_103]; decide) (by rw [w_103]; decide) (by rw [w_103]; rfl) (by decide) ?_
    have e : c = 103 := (nI_eq (b := 103) (by omega) (by decide)).mp w_103
    subst e
    have hv0 := fun (h : 0 < nbh 103) => (hv 0 h).1
    have hv1 := fun (h : 1 < nbh 103) => (hv 1 h).1
    have hv2 := fun (h : 2 < nbh 103) => (hv 2 h).1
    refine x_aload_n dX5_tell_79 rfl rfl ?_
    refine x_aload_n dX5_tell_80 rfl rfl ?_
    refine gX5_15 dX5_tell_81 rfl (by assumption) rfl ?_
    refine x_iconst (v := 0) dX5_tell_84 (by decide) ?_
    refine x_ialdN (j := 0) (by assumption) dX5_tell_85 (by decide) (by decide) ?_
    rw [hv0 (by decide)]
    refine x_aload_n dX5_tell_86 rfl rfl ?_
    refine gX5_15 dX5_tell_87 rfl (by assumption) rfl ?_
    refine x_iconst (v := 1) dX5_tell_90 (by decide) ?_
    refine x_ialdN (j := 1) (by assumption) dX5_tell_91 (by decide) (by decide) ?_
    rw [hv1 (by decide)]
    refine x_aload_n dX5_tell_92 rfl rfl ?_
    refine gX5_15 dX5_tell_93 rfl (by assumption) rfl ?_
    refine x_iconst (v := 2) dX5_tell_96 (by decide) ?_
    refine x_ialdN (j := 2) (by assumption) dX5_tell_97 (by decide) (by decide) ?_
    rw [hv2 (by decide)]
    refine kX5_65r dX5_tell_98 rfl (by assumption) (c_addGuest hp hd (hv 0 (by decide)).2) (by decide) (Nat.le_of_ble_eq_true rfl) (fun z S1 hq => ?_)
    refine x_ireturn dX5_tell_101 rfl (by obtain ⟨h, -⟩ := hq; cases h; exact bI_nar _) ?_
    exact hq
  by_cases w_104 : nI c = 104
  · refine x_tableIn (tgt := 62) dX5_tell_1 (by rw [w_104]; decide) (by rw [w_104]; decide) (by rw [w_104]; rfl) (by decide) ?_
    have e : c = 104 := (nI_eq (b := 104) (by omega) (by decide)).mp w_104
    subst e
    have hv0 := fun (h : 0 < nbh 104) => (hv 0 h).1
    have hv1 := fun (h : 1 < nbh 104) => (hv 1 h).1
    have hv2 := fun (h : 2 < nbh 104) => (hv 2 h).1
    refine x_aload_n dX5_tell_62 rfl rfl ?_
    refine x_aload_n dX5_tell_63 rfl rfl ?_
    refine gX5_15 dX5_tell_64 rfl (by assumption) rfl ?_
    refine x_iconst (v := 0) dX5_tell_67 (by decide) ?_
    refine x_ialdN (j := 0) (by assumption) dX5_tell_68 (by decide) (by decide) ?_
    rw [hv0 (by decide)]
    refine x_aload_n dX5_tell_69 rfl rfl ?_
    refine gX5_15 dX5_tell_70 rfl (by assumption) rfl ?_
    refine x_iconst (v := 1) dX5_tell_73 (by decide) ?_
    refine x_ialdN (j := 1) (by assumption) dX5_tell_74 (by decide) (by decide) ?_
    rw [hv1 (by decide)]
    refine kX5_61r dX5_tell_75 rfl (by assumption) (c_setHeat hp hd (hv 0 (by decide)).2 (hv 1 (by decide)).2) (by decide) (Nat.le_of_ble_eq_true rfl) (fun z S1 hq => ?_)
    refine x_ireturn dX5_tell_78 rfl (by obtain ⟨h, -⟩ := hq; cases h; exact bI_nar _) ?_
    exact hq
  by_cases w_105 : nI c = 105
  · refine x_tableIn (tgt := 102) dX5_tell_1 (by rw [w_105]; decide) (by rw [w_105]; decide) (by rw [w_105]; rfl) (by decide) ?_
    refine x_iconst (v := 0) dX5_tell_102 (by decide) ?_
    refine x_ireturn dX5_tell_103 rfl (by first | rfl | exact bI_nar _) ?_
    have e : telF c vs d = none := by
      first
      | (have e : c = 105 := (nI_eq (b := 105) (by omega) (by decide)).mp w_105; subst e; rfl)
      | (have e : c = 106 := (nI_eq (b := 106) (by omega) (by decide)).mp w_106; subst e; rfl)
      | (have e3 : c ≠ 103 := fun q => by subst q; exact absurd rfl w_103
         have e4 : c ≠ 104 := fun q => by subst q; exact absurd rfl w_104
         have e7 : c ≠ 107 := fun q => by subst q; exact absurd rfl w_107
         have e8 : c ≠ 108 := fun q => by subst q; exact absurd rfl w_108
         simp [telF, e3, e4, e7, e8])
    exact ⟨by rw [e]; rfl, fun _ _ => rfl, fun d1 h => by rw [e] at h; cases h⟩
  by_cases w_106 : nI c = 106
  · refine x_tableIn (tgt := 102) dX5_tell_1 (by rw [w_106]; decide) (by rw [w_106]; decide) (by rw [w_106]; rfl) (by decide) ?_
    refine x_iconst (v := 0) dX5_tell_102 (by decide) ?_
    refine x_ireturn dX5_tell_103 rfl (by first | rfl | exact bI_nar _) ?_
    have e : telF c vs d = none := by
      first
      | (have e : c = 105 := (nI_eq (b := 105) (by omega) (by decide)).mp w_105; subst e; rfl)
      | (have e : c = 106 := (nI_eq (b := 106) (by omega) (by decide)).mp w_106; subst e; rfl)
      | (have e3 : c ≠ 103 := fun q => by subst q; exact absurd rfl w_103
         have e4 : c ≠ 104 := fun q => by subst q; exact absurd rfl w_104
         have e7 : c ≠ 107 := fun q => by subst q; exact absurd rfl w_107
         have e8 : c ≠ 108 := fun q => by subst q; exact absurd rfl w_108
         simp [telF, e3, e4, e7, e8])
    exact ⟨by rw [e]; rfl, fun _ _ => rfl, fun d1 h => by rw [e] at h; cases h⟩
  by_cases w_107 : nI c = 107
  · refine x_tableIn (tgt := 51) dX5_tell_1 (by rw [w_107]; decide) (by rw [w_107]; decide) (by rw [w_107]; rfl) (by decide) ?_
    have e : c = 107 := (nI_eq (b := 107) (by omega) (by decide)).mp w_107
    subst e
    have hv0 := fun (h : 0 < nbh 107) => (hv 0 h).1
    have hv1 := fun (h : 1 < nbh 107) => (hv 1 h).1
    have hv2 := fun (h : 2 < nbh 107) => (hv 2 h).1
    refine x_aload_n dX5_tell_51 rfl rfl ?_
    refine x_aload_n dX5_tell_52 rfl rfl ?_
    refine gX5_15 dX5_tell_53 rfl (by assumption) rfl ?_
    refine x_iconst (v := 0) dX5_tell_56 (by decide) ?_
    refine x_ialdN (j := 0) (by assumption) dX5_tell_57 (by decide) (by decide) ?_
    rw [hv0 (by decide)]
    refine kX5_58r dX5_tell_58 rfl (by assumption) (c_setKnob hp hd (hv 0 (by decide)).2) (by decide) (Nat.le_of_ble_eq_true rfl) (fun z S1 hq => ?_)
    refine x_ireturn dX5_tell_61 rfl (by obtain ⟨h, -⟩ := hq; cases h; exact bI_nar _) ?_
    exact hq
  by_cases w_108 : nI c = 108
  · refine x_tableIn (tgt := 40) dX5_tell_1 (by rw [w_108]; decide) (by rw [w_108]; decide) (by rw [w_108]; rfl) (by decide) ?_
    have e : c = 108 := (nI_eq (b := 108) (by omega) (by decide)).mp w_108
    subst e
    have hv0 := fun (h : 0 < nbh 108) => (hv 0 h).1
    have hv1 := fun (h : 1 < nbh 108) => (hv 1 h).1
    have hv2 := fun (h : 2 < nbh 108) => (hv 2 h).1
    refine x_aload_n dX5_tell_40 rfl rfl ?_
    refine x_aload_n dX5_tell_41 rfl rfl ?_
    refine gX5_15 dX5_tell_42 rfl (by assumption) rfl ?_
    refine x_iconst (v := 0) dX5_tell_45 (by decide) ?_
    refine x_ialdN (j := 0) (by assumption) dX5_tell_46 (by decide) (by decide) ?_
    rw [hv0 (by decide)]
    refine kX5_55r dX5_tell_47 rfl (by assumption) (c_setPlaces hp hd (hv 0 (by decide)).2) (by decide) (Nat.le_of_ble_eq_true rfl) (fun z S1 hq => ?_)
    refine x_ireturn dX5_tell_50 rfl (by obtain ⟨h, -⟩ := hq; cases h; exact bI_nar _) ?_
    exact hq
  refine x_tableOut (tgt := 102) dX5_tell_1 (by have z0 := sw_ne (n := 103) (by decide) w_103; have z1 := sw_ne (n := 104) (by decide) w_104; have z2 := sw_ne (n := 105) (by decide) w_105; have z3 := sw_ne (n := 106) (by decide) w_106; have z4 := sw_ne (n := 107) (by decide) w_107; have z5 := sw_ne (n := 108) (by decide) w_108; omega) (by decide) ?_
  refine x_iconst (v := 0) dX5_tell_102 (by decide) ?_
  refine x_ireturn dX5_tell_103 rfl (by first | rfl | exact bI_nar _) ?_
  have e : telF c vs d = none := by
    first
    | (have e : c = 105 := (nI_eq (b := 105) (by omega) (by decide)).mp w_105; subst e; rfl)
    | (have e : c = 106 := (nI_eq (b := 106) (by omega) (by decide)).mp w_106; subst e; rfl)
    | (have e3 : c ≠ 103 := fun q => by subst q; exact absurd rfl w_103
       have e4 : c ≠ 104 := fun q => by subst q; exact absurd rfl w_104
       have e7 : c ≠ 107 := fun q => by subst q; exact absurd rfl w_107
       have e8 : c ≠ 108 := fun q => by subst q; exact absurd rfl w_108
       simp [telF, e3, e4, e7, e8])
  exact ⟨by rw [e]; rfl, fun _ _ => rfl, fun d1 h => by rw [e] at h; cases h⟩
