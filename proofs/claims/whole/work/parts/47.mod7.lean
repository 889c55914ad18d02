set_option maxHeartbeats 1000000 in
set_option maxRecDepth 20000 in
theorem cM_seen {B : sB} {S : sSt} {T : Nat × (Nat → Nat)} {P : aP} {r : aR} {acts kept : List aR} {f : aF} (hm : shM B) (hX : RM S (T, P, r, acts, kept, f)) {k l n v : Int32} : CS B yX7_seen cX7_seen 5 (some .int) 3 [.ref (s_ad B 102), .int k, .int l, .int n, .int v] S (qR S (o_seen (T, P, r, acts, kept, f) k l n v)) := by
  refine cs_intro (lv := [(0, .ref (s_ad B 102)), (1, .int k), (2, .int l), (3, .int n), (4, .int v)]) rfl ?_
  obtain ⟨hm0, h103, h104, h105, h106, h107, h108, h109, h110, h111, h112, h113, h114, h115, h116, h117, h118, h119, h120, h121, h122⟩ := id hm
  obtain ⟨xT, xP, xB, xA, xE, xF⟩ := id hX
  have xT : tM S T.2 T.1 := xT
  have xP : pM S P := xP
  have xB : ag (S 113) r := xB
  have xA : aM S acts := xA
  have xE : eM S kept := xE
  have xF : fM S f := xF
  have hn9 : P.1 ≤ 9 := xP.1
  have haN : isA B 113 := ⟨Or.inl rfl, h113⟩
  have haT : isA B 114 := ⟨Or.inr rfl, h114⟩
  refine x_iload_n dX7_seen_0 rfl rfl ?_
  refine x_iconst (v := 0) dX7_seen_1 (by decide) ?_
  refine x_iconst (v := 3) dX7_seen_2 (by decide) ?_
  refine kX7_78 dX7_seen_3 rfl (c_in) (by decide) (Nat.le_of_ble_eq_true rfl) ?_
  refine x_ifeq_b (tgt := 38) dX7_seen_6 (by decide) (fun c_6 => ?_) (fun c_6 => ?_)
  · refine x_iconst (v := (-1)) dX7_seen_38 (by decide) ?_
    refine x_ireturn dX7_seen_39 rfl rfl ?_
    first
    | exact qR_of (by rw [o_seen, if_neg (by simp only [Bool.and_eq_true, wn_iff]; exact fun z => c_6 z.1)]) rfl hX frM_rfl
    | exact qR_of (by rw [o_seen, if_neg (by simp only [Bool.and_eq_true, wn_iff]; exact fun z => c_13 z.2.1)]) rfl hX frM_rfl
    | exact qR_of (by rw [o_seen, if_neg (by simp only [Bool.and_eq_true, wn_iff]; exact fun z => c_23 z.2.2.1)]) rfl hX frM_rfl
    | exact qR_of (by rw [o_seen, if_neg (by simp only [Bool.and_eq_true, wn_iff]; exact fun z => c_35 z.2.2.2)]) rfl hX frM_rfl
  · refine x_iload_n dX7_seen_9 rfl rfl ?_
    refine kX7_140 dX7_seen_10 rfl (cm_isLane) (by decide) (Nat.le_of_ble_eq_true rfl) ?_
    refine x_ifeq_b (tgt := 38) dX7_seen_13 (by decide) (fun c_13 => ?_) (fun c_13 => ?_)
    · refine x_iconst (v := (-1)) dX7_seen_38 (by decide) ?_
      refine x_ireturn dX7_seen_39 rfl rfl ?_
      first
      | exact qR_of (by rw [o_seen, if_neg (by simp only [Bool.and_eq_true, wn_iff]; exact fun z => c_6 z.1)]) rfl hX frM_rfl
      | exact qR_of (by rw [o_seen, if_neg (by simp only [Bool.and_eq_true, wn_iff]; exact fun z => c_13 z.2.1)]) rfl hX frM_rfl
      | exact qR_of (by rw [o_seen, if_neg (by simp only [Bool.and_eq_true, wn_iff]; exact fun z => c_23 z.2.2.1)]) rfl hX frM_rfl
      | exact qR_of (by rw [o_seen, if_neg (by simp only [Bool.and_eq_true, wn_iff]; exact fun z => c_35 z.2.2.2)]) rfl hX frM_rfl
    · refine x_iload_n dX7_seen_16 rfl rfl ?_
      refine x_iconst (v := 1) dX7_seen_17 (by decide) ?_
      refine x_bipush (v := 9) dX7_seen_18 (by decide) ?_
      refine kX7_78 dX7_seen_20 rfl (c_in) (by decide) (Nat.le_of_ble_eq_true rfl) ?_
      refine x_ifeq_b (tgt := 38) dX7_seen_23 (by decide) (fun c_23 => ?_) (fun c_23 => ?_)
      · refine x_iconst (v := (-1)) dX7_seen_38 (by decide) ?_
        refine x_ireturn dX7_seen_39 rfl rfl ?_
        first
        | exact qR_of (by rw [o_seen, if_neg (by simp only [Bool.and_eq_true, wn_iff]; exact fun z => c_6 z.1)]) rfl hX frM_rfl
        | exact qR_of (by rw [o_seen, if_neg (by simp only [Bool.and_eq_true, wn_iff]; exact fun z => c_13 z.2.1)]) rfl hX frM_rfl
        | exact qR_of (by rw [o_seen, if_neg (by simp only [Bool.and_eq_true, wn_iff]; exact fun z => c_23 z.2.2.1)]) rfl hX frM_rfl
        | exact qR_of (by rw [o_seen, if_neg (by simp only [Bool.and_eq_true, wn_iff]; exact fun z => c_35 z.2.2.2)]) rfl hX frM_rfl
      · refine x_iload dX7_seen_26 rfl ?_
        refine x_iconst (v := 0) dX7_seen_28 (by decide) ?_
        refine x_sipush (v := 999) dX7_seen_29 (by decide) ?_
        refine kX7_78 dX7_seen_32 rfl (c_in) (by decide) (Nat.le_of_ble_eq_true rfl) ?_
        refine x_ifne_b (tgt := 40) dX7_seen_35 (by decide) (fun c_35 => ?_) (fun c_35 => ?_)
        · have hok : (wn k 0 3 && (wn l 0 1 && (wn n 1 9 && wn v 0 999))) = true := by simp only [Bool.and_eq_true, wn_iff]; exact ⟨c_6, c_13, c_23, c_35⟩
          refine x_aload_n dX7_seen_40 rfl rfl ?_
          refine gX7_111 dX7_seen_41 rfl (by assumption) rfl ?_
          rw [xF.2.1]
          refine x_bipush (v := 6) dX7_seen_44 (by decide) ?_
          refine x_icmp_ne (tgt := 52) dX7_seen_46 (by decide) (fun c_46 => ?_) (fun c_46 => ?_)
          · have h6 : f.1 < 6 := by
              rcases Nat.lt_or_ge f.1 6 with h | h
              · exact h
              · exact absurd (show nI f.1 = 6 by rw [show f.1 = 6 by have := xF.1; omega]; rfl) c_46
            refine x_aload_n dX7_seen_52 rfl rfl ?_
            refine gX7_59 dX7_seen_53 rfl (by assumption) rfl ?_
            refine x_aload_n dX7_seen_56 rfl rfl ?_
            refine gX7_111 dX7_seen_57 rfl (by assumption) rfl ?_
            rw [xF.2.1]
            refine x_iload_n dX7_seen_60 rfl rfl ?_
            refine x_iastN (by assumption) dX7_seen_61 h6 (by decide) ?_
            refine x_aload_n dX7_seen_62 rfl rfl ?_
            refine gX7_62 dX7_seen_63 rfl (by assumption) rfl ?_
            refine x_aload_n dX7_seen_66 rfl rfl ?_
            refine gX7_111 dX7_seen_67 rfl (by assumption) rfl ?_
            rw [s_put_ne (by omega), xF.2.1]
            refine x_iload_n dX7_seen_70 rfl rfl ?_
            refine x_iastN (by assumption) dX7_seen_71 h6 (by decide) ?_
            refine x_aload_n dX7_seen_72 rfl rfl ?_
            refine gX7_65 dX7_seen_73 rfl (by assumption) rfl ?_
            refine x_aload_n dX7_seen_76 rfl rfl ?_
            refine gX7_111 dX7_seen_77 rfl (by assumption) rfl ?_
            rw [s_put_ne (by omega), s_put_ne (by omega), xF.2.1]
            refine x_iload_n dX7_seen_80 rfl rfl ?_
            refine x_iastN (by assumption) dX7_seen_81 h6 (by decide) ?_
            refine x_aload_n dX7_seen_82 rfl rfl ?_
            refine gX7_68 dX7_seen_83 rfl (by assumption) rfl ?_
            refine x_aload_n dX7_seen_86 rfl rfl ?_
            refine gX7_111 dX7_seen_87 rfl (by assumption) rfl ?_
            rw [s_put_ne (by omega), s_put_ne (by omega), s_put_ne (by omega), xF.2.1]
            refine x_iload dX7_seen_90 rfl ?_
            refine x_iastN (by assumption) dX7_seen_92 h6 (by decide) ?_
            refine x_aload_n dX7_seen_93 rfl rfl ?_
            refine x_dup dX7_seen_94 rfl ?_
            refine gX7_111 dX7_seen_95 rfl (by assumption) rfl ?_
            rw [show s_put (s_put (s_put (s_put S 119 f.1 k) 120 f.1 l) 121 f.1 n) 122 f.1 v 102 25 = nI f.1 from by rw [s_put_ne (by omega), s_put_ne (by omega), s_put_ne (by omega), s_put_ne (by omega)]; exact xF.2.1]
            refine x_iconst (v := 1) dX7_seen_98 (by decide) ?_
            refine x_iadd dX7_seen_99 ?_
            first | refine x_re (nI_add _ _) ?_ | skip
            refine pX7_111 dX7_seen_100 rfl (by assumption) rfl ?_
            refine x_aload_n dX7_seen_103 rfl rfl ?_
            refine gX7_111 dX7_seen_104 rfl (by assumption) rfl ?_
            refine x_ireturn dX7_seen_107 rfl rfl ?_
            generalize hS5 : s_put (s_put (s_put (s_put (s_put S 119 f.1 k) 120 f.1 l) 121 f.1 n) 122 f.1 v) 102 25 (nI (f.1 + 1)) = S5
            have q3 : ∀ b, b ≠ 102 → (b < 119 ∨ 123 ≤ b) → S5 b = S b := fun b x y => by rw [← hS5, s_put_ne x, s_put_ne (by omega), s_put_ne (by omega), s_put_ne (by omega), s_put_ne (by omega)]
            have q4 : ∀ j, j ≠ 25 → S5 102 j = S 102 j := fun j x => by rw [← hS5, s_put_eq, if_neg x, s_put_ne (by omega), s_put_ne (by omega), s_put_ne (by omega), s_put_ne (by omega)]
            have q5 : S5 102 25 = nI (f.1 + 1) := by rw [← hS5, s_put_eq, if_pos rfl]
            refine qR_of (A' := (T, P, r, acts, kept, addF f k l n v)) (by rw [o_seen, if_pos hok, if_pos h6]) q5 ⟨tM_ag (q4 1 (by decide)) (q3 103 (by omega) (by omega)) xT, pM_ag (fun b x y => q3 b (by omega) (by omega)) xP, by show ag (S5 113) r; rw [q3 113 (by omega) (by omega)]; exact xB, aM_ag (q4 16 (by decide)) (q3 115 (by omega) (by omega)) xA, eM_ag (q4 18 (by decide)) (q3 116 (by omega) (by omega)) xE, ⟨h6, q5, fun i hi => ?_⟩⟩ (fun a ha => q3 a (by omega) (by omega))
            have hi : i < f.1 + 1 := hi
            rw [← hS5]
            by_cases hid : i = f.1
            · subst hid; simp [s_put, upd, addF]
            · have h7 := xF.2.2 i (by omega)
              simp [s_put, upd, addF, hid, h7]
          · have h6 : ¬ f.1 < 6 := by
              have := (nI_eq (b := 6) (by have := xF.1; omega) (by decide)).mp c_46
              omega
            refine x_bipush (v := (-3)) dX7_seen_49 (by decide) ?_
            refine x_ireturn dX7_seen_51 rfl rfl ?_
            exact qR_of (by rw [o_seen, if_pos hok, if_neg h6]) rfl hX frM_rfl
        · refine x_iconst (v := (-1)) dX7_seen_38 (by decide) ?_
          refine x_ireturn dX7_seen_39 rfl rfl ?_
          first
          | exact qR_of (by rw [o_seen, if_neg (by simp only [Bool.and_eq_true, wn_iff]; exact fun z => c_6 z.1)]) rfl hX frM_rfl
          | exact qR_of (by rw [o_seen, if_neg (by simp only [Bool.and_eq_true, wn_iff]; exact fun z => c_13 z.2.1)]) rfl hX frM_rfl
          | exact qR_of (by rw [o_seen, if_neg (by simp only [Bool.and_eq_true, wn_iff]; exact fun z => c_23 z.2.2.1)]) rfl hX frM_rfl
          | exact qR_of (by rw [o_seen, if_neg (by simp only [Bool.and_eq_true, wn_iff]; exact fun z => c_35 z.2.2.2)]) rfl hX frM_rfl

set_option maxHeartbeats 1000000 in
set_option maxRecDepth 20000 in
theorem cM_forget {B : sB} {S : sSt} {T : Nat × (Nat → Nat)} {P : aP} {r : aR} {acts kept : List aR} {f : aF} (hm : shM B) (hX : RM S (T, P, r, acts, kept, f)) : CS B yX7_forget cX7_forget 2 (some .int) 1 [.ref (s_ad B 102)] S (qR S (o_forget (T, P, r, acts, kept, f))) := by
  refine cs_intro (lv := [(0, .ref (s_ad B 102))]) rfl ?_
  obtain ⟨hm0, h103, h104, h105, h106, h107, h108, h109, h110, h111, h112, h113, h114, h115, h116, h117, h118, h119, h120, h121, h122⟩ := id hm
  obtain ⟨xT, xP, xB, xA, xE, xF⟩ := id hX
  have xT : tM S T.2 T.1 := xT
  have xP : pM S P := xP
  have xB : ag (S 113) r := xB
  have xA : aM S acts := xA
  have xE : eM S kept := xE
  have xF : fM S f := xF
  have hn9 : P.1 ≤ 9 := xP.1
  have haN : isA B 113 := ⟨Or.inl rfl, h113⟩
  have haT : isA B 114 := ⟨Or.inr rfl, h114⟩
  refine x_aload_n dX7_forget_0 rfl rfl ?_
  refine gX7_111 dX7_forget_1 rfl (by assumption) rfl ?_
  refine x_istore_n (lv' := [(1, _), (0, _)]) dX7_forget_4 rfl (by decide) rfl ?_
  refine x_aload_n dX7_forget_5 rfl rfl ?_
  refine x_iconst (v := 0) dX7_forget_6 (by decide) ?_
  refine pX7_111 dX7_forget_7 rfl (by assumption) rfl ?_
  refine x_iload_n dX7_forget_10 rfl rfl ?_
  refine x_ireturn dX7_forget_11 rfl rfl ?_
  exact qR_of (o := o_forget (T, P, r, acts, kept, f)) (A' := (T, P, r, acts, kept, (0, f.2))) rfl xF.2.1 ⟨tM_ag (RM_obj 1 (by decide)) (s_put_ne (by omega)) xT, pM_ag (fun b h1 h2 => s_put_ne (by omega)) xP, by show ag (s_put S 102 25 0 113) r; rw [s_put_ne (by omega)]; exact xB, aM_ag (RM_obj 16 (by decide)) (s_put_ne (by omega)) xA, eM_ag (RM_obj 18 (by decide)) (s_put_ne (by omega)) xE, ⟨Nat.zero_le _, by rw [s_put_eq, if_pos rfl]; rfl, fun i h => absurd h (Nat.not_lt_zero i)⟩⟩ (fun a ha => s_put_ne (by omega))

set_option maxHeartbeats 1000000 in
set_option maxRecDepth 20000 in
theorem lm_hot2 {B : sB} {S : sSt} {T : Nat × (Nat → Nat)} {P : aP} {r : aR} {acts kept : List aR} {f : aF} (hm : shM B) (hX : RM S (T, P, r, acts, kept, f)) (hI : iA (T, P, r, acts, kept, f)) {w z : Int32} {i q : Nat} {Q : Option Value → sSt → Prop} (hi : i ≤ 30) (b0 : Bool) (hex : WS B (fun _ => True) yX7_hot cX7_hot 8 (some .int) 3 126 [(6, .int (nI f.1)), (5, .int (bI (b0 = true))), (4, .int (nI i)), (3, .int z), (2, .int (nI q)), (0, .ref (s_ad B 102)), (1, .int w)] [] S Q) :
    ∀ (k j : Nat) (b : Bool), j + k = f.1 → (b && fitU f P.2.1 (nI i) k j) = b0 → WS B (fun _ => True) yX7_hot cX7_hot 8 (some .int) 3 32 [(6, .int (nI j)), (5, .int (bI (b = true))), (4, .int (nI i)), (3, .int z), (2, .int (nI q)), (0, .ref (s_ad B 102)), (1, .int w)] [] S Q := by
  obtain ⟨hm0, h103, h104, h105, h106, h107, h108, h109, h110, h111, h112, h113, h114, h115, h116, h117, h118, h119, h120, h121, h122⟩ := id hm
  obtain ⟨xT, xP, xB, xA, xE, xF⟩ := id hX
  have xT : tM S T.2 T.1 := xT
  have xP : pM S P := xP
  have xB : ag (S 113) r := xB
  have xA : aM S acts := xA
  have xE : eM S kept := xE
  have xF : fM S f := xF
  have hn9 : P.1 ≤ 9 := xP.1
  have haN : isA B 113 := ⟨Or.inl rfl, h113⟩
  have haT : isA B 114 := ⟨Or.inr rfl, h114⟩
  obtain ⟨jP, jR, jA, jE, jF⟩ := id hI
  have jP : iP P := jP
  have jR : iR P r := jR
  have jF : iF f := jF
  have hn1 : 1 ≤ P.1 := jP.1
  intro k
  induction k with
  | zero =>
    intro j b hj hb0
    refine x_iload dX7_hot_32 rfl ?_
    refine x_aload_n dX7_hot_34 rfl rfl ?_
    refine gX7_111 dX7_hot_35 rfl (by assumption) rfl ?_
    refine x_icmp_ge (tgt := 126) dX7_hot_38 (by decide) (fun c_38 => ?_) (fun c_38 => ?_)
    · rw [show j = f.1 by omega]
      have hb : b = b0 := by rw [← hb0]; simp [fitU]
      rw [hb]
      exact hex
    · exact absurd (by have h6 := xF.1; rw [xF.2.1, ← hj]; exact nI_le (by omega) (by omega)) c_38
  | succ k ih =>
    intro j b hj hb0
    obtain ⟨e1, e2, e3, e4⟩ := xF.2.2 j (by omega)
    have hj1 := jF j (by omega)
    have h6 := xF.1
    refine x_iload dX7_hot_32 rfl ?_
    refine x_aload_n dX7_hot_34 rfl rfl ?_
    refine gX7_111 dX7_hot_35 rfl (by assumption) rfl ?_
    refine x_icmp_ge (tgt := 126) dX7_hot_38 (by decide) (fun c_38 => ?_) (fun c_38 => ?_)
    · exact absurd c_38 (by have h6 := xF.1; rw [xF.2.1]; exact nI_ge (by omega) (by omega))
    · refine x_aload_n dX7_hot_41 rfl rfl ?_
      refine gX7_17 dX7_hot_42 rfl (by assumption) rfl ?_
      refine x_iconst (v := 0) dX7_hot_45 (by decide) ?_
      refine x_ialdN (j := 0) (by assumption) dX7_hot_46 (by decide) (by decide) ?_
      refine x_aload_n dX7_hot_47 rfl rfl ?_
      refine gX7_65 dX7_hot_48 rfl (by assumption) rfl ?_
      refine x_iload dX7_hot_51 rfl ?_
      first | refine x_ialdN (by assumption) dX7_hot_53 (by omega) (by decide) ?_ | refine x_iald (by assumption) dX7_hot_53 (by assumption) ?_
      refine x_iadd dX7_hot_54 ?_
      refine x_iconst (v := 1) dX7_hot_55 (by decide) ?_
      refine x_isub dX7_hot_56 ?_
      refine x_aload_n dX7_hot_57 rfl rfl ?_
      refine gX7_65 dX7_hot_58 rfl (by assumption) rfl ?_
      refine x_iload dX7_hot_61 rfl ?_
      first | refine x_ialdN (by assumption) dX7_hot_63 (by omega) (by decide) ?_ | refine x_iald (by assumption) dX7_hot_63 (by assumption) ?_
      refine x_idiv dX7_hot_64 (by intro h; rw [e3] at h; have h1 := hj1.2.1; rw [h] at h1; exact absurd h1 (by decide)) ?_
      refine x_istore (lv' := [(7, _), (6, _), (5, _), (4, _), (3, _), (2, _), (0, _), (1, _)]) dX7_hot_65 (by decide) rfl ?_
      refine x_iload dX7_hot_67 rfl ?_
      refine x_ifeq_b (tgt := 117) dX7_hot_69 (by decide) (fun c_69 => ?_) (fun c_69 => ?_)
      · refine x_iconst (v := 0) dX7_hot_117 (by decide) ?_
        refine x_istore (lv' := [(5, _), (7, _), (6, _), (4, _), (3, _), (2, _), (0, _), (1, _)]) dX7_hot_118 (by decide) rfl ?_
        first | refine x_inc1N (lv' := [(6, _), (5, _), (7, _), (4, _), (3, _), (2, _), (0, _), (1, _)]) dX7_hot_120 rfl (by decide) rfl ?_ | refine x_iinc (v := _ + 1) (lv' := [(6, _), (5, _), (7, _), (4, _), (3, _), (2, _), (0, _), (1, _)]) dX7_hot_120 rfl rfl (by decide) rfl ?_
        refine x_goto (tgt := 32) dX7_hot_123 (by decide) ?_
        refine x_wk [0, 1, 3, 4, 5, 6, 7] rfl ?_
        first
        | (refine ih (j + 1) false (by omega) ?_
           rw [← hb0, Bool.eq_false_iff.mpr c_69]; rfl)
        | (refine ih (j + 1) false (by omega) ?_
           rw [← hb0, c_69, fitU, if_neg hE]; rfl)
        | (refine ih (j + 1) true (by omega) ?_
           rw [← hb0, c_69, fitU, if_pos hE])
      · refine x_iload dX7_hot_72 rfl ?_
        refine x_aload_n dX7_hot_74 rfl rfl ?_
        refine gX7_59 dX7_hot_75 rfl (by assumption) rfl ?_
        refine x_iload dX7_hot_78 rfl ?_
        first | refine x_ialdN (by assumption) dX7_hot_80 (by omega) (by decide) ?_ | refine x_iald (by assumption) dX7_hot_80 (by assumption) ?_
        refine x_iload dX7_hot_81 rfl ?_
        refine x_aload_n dX7_hot_83 rfl rfl ?_
        refine gX7_62 dX7_hot_84 rfl (by assumption) rfl ?_
        refine x_iload dX7_hot_87 rfl ?_
        first | refine x_ialdN (by assumption) dX7_hot_89 (by omega) (by decide) ?_ | refine x_iald (by assumption) dX7_hot_89 (by assumption) ?_
        refine x_if_ne (tgt := 97) dX7_hot_90 (by decide) (fun c_90 => ?_) (fun c_90 => ?_)
        · refine x_iconst (v := 0) dX7_hot_97 (by decide) ?_
          refine x_iadd dX7_hot_98 ?_
          first
          | refine x_re (b := nI i + (if f.2.2.1 j = 0 then 2 else 0)) (by rw [if_neg (by rw [← e2]; exact c_90)]) ?_
          | refine x_re (b := nI i + (if f.2.2.1 j = 0 then 2 else 0)) (by rw [if_pos (by rw [← e2]; exact c_90)]) ?_
          refine kX7_124 dX7_hot_99 rfl (c_browner) (by decide) (Nat.le_of_ble_eq_true rfl) ?_
          refine x_imul dX7_hot_102 ?_
          refine x_aload_n dX7_hot_103 rfl rfl ?_
          refine gX7_68 dX7_hot_104 rfl (by assumption) rfl ?_
          refine x_iload dX7_hot_107 rfl ?_
          first | refine x_ialdN (by assumption) dX7_hot_109 (by omega) (by decide) ?_ | refine x_iald (by assumption) dX7_hot_109 (by assumption) ?_
          rw [e1, e3, e4, xP.2.2.1]
          refine x_icmp_ne (tgt := 117) dX7_hot_110 (by decide) (fun c_110 => ?_) (fun c_110 => ?_)
          · have hE : ¬ mthF P.2.1 (f.2.2.2.1 j) * brwF (f.2.1 j) (nI i + (if f.2.2.1 j = 0 then 2 else 0)) = f.2.2.2.2 j := c_110
            refine x_iconst (v := 0) dX7_hot_117 (by decide) ?_
            refine x_istore (lv' := [(5, _), (7, _), (6, _), (4, _), (3, _), (2, _), (0, _), (1, _)]) dX7_hot_118 (by decide) rfl ?_
            first | refine x_inc1N (lv' := [(6, _), (5, _), (7, _), (4, _), (3, _), (2, _), (0, _), (1, _)]) dX7_hot_120 rfl (by decide) rfl ?_ | refine x_iinc (v := _ + 1) (lv' := [(6, _), (5, _), (7, _), (4, _), (3, _), (2, _), (0, _), (1, _)]) dX7_hot_120 rfl rfl (by decide) rfl ?_
            refine x_goto (tgt := 32) dX7_hot_123 (by decide) ?_
            refine x_wk [0, 1, 3, 4, 5, 6, 7] rfl ?_
            first
            | (refine ih (j + 1) false (by omega) ?_
               rw [← hb0, Bool.eq_false_iff.mpr c_69]; rfl)
            | (refine ih (j + 1) false (by omega) ?_
               rw [← hb0, c_69, fitU, if_neg hE]; rfl)
            | (refine ih (j + 1) true (by omega) ?_
               rw [← hb0, c_69, fitU, if_pos hE])
          · have hE : mthF P.2.1 (f.2.2.2.1 j) * brwF (f.2.1 j) (nI i + (if f.2.2.1 j = 0 then 2 else 0)) = f.2.2.2.2 j := c_110
            refine x_iconst (v := 1) dX7_hot_113 (by decide) ?_
            refine x_goto (tgt := 118) dX7_hot_114 (by decide) ?_
            refine x_istore (lv' := [(5, _), (7, _), (6, _), (4, _), (3, _), (2, _), (0, _), (1, _)]) dX7_hot_118 (by decide) rfl ?_
            first | refine x_inc1N (lv' := [(6, _), (5, _), (7, _), (4, _), (3, _), (2, _), (0, _), (1, _)]) dX7_hot_120 rfl (by decide) rfl ?_ | refine x_iinc (v := _ + 1) (lv' := [(6, _), (5, _), (7, _), (4, _), (3, _), (2, _), (0, _), (1, _)]) dX7_hot_120 rfl rfl (by decide) rfl ?_
            refine x_goto (tgt := 32) dX7_hot_123 (by decide) ?_
            refine x_wk [0, 1, 3, 4, 5, 6, 7] rfl ?_
            first
            | (refine ih (j + 1) false (by omega) ?_
               rw [← hb0, Bool.eq_false_iff.mpr c_69]; rfl)
            | (refine ih (j + 1) false (by omega) ?_
               rw [← hb0, c_69, fitU, if_neg hE]; rfl)
            | (refine ih (j + 1) true (by omega) ?_
               rw [← hb0, c_69, fitU, if_pos hE])
        · refine x_iconst (v := 2) dX7_hot_93 (by decide) ?_
          refine x_goto (tgt := 98) dX7_hot_94 (by decide) ?_
          refine x_iadd dX7_hot_98 ?_
          first
          | refine x_re (b := nI i + (if f.2.2.1 j = 0 then 2 else 0)) (by rw [if_neg (by rw [← e2]; exact c_90)]) ?_
          | refine x_re (b := nI i + (if f.2.2.1 j = 0 then 2 else 0)) (by rw [if_pos (by rw [← e2]; exact c_90)]) ?_
          refine kX7_124 dX7_hot_99 rfl (c_browner) (by decide) (Nat.le_of_ble_eq_true rfl) ?_
          refine x_imul dX7_hot_102 ?_
          refine x_aload_n dX7_hot_103 rfl rfl ?_
          refine gX7_68 dX7_hot_104 rfl (by assumption) rfl ?_
          refine x_iload dX7_hot_107 rfl ?_
          first | refine x_ialdN (by assumption) dX7_hot_109 (by omega) (by decide) ?_ | refine x_iald (by assumption) dX7_hot_109 (by assumption) ?_
          rw [e1, e3, e4, xP.2.2.1]
          refine x_icmp_ne (tgt := 117) dX7_hot_110 (by decide) (fun c_110 => ?_) (fun c_110 => ?_)
          · have hE : ¬ mthF P.2.1 (f.2.2.2.1 j) * brwF (f.2.1 j) (nI i + (if f.2.2.1 j = 0 then 2 else 0)) = f.2.2.2.2 j := c_110
            refine x_iconst (v := 0) dX7_hot_117 (by decide) ?_
            refine x_istore (lv' := [(5, _), (7, _), (6, _), (4, _), (3, _), (2, _), (0, _), (1, _)]) dX7_hot_118 (by decide) rfl ?_
            first | refine x_inc1N (lv' := [(6, _), (5, _), (7, _), (4, _), (3, _), (2, _), (0, _), (1, _)]) dX7_hot_120 rfl (by decide) rfl ?_ | refine x_iinc (v := _ + 1) (lv' := [(6, _), (5, _), (7, _), (4, _), (3, _), (2, _), (0, _), (1, _)]) dX7_hot_120 rfl rfl (by decide) rfl ?_
            refine x_goto (tgt := 32) dX7_hot_123 (by decide) ?_
            refine x_wk [0, 1, 3, 4, 5, 6, 7] rfl ?_
            first
            | (refine ih (j + 1) false (by omega) ?_
               rw [← hb0, Bool.eq_false_iff.mpr c_69]; rfl)
            | (refine ih (j + 1) false (by omega) ?_
               rw [← hb0, c_69, fitU, if_neg hE]; rfl)
            | (refine ih (j + 1) true (by omega) ?_
               rw [← hb0, c_69, fitU, if_pos hE])
          · have hE : mthF P.2.1 (f.2.2.2.1 j) * brwF (f.2.1 j) (nI i + (if f.2.2.1 j = 0 then 2 else 0)) = f.2.2.2.2 j := c_110
            refine x_iconst (v := 1) dX7_hot_113 (by decide) ?_
            refine x_goto (tgt := 118) dX7_hot_114 (by decide) ?_
            refine x_istore (lv' := [(5, _), (7, _), (6, _), (4, _), (3, _), (2, _), (0, _), (1, _)]) dX7_hot_118 (by decide) rfl ?_
            first | refine x_inc1N (lv' := [(6, _), (5, _), (7, _), (4, _), (3, _), (2, _), (0, _), (1, _)]) dX7_hot_120 rfl (by decide) rfl ?_ | refine x_iinc (v := _ + 1) (lv' := [(6, _), (5, _), (7, _), (4, _), (3, _), (2, _), (0, _), (1, _)]) dX7_hot_120 rfl rfl (by decide) rfl ?_
            refine x_goto (tgt := 32) dX7_hot_123 (by decide) ?_
            refine x_wk [0, 1, 3, 4, 5, 6, 7] rfl ?_
            first
            | (refine ih (j + 1) false (by omega) ?_
               rw [← hb0, Bool.eq_false_iff.mpr c_69]; rfl)
            | (refine ih (j + 1) false (by omega) ?_
               rw [← hb0, c_69, fitU, if_neg hE]; rfl)
            | (refine ih (j + 1) true (by omega) ?_
               rw [← hb0, c_69, fitU, if_pos hE])

set_option maxHeartbeats 1000000 in
set_option maxRecDepth 20000 in
theorem lm_hot {B : sB} {S : sSt} {T : Nat × (Nat → Nat)} {P : aP} {r : aR} {acts kept : List aR} {f : aF} (hm : shM B) (hX : RM S (T, P, r, acts, kept, f)) (hI : iA (T, P, r, acts, kept, f)) {w : Int32} :
    ∀ (k i q : Nat) (b : Option Nat), i + k = 31 → q ≤ i → (q = 0 ↔ b = none) → WS B (fun _ => True) yX7_hot cX7_hot 8 (some .int) 3 19 [(4, .int (nI i)), (3, .int (oI b)), (2, .int (nI q)), (0, .ref (s_ad B 102)), (1, .int w)] [] S (qI (if w = 0 then nI (q + cntU (fun h => fitU f P.2.1 (nI h) f.1 0) k i) else oI (b.or (fndU (fun h => fitU f P.2.1 (nI h) f.1 0) k i))) S) := by
  obtain ⟨hm0, h103, h104, h105, h106, h107, h108, h109, h110, h111, h112, h113, h114, h115, h116, h117, h118, h119, h120, h121, h122⟩ := id hm
  obtain ⟨xT, xP, xB, xA, xE, xF⟩ := id hX
  have xT : tM S T.2 T.1 := xT
  have xP : pM S P := xP
  have xB : ag (S 113) r := xB
  have xA : aM S acts := xA
  have xE : eM S kept := xE
  have xF : fM S f := xF
  have hn9 : P.1 ≤ 9 := xP.1
  have haN : isA B 113 := ⟨Or.inl rfl, h113⟩
  have haT : isA B 114 := ⟨Or.inr rfl, h114⟩
  obtain ⟨jP, jR, jA, jE, jF⟩ := id hI
  have jP : iP P := jP
  have jR : iR P r := jR
  have jF : iF f := jF
  have hn1 : 1 ≤ P.1 := jP.1
  intro k
  induction k with
  | zero =>
    intro i q b hi hq hbq
    refine x_iload dX7_hot_19 rfl ?_
    refine x_bipush (v := 30) dX7_hot_21 (by decide) ?_
    refine x_icmp_gt (tgt := 161) dX7_hot_23 (by decide) (fun c_23 => ?_) (fun c_23 => ?_)
    · refine x_iload_n dX7_hot_161 rfl rfl ?_
      refine x_if_ne (tgt := 169) dX7_hot_162 (by decide) (fun c_162 => ?_) (fun c_162 => ?_)
      · refine x_iload_n dX7_hot_169 rfl rfl ?_
        refine x_ireturn dX7_hot_170 rfl rfl ?_
        first
        | exact qI_of (by rw [if_neg c_162]; cases b <;> rfl) rfl
        | exact qI_of (by rw [if_pos c_162]; rfl) rfl
      · refine x_iload_n dX7_hot_165 rfl rfl ?_
        refine x_goto (tgt := 170) dX7_hot_166 (by decide) ?_
        refine x_ireturn dX7_hot_170 rfl rfl ?_
        first
        | exact qI_of (by rw [if_neg c_162]; cases b <;> rfl) rfl
        | exact qI_of (by rw [if_pos c_162]; rfl) rfl
    · exact absurd (show (30 : Int32) < nI i from nI_lt (a := 30) (by omega) (by omega)) c_23
  | succ k ih =>
    intro i q b hi hq hbq
    refine x_iload dX7_hot_19 rfl ?_
    refine x_bipush (v := 30) dX7_hot_21 (by decide) ?_
    refine x_icmp_gt (tgt := 161) dX7_hot_23 (by decide) (fun c_23 => ?_) (fun c_23 => ?_)
    · exact absurd c_23 (nI_nlt (a := 30) (by omega) (by omega))
    · refine x_iconst (v := 1) dX7_hot_26 (by decide) ?_
      refine x_istore (lv' := [(5, _), (4, _), (3, _), (2, _), (0, _), (1, _)]) dX7_hot_27 (by decide) rfl ?_
      refine x_iconst (v := 0) dX7_hot_29 (by decide) ?_
      refine x_istore (lv' := [(6, _), (5, _), (4, _), (3, _), (2, _), (0, _), (1, _)]) dX7_hot_30 (by decide) rfl ?_
      refine lm_hot2 hm hX hI (by omega) (fitU f P.2.1 (nI i) f.1 0) ?_ f.1 0 true (by omega) (Bool.true_and _)
      refine x_iload dX7_hot_126 rfl ?_
      refine x_ifeq_b (tgt := 140) dX7_hot_128 (by decide) (fun c_128 => ?_) (fun c_128 => ?_)
      · refine x_iload_n dX7_hot_140 rfl rfl ?_
        refine x_istore_n (lv' := [(3, _), (6, _), (5, _), (4, _), (2, _), (0, _), (1, _)]) dX7_hot_141 rfl (by decide) rfl ?_
        refine x_iload_n dX7_hot_142 rfl rfl ?_
        refine x_iload dX7_hot_143 rfl ?_
        refine x_ifeq_b (tgt := 152) dX7_hot_145 (by decide) (fun c_145 => ?_) (fun c_145 => ?_)
        · refine x_iconst (v := 0) dX7_hot_152 (by decide) ?_
          refine x_iadd dX7_hot_153 ?_
          first | refine x_re (nI_add q 1) ?_ | refine x_re (nI_add q 0) ?_
          refine x_istore_n (lv' := [(2, _), (3, _), (6, _), (5, _), (4, _), (0, _), (1, _)]) dX7_hot_154 rfl (by decide) rfl ?_
          first | refine x_inc1N (lv' := [(4, _), (2, _), (3, _), (6, _), (5, _), (0, _), (1, _)]) dX7_hot_155 rfl (by decide) rfl ?_ | refine x_iinc (v := _ + 1) (lv' := [(4, _), (2, _), (3, _), (6, _), (5, _), (0, _), (1, _)]) dX7_hot_155 rfl rfl (by decide) rfl ?_
          refine x_goto (tgt := 19) dX7_hot_158 (by decide) ?_
          refine x_wk [0, 2, 1, 5, 6] rfl ?_
          first
          | exact absurd c_145 c_128
          | exact absurd c_128 c_145
          | (rw [cntU, fndU, if_neg c_128, if_neg c_128, Nat.zero_add]; exact ih (i + 1) q b (by omega) (by omega) hbq)
          | (have hb4 : b = none := hbq.mp hq0
             subst hb4
             rw [cntU, fndU, if_pos c_128, if_pos c_128, show q + (1 + cntU (fun h => fitU f P.2.1 (nI h) f.1 0) k (i + 1)) = (q + 1) + cntU (fun h => fitU f P.2.1 (nI h) f.1 0) k (i + 1) by omega]
             exact ih (i + 1) (q + 1) (some i) (by omega) (by omega) (by simp))
          | (obtain ⟨j, rfl⟩ : ∃ j, b = some j := by
               cases b with
               | none => exact absurd (hbq.mpr rfl) hq0
               | some j => exact ⟨j, rfl⟩
             rw [cntU, fndU, if_pos c_128, if_pos c_128, show q + (1 + cntU (fun h => fitU f P.2.1 (nI h) f.1 0) k (i + 1)) = (q + 1) + cntU (fun h => fitU f P.2.1 (nI h) f.1 0) k (i + 1) by omega]
             exact ih (i + 1) (q + 1) (some j) (by omega) (by omega) (by simp))
        · refine x_iconst (v := 1) dX7_hot_148 (by decide) ?_
          refine x_goto (tgt := 153) dX7_hot_149 (by decide) ?_
          refine x_iadd dX7_hot_153 ?_
          first | refine x_re (nI_add q 1) ?_ | refine x_re (nI_add q 0) ?_
          refine x_istore_n (lv' := [(2, _), (3, _), (6, _), (5, _), (4, _), (0, _), (1, _)]) dX7_hot_154 rfl (by decide) rfl ?_
          first | refine x_inc1N (lv' := [(4, _), (2, _), (3, _), (6, _), (5, _), (0, _), (1, _)]) dX7_hot_155 rfl (by decide) rfl ?_ | refine x_iinc (v := _ + 1) (lv' := [(4, _), (2, _), (3, _), (6, _), (5, _), (0, _), (1, _)]) dX7_hot_155 rfl rfl (by decide) rfl ?_
          refine x_goto (tgt := 19) dX7_hot_158 (by decide) ?_
          refine x_wk [0, 2, 1, 5, 6] rfl ?_
          first
          | exact absurd c_145 c_128
          | exact absurd c_128 c_145
          | (rw [cntU, fndU, if_neg c_128, if_neg c_128, Nat.zero_add]; exact ih (i + 1) q b (by omega) (by omega) hbq)
          | (have hb4 : b = none := hbq.mp hq0
             subst hb4
             rw [cntU, fndU, if_pos c_128, if_pos c_128, show q + (1 + cntU (fun h => fitU f P.2.1 (nI h) f.1 0) k (i + 1)) = (q + 1) + cntU (fun h => fitU f P.2.1 (nI h) f.1 0) k (i + 1) by omega]
             exact ih (i + 1) (q + 1) (some i) (by omega) (by omega) (by simp))
          | (obtain ⟨j, rfl⟩ : ∃ j, b = some j := by
               cases b with
               | none => exact absurd (hbq.mpr rfl) hq0
               | some j => exact ⟨j, rfl⟩
             rw [cntU, fndU, if_pos c_128, if_pos c_128, show q + (1 + cntU (fun h => fitU f P.2.1 (nI h) f.1 0) k (i + 1)) = (q + 1) + cntU (fun h => fitU f P.2.1 (nI h) f.1 0) k (i + 1) by omega]
             exact ih (i + 1) (q + 1) (some j) (by omega) (by omega) (by simp))
      · refine x_iload_n dX7_hot_131 rfl rfl ?_
        refine x_if_ne (tgt := 140) dX7_hot_132 (by decide) (fun c_132 => ?_) (fun c_132 => ?_)
        · have hq0 : ¬ q = 0 := fun h => c_132 (by rw [h]; rfl)
          refine x_iload_n dX7_hot_140 rfl rfl ?_
          refine x_istore_n (lv' := [(3, _), (6, _), (5, _), (4, _), (2, _), (0, _), (1, _)]) dX7_hot_141 rfl (by decide) rfl ?_
          refine x_iload_n dX7_hot_142 rfl rfl ?_
          refine x_iload dX7_hot_143 rfl ?_
          refine x_ifeq_b (tgt := 152) dX7_hot_145 (by decide) (fun c_145 => ?_) (fun c_145 => ?_)
          · refine x_iconst (v := 0) dX7_hot_152 (by decide) ?_
            refine x_iadd dX7_hot_153 ?_
            first | refine x_re (nI_add q 1) ?_ | refine x_re (nI_add q 0) ?_
            refine x_istore_n (lv' := [(2, _), (3, _), (6, _), (5, _), (4, _), (0, _), (1, _)]) dX7_hot_154 rfl (by decide) rfl ?_
            first | refine x_inc1N (lv' := [(4, _), (2, _), (3, _), (6, _), (5, _), (0, _), (1, _)]) dX7_hot_155 rfl (by decide) rfl ?_ | refine x_iinc (v := _ + 1) (lv' := [(4, _), (2, _), (3, _), (6, _), (5, _), (0, _), (1, _)]) dX7_hot_155 rfl rfl (by decide) rfl ?_
            refine x_goto (tgt := 19) dX7_hot_158 (by decide) ?_
            refine x_wk [0, 2, 1, 5, 6] rfl ?_
            first
            | exact absurd c_145 c_128
            | exact absurd c_128 c_145
            | (rw [cntU, fndU, if_neg c_128, if_neg c_128, Nat.zero_add]; exact ih (i + 1) q b (by omega) (by omega) hbq)
            | (have hb4 : b = none := hbq.mp hq0
               subst hb4
               rw [cntU, fndU, if_pos c_128, if_pos c_128, show q + (1 + cntU (fun h => fitU f P.2.1 (nI h) f.1 0) k (i + 1)) = (q + 1) + cntU (fun h => fitU f P.2.1 (nI h) f.1 0) k (i + 1) by omega]
               exact ih (i + 1) (q + 1) (some i) (by omega) (by omega) (by simp))
            | (obtain ⟨j, rfl⟩ : ∃ j, b = some j := by
                 cases b with
                 | none => exact absurd (hbq.mpr rfl) hq0
                 | some j => exact ⟨j, rfl⟩
               rw [cntU, fndU, if_pos c_128, if_pos c_128, show q + (1 + cntU (fun h => fitU f P.2.1 (nI h) f.1 0) k (i + 1)) = (q + 1) + cntU (fun h => fitU f P.2.1 (nI h) f.1 0) k (i + 1) by omega]
               exact ih (i + 1) (q + 1) (some j) (by omega) (by omega) (by simp))
          · refine x_iconst (v := 1) dX7_hot_148 (by decide) ?_
            refine x_goto (tgt := 153) dX7_hot_149 (by decide) ?_
            refine x_iadd dX7_hot_153 ?_
            first | refine x_re (nI_add q 1) ?_ | refine x_re (nI_add q 0) ?_
            refine x_istore_n (lv' := [(2, _), (3, _), (6, _), (5, _), (4, _), (0, _), (1, _)]) dX7_hot_154 rfl (by decide) rfl ?_
            first | refine x_inc1N (lv' := [(4, _), (2, _), (3, _), (6, _), (5, _), (0, _), (1, _)]) dX7_hot_155 rfl (by decide) rfl ?_ | refine x_iinc (v := _ + 1) (lv' := [(4, _), (2, _), (3, _), (6, _), (5, _), (0, _), (1, _)]) dX7_hot_155 rfl rfl (by decide) rfl ?_
            refine x_goto (tgt := 19) dX7_hot_158 (by decide) ?_
            refine x_wk [0, 2, 1, 5, 6] rfl ?_
            first
            | exact absurd c_145 c_128
            | exact absurd c_128 c_145
            | (rw [cntU, fndU, if_neg c_128, if_neg c_128, Nat.zero_add]; exact ih (i + 1) q b (by omega) (by omega) hbq)
            | (have hb4 : b = none := hbq.mp hq0
               subst hb4
               rw [cntU, fndU, if_pos c_128, if_pos c_128, show q + (1 + cntU (fun h => fitU f P.2.1 (nI h) f.1 0) k (i + 1)) = (q + 1) + cntU (fun h => fitU f P.2.1 (nI h) f.1 0) k (i + 1) by omega]
               exact ih (i + 1) (q + 1) (some i) (by omega) (by omega) (by simp))
            | (obtain ⟨j, rfl⟩ : ∃ j, b = some j := by
                 cases b with
                 | none => exact absurd (hbq.mpr rfl) hq0
                 | some j => exact ⟨j, rfl⟩
               rw [cntU, fndU, if_pos c_128, if_pos c_128, show q + (1 + cntU (fun h => fitU f P.2.1 (nI h) f.1 0) k (i + 1)) = (q + 1) + cntU (fun h => fitU f P.2.1 (nI h) f.1 0) k (i + 1) by omega]
               exact ih (i + 1) (q + 1) (some j) (by omega) (by omega) (by simp))
        · have hq0 : q = 0 := (nI_eq (b := 0) (by omega) (by decide)).mp c_132
          refine x_iload dX7_hot_135 rfl ?_
          refine x_goto (tgt := 141) dX7_hot_137 (by decide) ?_
          refine x_istore_n (lv' := [(3, _), (6, _), (5, _), (4, _), (2, _), (0, _), (1, _)]) dX7_hot_141 rfl (by decide) rfl ?_
          refine x_iload_n dX7_hot_142 rfl rfl ?_
          refine x_iload dX7_hot_143 rfl ?_
          refine x_ifeq_b (tgt := 152) dX7_hot_145 (by decide) (fun c_145 => ?_) (fun c_145 => ?_)
          · refine x_iconst (v := 0) dX7_hot_152 (by decide) ?_
            refine x_iadd dX7_hot_153 ?_
            first | refine x_re (nI_add q 1) ?_ | refine x_re (nI_add q 0) ?_
            refine x_istore_n (lv' := [(2, _), (3, _), (6, _), (5, _), (4, _), (0, _), (1, _)]) dX7_hot_154 rfl (by decide) rfl ?_
            first | refine x_inc1N (lv' := [(4, _), (2, _), (3, _), (6, _), (5, _), (0, _), (1, _)]) dX7_hot_155 rfl (by decide) rfl ?_ | refine x_iinc (v := _ + 1) (lv' := [(4, _), (2, _), (3, _), (6, _), (5, _), (0, _), (1, _)]) dX7_hot_155 rfl rfl (by decide) rfl ?_
            refine x_goto (tgt := 19) dX7_hot_158 (by decide) ?_
            refine x_wk [0, 2, 1, 5, 6] rfl ?_
            first
            | exact absurd c_145 c_128
            | exact absurd c_128 c_145
            | (rw [cntU, fndU, if_neg c_128, if_neg c_128, Nat.zero_add]; exact ih (i + 1) q b (by omega) (by omega) hbq)
            | (have hb4 : b = none := hbq.mp hq0
               subst hb4
               rw [cntU, fndU, if_pos c_128, if_pos c_128, show q + (1 + cntU (fun h => fitU f P.2.1 (nI h) f.1 0) k (i + 1)) = (q + 1) + cntU (fun h => fitU f P.2.1 (nI h) f.1 0) k (i + 1) by omega]
               exact ih (i + 1) (q + 1) (some i) (by omega) (by omega) (by simp))
            | (obtain ⟨j, rfl⟩ : ∃ j, b = some j := by
                 cases b with
                 | none => exact absurd (hbq.mpr rfl) hq0
                 | some j => exact ⟨j, rfl⟩
               rw [cntU, fndU, if_pos c_128, if_pos c_128, show q + (1 + cntU (fun h => fitU f P.2.1 (nI h) f.1 0) k (i + 1)) = (q + 1) + cntU (fun h => fitU f P.2.1 (nI h) f.1 0) k (i + 1) by omega]
               exact ih (i + 1) (q + 1) (some j) (by omega) (by omega) (by simp))
          · refine x_iconst (v := 1) dX7_hot_148 (by decide) ?_
            refine x_goto (tgt := 153) dX7_hot_149 (by decide) ?_
            refine x_iadd dX7_hot_153 ?_
            first | refine x_re (nI_add q 1) ?_ | refine x_re (nI_add q 0) ?_
            refine x_istore_n (lv' := [(2, _), (3, _), (6, _), (5, _), (4, _), (0, _), (1, _)]) dX7_hot_154 rfl (by decide) rfl ?_
            first | refine x_inc1N (lv' := [(4, _), (2, _), (3, _), (6, _), (5, _), (0, _), (1, _)]) dX7_hot_155 rfl (by decide) rfl ?_ | refine x_iinc (v := _ + 1) (lv' := [(4, _), (2, _), (3, _), (6, _), (5, _), (0, _), (1, _)]) dX7_hot_155 rfl rfl (by decide) rfl ?_
            refine x_goto (tgt := 19) dX7_hot_158 (by decide) ?_
            refine x_wk [0, 2, 1, 5, 6] rfl ?_
            first
            | exact absurd c_145 c_128
            | exact absurd c_128 c_145
            | (rw [cntU, fndU, if_neg c_128, if_neg c_128, Nat.zero_add]; exact ih (i + 1) q b (by omega) (by omega) hbq)
            | (have hb4 : b = none := hbq.mp hq0
               subst hb4
               rw [cntU, fndU, if_pos c_128, if_pos c_128, show q + (1 + cntU (fun h => fitU f P.2.1 (nI h) f.1 0) k (i + 1)) = (q + 1) + cntU (fun h => fitU f P.2.1 (nI h) f.1 0) k (i + 1) by omega]
               exact ih (i + 1) (q + 1) (some i) (by omega) (by omega) (by simp))
            | (obtain ⟨j, rfl⟩ : ∃ j, b = some j := by
                 cases b with
                 | none => exact absurd (hbq.mpr rfl) hq0
                 | some j => exact ⟨j, rfl⟩
               rw [cntU, fndU, if_pos c_128, if_pos c_128, show q + (1 + cntU (fun h => fitU f P.2.1 (nI h) f.1 0) k (i + 1)) = (q + 1) + cntU (fun h => fitU f P.2.1 (nI h) f.1 0) k (i + 1) by omega]
               exact ih (i + 1) (q + 1) (some j) (by omega) (by omega) (by simp))

set_option maxHeartbeats 1000000 in
set_option maxRecDepth 20000 in
theorem cM_hot {B : sB} {S : sSt} {T : Nat × (Nat → Nat)} {P : aP} {r : aR} {acts kept : List aR} {f : aF} (hm : shM B) (hX : RM S (T, P, r, acts, kept, f)) (hI : iA (T, P, r, acts, kept, f)) {w : Int32} : CS B yX7_hot cX7_hot 8 (some .int) 3 [.ref (s_ad B 102), .int w] S (qR S (o_hot (T, P, r, acts, kept, f) w)) := by
  refine cs_intro (lv := [(0, .ref (s_ad B 102)), (1, .int w)]) rfl ?_
  obtain ⟨hm0, h103, h104, h105, h106, h107, h108, h109, h110, h111, h112, h113, h114, h115, h116, h117, h118, h119, h120, h121, h122⟩ := id hm
  obtain ⟨xT, xP, xB, xA, xE, xF⟩ := id hX
  have xT : tM S T.2 T.1 := xT
  have xP : pM S P := xP
  have xB : ag (S 113) r := xB
  have xA : aM S acts := xA
  have xE : eM S kept := xE
  have xF : fM S f := xF
  have hn9 : P.1 ≤ 9 := xP.1
  have haN : isA B 113 := ⟨Or.inl rfl, h113⟩
  have haT : isA B 114 := ⟨Or.inr rfl, h114⟩
  obtain ⟨jP, jR, jA, jE, jF⟩ := id hI
  have jP : iP P := jP
  have jR : iR P r := jR
  have jF : iF f := jF
  have hn1 : 1 ≤ P.1 := jP.1
  refine x_iload_n dX7_hot_0 rfl rfl ?_
  refine x_iconst (v := 0) dX7_hot_1 (by decide) ?_
  refine x_iconst (v := 1) dX7_hot_2 (by decide) ?_
  refine kX7_78 dX7_hot_3 rfl (c_in) (by decide) (Nat.le_of_ble_eq_true rfl) ?_
  refine x_ifne_b (tgt := 11) dX7_hot_6 (by decide) (fun c_6 => ?_) (fun c_6 => ?_)
  · refine x_iconst (v := 0) dX7_hot_11 (by decide) ?_
    refine x_istore_n (lv' := [(2, _), (0, _), (1, _)]) dX7_hot_12 rfl (by decide) rfl ?_
    refine x_bipush (v := (-4)) dX7_hot_13 (by decide) ?_
    refine x_istore_n (lv' := [(3, _), (2, _), (0, _), (1, _)]) dX7_hot_15 rfl (by decide) rfl ?_
    refine x_iconst (v := 0) dX7_hot_16 (by decide) ?_
    refine x_istore (lv' := [(4, _), (3, _), (2, _), (0, _), (1, _)]) dX7_hot_17 (by decide) rfl ?_
    refine x_post (fun v S2 hq => ?_) (lm_hot hm hX hI (w := w) 31 0 0 none (by omega) (Nat.le_refl 0) (by simp))
    obtain ⟨p1, rfl⟩ := hq
    cases p1
    exact qR_of (by rw [o_hot, if_pos (wn_iff.mpr c_6)]) (by rw [Nat.zero_add]; rfl) hX frM_rfl
  · refine x_iconst (v := (-1)) dX7_hot_9 (by decide) ?_
    refine x_ireturn dX7_hot_10 rfl rfl ?_
    exact qR_of (by rw [o_hot, if_neg (fun h => c_6 (wn_iff.mp h))]) rfl hX frM_rfl

set_option maxHeartbeats 1000000 in
set_option maxRecDepth 20000 in
theorem lm_part {B : sB} {S : sSt} {u d : Nat} {w : Int32} (hu : u ≤ 9) (hd : d ≤ 9) :
    ∀ (b : Nat), b ≤ 9 → ∀ (a : Nat), a ≤ 9 → 1 ≤ a + b → Nat.gcd a b = Nat.gcd u d → 1 ≤ Nat.gcd u d → WS B (fun _ => True) yX7_part cX7_part 6 (some .int) 1 5 [(4, .int (nI b)), (3, .int (nI a)), (0, .int (nI u)), (1, .int (nI d)), (2, .int w)] [] S (qI (if w = 0 then nI (u / Nat.gcd u d) else nI (d / Nat.gcd u d)) S) := by
  intro b
  induction b using Nat.strongRecOn with
  | _ b ih =>
    intro hb a ha hab hg hgp
    have hg9 : Nat.gcd u d ≤ 9 := by
      rw [← hg]
      rcases Nat.eq_zero_or_pos b with h0 | h0
      · rw [h0, Nat.gcd_zero_right]; exact ha
      · exact Nat.le_trans (Nat.gcd_le_right a h0) hb
    refine x_iload dX7_part_5 rfl ?_
    refine x_if_eq (tgt := 26) dX7_part_7 (by decide) (fun c_7 => ?_) (fun c_7 => ?_)
    · have hb0 : b = 0 := (nI_eq (b := 0) (by omega) (by decide)).mp c_7
      subst hb0
      rw [Nat.gcd_zero_right] at hg
      subst hg
      have ha0 : ¬ nI (Nat.gcd u d) = 0 := nI_ne0 (by omega) (by omega)
      refine x_iload_n dX7_part_26 rfl rfl ?_
      refine x_if_ne (tgt := 36) dX7_part_27 (by decide) (fun c_27 => ?_) (fun c_27 => ?_)
      · refine x_iload_n dX7_part_36 rfl rfl ?_
        refine x_iload_n dX7_part_37 rfl rfl ?_
        refine x_idiv dX7_part_38 ha0 ?_
        refine x_re (pk_div (by omega) (by omega) (by omega)) ?_
        refine x_ireturn dX7_part_39 rfl rfl ?_
        first
        | exact qI_of (by rw [if_neg c_27]) rfl
        | exact qI_of (by rw [if_pos c_27]) rfl
      · refine x_iload_n dX7_part_30 rfl rfl ?_
        refine x_iload_n dX7_part_31 rfl rfl ?_
        refine x_idiv dX7_part_32 ha0 ?_
        refine x_re (pk_div (by omega) (by omega) (by omega)) ?_
        refine x_goto (tgt := 39) dX7_part_33 (by decide) ?_
        refine x_ireturn dX7_part_39 rfl rfl ?_
        first
        | exact qI_of (by rw [if_neg c_27]) rfl
        | exact qI_of (by rw [if_pos c_27]) rfl
    · have hb0 : ¬ b = 0 := fun h => c_7 (by rw [h]; rfl)
      refine x_iload_n dX7_part_10 rfl rfl ?_
      refine x_iload dX7_part_11 rfl ?_
      refine x_irem dX7_part_13 (nI_ne0 (by omega) (by omega)) ?_
      refine x_re (b := nI (a % b)) (pk_rem (by omega) (by omega) (by omega)) ?_
      refine x_istore (lv' := [(5, _), (4, _), (3, _), (0, _), (1, _), (2, _)]) dX7_part_14 (by decide) rfl ?_
      refine x_iload dX7_part_16 rfl ?_
      refine x_istore_n (lv' := [(3, _), (5, _), (4, _), (0, _), (1, _), (2, _)]) dX7_part_18 rfl (by decide) rfl ?_
      refine x_iload dX7_part_19 rfl ?_
      refine x_istore (lv' := [(4, _), (3, _), (5, _), (0, _), (1, _), (2, _)]) dX7_part_21 (by decide) rfl ?_
      refine x_goto (tgt := 5) dX7_part_23 (by decide) ?_
      refine x_wk [0, 1, 3, 4, 5] rfl ?_
      have hml := Nat.mod_lt a (show b > 0 by omega)
      exact ih (a % b) hml (by omega) b hb (by omega) (by rw [← hg, Nat.gcd_comm a b, Nat.gcd_rec b a, Nat.gcd_comm]) hgp

set_option maxHeartbeats 1000000 in
set_option maxRecDepth 20000 in
theorem c_part {B : sB} {S : sSt} {u d : Nat} {w : Int32} (hu : u ≤ 9) (hd : d ≤ 9) (hd1 : 1 ≤ d) : CS B yX7_part cX7_part 6 (some .int) 1 [.int (nI u), .int (nI d), .int w] S (qI (if w = 0 then nI (u / Nat.gcd u d) else nI (d / Nat.gcd u d)) S) := by
  refine cs_intro (lv := [(0, .int (nI u)), (1, .int (nI d)), (2, .int w)]) rfl ?_
  refine x_iload_n dX7_part_0 rfl rfl ?_
  refine x_istore_n (lv' := [(3, _), (0, _), (1, _), (2, _)]) dX7_part_1 rfl (by decide) rfl ?_
  refine x_iload_n dX7_part_2 rfl rfl ?_
  refine x_istore (lv' := [(4, _), (3, _), (0, _), (1, _), (2, _)]) dX7_part_3 (by decide) rfl ?_
  exact lm_part hu hd d hd u hu (by omega) rfl (gcd_pos9 hd1)

set_option maxHeartbeats 1000000 in
set_option maxRecDepth 20000 in
theorem lm_left {B : sB} {S : sSt} {T : Nat × (Nat → Nat)} {P : aP} {r : aR} {acts kept : List aR} {f : aF} (hm : shM B) (hX : RM S (T, P, r, acts, kept, f)) {g : Nat} {n w : Int32} {Q : Option Value → sSt → Prop} (hg : g < P.1) (hex : WS B (fun _ => True) yX7_left cX7_left 6 (some .int) 3 106 [(5, .int (nI P.1)), (4, .int (nI (alkF P r g))), (0, .ref (s_ad B 102)), (1, .int (nI g)), (2, .int n), (3, .int w)] [] S Q) :
    ∀ (k i q : Nat), i + k = P.1 → q ≤ i → q + cntU (fun s => (r (3 + s) == 2) && (P.2.2.2.1 s == P.2.2.2.1 g)) k i = alkF P r g → WS B (fun _ => True) yX7_left cX7_left 6 (some .int) 3 50 [(5, .int (nI i)), (4, .int (nI q)), (0, .ref (s_ad B 102)), (1, .int (nI g)), (2, .int n), (3, .int w)] [] S Q := by
  obtain ⟨hm0, h103, h104, h105, h106, h107, h108, h109, h110, h111, h112, h113, h114, h115, h116, h117, h118, h119, h120, h121, h122⟩ := id hm
  obtain ⟨xT, xP, xB, xA, xE, xF⟩ := id hX
  have xT : tM S T.2 T.1 := xT
  have xP : pM S P := xP
  have xB : ag (S 113) r := xB
  have xA : aM S acts := xA
  have xE : eM S kept := xE
  have xF : fM S f := xF
  have hn9 : P.1 ≤ 9 := xP.1
  have haN : isA B 113 := ⟨Or.inl rfl, h113⟩
  have haT : isA B 114 := ⟨Or.inr rfl, h114⟩
  have hn := xP.2.1
  have hkg := (xP.2.2.2.2 g hg).1
  intro k
  induction k with
  | zero =>
    intro i q hi hq hcnt
    refine x_iload dX7_left_50 rfl ?_
    refine x_aload_n dX7_left_52 rfl rfl ?_
    refine gX7_13 dX7_left_53 rfl (by assumption) rfl ?_
    refine x_iconst (v := 0) dX7_left_56 (by decide) ?_
    refine x_ialdN (j := 0) (by assumption) dX7_left_57 (by decide) (by decide) ?_
    refine x_icmp_ge (tgt := 106) dX7_left_58 (by decide) (fun c_58 => ?_) (fun c_58 => ?_)
    · rw [show i = P.1 by omega]
      rw [show q = alkF P r g from by rw [← hcnt]; rfl]
      exact hex
    · exact absurd (by rw [hn, ← hi]; exact nI_le (by omega) (by omega)) c_58
  | succ k ih =>
    intro i q hi hq hcnt
    have hri := xB (3 + i) (by omega)
    have hki := (xP.2.2.2.2 i (by omega)).1
    refine x_iload dX7_left_50 rfl ?_
    refine x_aload_n dX7_left_52 rfl rfl ?_
    refine gX7_13 dX7_left_53 rfl (by assumption) rfl ?_
    refine x_iconst (v := 0) dX7_left_56 (by decide) ?_
    refine x_ialdN (j := 0) (by assumption) dX7_left_57 (by decide) (by decide) ?_
    refine x_icmp_ge (tgt := 106) dX7_left_58 (by decide) (fun c_58 => ?_) (fun c_58 => ?_)
    · exact absurd c_58 (by rw [hn]; exact nI_ge (by omega) (by omega))
    · refine x_iload dX7_left_61 rfl ?_
      refine x_aload_n dX7_left_63 rfl rfl ?_
      refine gX7_41 dX7_left_64 rfl (by assumption) rfl ?_
      refine x_iconst (v := 3) dX7_left_67 (by decide) ?_
      refine x_iload dX7_left_68 rfl ?_
      refine x_iadd dX7_left_70 ?_
      first | refine x_re (nI_add 3 _) ?_ | skip
      first | refine x_ialdN (by assumption) dX7_left_71 (by omega) (by decide) ?_ | refine x_iald (by assumption) dX7_left_71 (by assumption) ?_
      refine x_iconst (v := 2) dX7_left_72 (by decide) ?_
      refine x_icmp_ne (tgt := 96) dX7_left_73 (by decide) (fun c_73 => ?_) (fun c_73 => ?_)
      · refine x_iconst (v := 0) dX7_left_96 (by decide) ?_
        refine x_iadd dX7_left_97 ?_
        first | refine x_re (nI_add q 1) ?_ | refine x_re (nI_add q 0) ?_
        refine x_istore (lv' := [(4, _), (5, _), (0, _), (1, _), (2, _), (3, _)]) dX7_left_98 (by decide) rfl ?_
        first | refine x_inc1N (lv' := [(5, _), (4, _), (0, _), (1, _), (2, _), (3, _)]) dX7_left_100 rfl (by decide) rfl ?_ | refine x_iinc (v := _ + 1) (lv' := [(5, _), (4, _), (0, _), (1, _), (2, _), (3, _)]) dX7_left_100 rfl rfl (by decide) rfl ?_
        refine x_goto (tgt := 50) dX7_left_103 (by decide) ?_
        refine x_wk [0, 1, 2, 3, 4, 5] rfl ?_
        first
        | exact ih (i + 1) (q + 1) (by omega) (by omega) (by rw [← hcnt, cntU, if_pos (by rw [Bool.and_eq_true, beq_iff_eq, beq_iff_eq, ← hri, ← hki, ← hkg]; exact ⟨c_73, c_89⟩)]; omega)
        | exact ih (i + 1) q (by omega) (by omega) (by rw [← hcnt, cntU, if_neg (by rw [Bool.and_eq_true, beq_iff_eq, beq_iff_eq, ← hri, ← hki, ← hkg]; exact fun z => c_73 z.1)]; omega)
        | exact ih (i + 1) q (by omega) (by omega) (by rw [← hcnt, cntU, if_neg (by rw [Bool.and_eq_true, beq_iff_eq, beq_iff_eq, ← hri, ← hki, ← hkg]; exact fun z => c_89 z.2)]; omega)
      · refine x_aload_n dX7_left_76 rfl rfl ?_
        refine gX7_29 dX7_left_77 rfl (by assumption) rfl ?_
        refine x_iload dX7_left_80 rfl ?_
        first | refine x_ialdN (by assumption) dX7_left_82 (by omega) (by decide) ?_ | refine x_iald (by assumption) dX7_left_82 (by assumption) ?_
        refine x_aload_n dX7_left_83 rfl rfl ?_
        refine gX7_29 dX7_left_84 rfl (by assumption) rfl ?_
        refine x_iload_n dX7_left_87 rfl rfl ?_
        first | refine x_ialdN (by assumption) dX7_left_88 (by omega) (by decide) ?_ | refine x_iald (by assumption) dX7_left_88 (by assumption) ?_
        refine x_icmp_ne (tgt := 96) dX7_left_89 (by decide) (fun c_89 => ?_) (fun c_89 => ?_)
        · refine x_iconst (v := 0) dX7_left_96 (by decide) ?_
          refine x_iadd dX7_left_97 ?_
          first | refine x_re (nI_add q 1) ?_ | refine x_re (nI_add q 0) ?_
          refine x_istore (lv' := [(4, _), (5, _), (0, _), (1, _), (2, _), (3, _)]) dX7_left_98 (by decide) rfl ?_
          first | refine x_inc1N (lv' := [(5, _), (4, _), (0, _), (1, _), (2, _), (3, _)]) dX7_left_100 rfl (by decide) rfl ?_ | refine x_iinc (v := _ + 1) (lv' := [(5, _), (4, _), (0, _), (1, _), (2, _), (3, _)]) dX7_left_100 rfl rfl (by decide) rfl ?_
          refine x_goto (tgt := 50) dX7_left_103 (by decide) ?_
          refine x_wk [0, 1, 2, 3, 4, 5] rfl ?_
          first
          | exact ih (i + 1) (q + 1) (by omega) (by omega) (by rw [← hcnt, cntU, if_pos (by rw [Bool.and_eq_true, beq_iff_eq, beq_iff_eq, ← hri, ← hki, ← hkg]; exact ⟨c_73, c_89⟩)]; omega)
          | exact ih (i + 1) q (by omega) (by omega) (by rw [← hcnt, cntU, if_neg (by rw [Bool.and_eq_true, beq_iff_eq, beq_iff_eq, ← hri, ← hki, ← hkg]; exact fun z => c_73 z.1)]; omega)
          | exact ih (i + 1) q (by omega) (by omega) (by rw [← hcnt, cntU, if_neg (by rw [Bool.and_eq_true, beq_iff_eq, beq_iff_eq, ← hri, ← hki, ← hkg]; exact fun z => c_89 z.2)]; omega)
        · refine x_iconst (v := 1) dX7_left_92 (by decide) ?_
          refine x_goto (tgt := 97) dX7_left_93 (by decide) ?_
          refine x_iadd dX7_left_97 ?_
          first | refine x_re (nI_add q 1) ?_ | refine x_re (nI_add q 0) ?_
          refine x_istore (lv' := [(4, _), (5, _), (0, _), (1, _), (2, _), (3, _)]) dX7_left_98 (by decide) rfl ?_
          first | refine x_inc1N (lv' := [(5, _), (4, _), (0, _), (1, _), (2, _), (3, _)]) dX7_left_100 rfl (by decide) rfl ?_ | refine x_iinc (v := _ + 1) (lv' := [(5, _), (4, _), (0, _), (1, _), (2, _), (3, _)]) dX7_left_100 rfl rfl (by decide) rfl ?_
          refine x_goto (tgt := 50) dX7_left_103 (by decide) ?_
          refine x_wk [0, 1, 2, 3, 4, 5] rfl ?_
          first
          | exact ih (i + 1) (q + 1) (by omega) (by omega) (by rw [← hcnt, cntU, if_pos (by rw [Bool.and_eq_true, beq_iff_eq, beq_iff_eq, ← hri, ← hki, ← hkg]; exact ⟨c_73, c_89⟩)]; omega)
          | exact ih (i + 1) q (by omega) (by omega) (by rw [← hcnt, cntU, if_neg (by rw [Bool.and_eq_true, beq_iff_eq, beq_iff_eq, ← hri, ← hki, ← hkg]; exact fun z => c_73 z.1)]; omega)
          | exact ih (i + 1) q (by omega) (by omega) (by rw [← hcnt, cntU, if_neg (by rw [Bool.and_eq_true, beq_iff_eq, beq_iff_eq, ← hri, ← hki, ← hkg]; exact fun z => c_89 z.2)]; omega)

set_option maxHeartbeats 1000000 in
set_option maxRecDepth 20000 in
theorem cM_left {B : sB} {S : sSt} {T : Nat × (Nat → Nat)} {P : aP} {r : aR} {acts kept : List aR} {f : aF} (hm : shM B) (hX : RM S (T, P, r, acts, kept, f)) (hI : iA (T, P, r, acts, kept, f)) {x n w : Int32} : CS B yX7_left cX7_left 6 (some .int) 3 [.ref (s_ad B 102), .int x, .int n, .int w] S (qR S (o_left (T, P, r, acts, kept, f) x n w)) := by
  refine cs_intro (lv := [(0, .ref (s_ad B 102)), (1, .int x), (2, .int n), (3, .int w)]) rfl ?_
  obtain ⟨hm0, h103, h104, h105, h106, h107, h108, h109, h110, h111, h112, h113, h114, h115, h116, h117, h118, h119, h120, h121, h122⟩ := id hm
  obtain ⟨xT, xP, xB, xA, xE, xF⟩ := id hX
  have xT : tM S T.2 T.1 := xT
  have xP : pM S P := xP
  have xB : ag (S 113) r := xB
  have xA : aM S acts := xA
  have xE : eM S kept := xE
  have xF : fM S f := xF
  have hn9 : P.1 ≤ 9 := xP.1
  have haN : isA B 113 := ⟨Or.inl rfl, h113⟩
  have haT : isA B 114 := ⟨Or.inr rfl, h114⟩
  obtain ⟨jP, jR, jA, jE, jF⟩ := id hI
  have jP : iP P := jP
  have jR : iR P r := jR
  have jF : iF f := jF
  have hn1 : 1 ≤ P.1 := jP.1
  refine x_aload_n dX7_left_0 rfl rfl ?_
  refine x_iload_n dX7_left_1 rfl rfl ?_
  refine kX7_132 dX7_left_2 rfl (by assumption) (cm_isGuest hm hX hn1) (by decide) (Nat.le_of_ble_eq_true rfl) ?_
  refine x_ifeq_b (tgt := 27) dX7_left_5 (by decide) (fun c_5 => ?_) (fun c_5 => ?_)
  · refine x_iconst (v := (-1)) dX7_left_27 (by decide) ?_
    refine x_ireturn dX7_left_28 rfl rfl ?_
    first
    | exact qR_of (by rw [o_left, if_neg (by simp only [Bool.and_eq_true, wn_iff]; exact fun z => c_5 z.1)]) rfl hX frM_rfl
    | exact qR_of (by rw [o_left, if_neg (by simp only [Bool.and_eq_true, wn_iff]; exact fun z => c_15 z.2.1)]) rfl hX frM_rfl
    | exact qR_of (by rw [o_left, if_neg (by simp only [Bool.and_eq_true, wn_iff]; exact fun z => c_24 z.2.2)]) rfl hX frM_rfl
  · have hgk := c_5
    obtain ⟨g, hg, rfl⟩ : ∃ g, g < P.1 ∧ x = nI g := ⟨_, gok_nI c_5⟩
    have hgc : (nI g).toNatClampNeg = g := nI_clamp (by omega)
    have b1 := xB (3 + g) (by omega)
    refine x_iload_n dX7_left_8 rfl rfl ?_
    refine x_iconst (v := 0) dX7_left_9 (by decide) ?_
    refine x_bipush (v := 8) dX7_left_10 (by decide) ?_
    refine kX7_78 dX7_left_12 rfl (c_in) (by decide) (Nat.le_of_ble_eq_true rfl) ?_
    refine x_ifeq_b (tgt := 27) dX7_left_15 (by decide) (fun c_15 => ?_) (fun c_15 => ?_)
    · refine x_iconst (v := (-1)) dX7_left_27 (by decide) ?_
      refine x_ireturn dX7_left_28 rfl rfl ?_
      first
      | exact qR_of (by rw [o_left, if_neg (by simp only [Bool.and_eq_true, wn_iff]; exact fun z => c_5 z.1)]) rfl hX frM_rfl
      | exact qR_of (by rw [o_left, if_neg (by simp only [Bool.and_eq_true, wn_iff]; exact fun z => c_15 z.2.1)]) rfl hX frM_rfl
      | exact qR_of (by rw [o_left, if_neg (by simp only [Bool.and_eq_true, wn_iff]; exact fun z => c_24 z.2.2)]) rfl hX frM_rfl
    · refine x_iload_n dX7_left_18 rfl rfl ?_
      refine x_iconst (v := 0) dX7_left_19 (by decide) ?_
      refine x_iconst (v := 1) dX7_left_20 (by decide) ?_
      refine kX7_78 dX7_left_21 rfl (c_in) (by decide) (Nat.le_of_ble_eq_true rfl) ?_
      refine x_ifne_b (tgt := 29) dX7_left_24 (by decide) (fun c_24 => ?_) (fun c_24 => ?_)
      · have hok : (gok P (nI g) && (wn n 0 8 && wn w 0 1)) = true := by simp only [Bool.and_eq_true, wn_iff]; exact ⟨hgk, c_15, c_24⟩
        obtain ⟨nn, hnn, rfl⟩ := wn_nI (n := 8) (m := 8) (by decide) (by decide) (wn_iff.mpr c_15)
        have hnc : (nI nn).toNatClampNeg = nn := nI_clamp (by omega)
        refine x_aload_n dX7_left_29 rfl rfl ?_
        refine gX7_41 dX7_left_30 rfl (by assumption) rfl ?_
        refine x_iconst (v := 3) dX7_left_33 (by decide) ?_
        refine x_iload_n dX7_left_34 rfl rfl ?_
        refine x_iadd dX7_left_35 ?_
        first | refine x_re (nI_add 3 _) ?_ | skip
        first | refine x_ialdN (by assumption) dX7_left_36 (by omega) (by decide) ?_ | refine x_iald (by assumption) dX7_left_36 (by assumption) ?_
        refine x_iconst (v := 2) dX7_left_37 (by decide) ?_
        rw [b1]
        refine x_icmp_eq (tgt := 44) dX7_left_38 (by decide) (fun c_38 => ?_) (fun c_38 => ?_)
        · refine x_iconst (v := 0) dX7_left_44 (by decide) ?_
          refine x_istore (lv' := [(4, _), (0, _), (1, _), (2, _), (3, _)]) dX7_left_45 (by decide) rfl ?_
          refine x_iconst (v := 0) dX7_left_47 (by decide) ?_
          refine x_istore (lv' := [(5, _), (4, _), (0, _), (1, _), (2, _), (3, _)]) dX7_left_48 (by decide) rfl ?_
          have hm1 : 1 ≤ alkF P r g := cntU_pos (j := g) (by omega) (by omega) (by rw [c_38]; simp)
          have hm9 : alkF P r g ≤ 9 := Nat.le_trans (cntU_le _ _ _) hn9
          refine lm_left hm hX hg ?_ P.1 0 0 (by omega) (Nat.le_refl 0) (by rw [Nat.zero_add]; rfl)
          generalize hmm : alkF P r g = mm at hm1 hm9
          refine x_iload_n dX7_left_106 rfl rfl ?_
          refine x_iload dX7_left_107 rfl ?_
          refine x_icmp_le (tgt := 116) dX7_left_109 (by decide) (fun c_109 => ?_) (fun c_109 => ?_)
          · have hle : nn ≤ mm := (nI_leI (by omega) (by omega)).mp c_109
            refine x_iload dX7_left_116 rfl ?_
            refine x_iload_n dX7_left_118 rfl rfl ?_
            refine x_isub dX7_left_119 ?_
            first
            | refine x_re (b := nI (mm - nn)) (pk_sub hle) ?_
            | refine x_re (b := nI (mm - nn)) (by rw [show mm - nn = 0 by omega]; rfl) ?_
            refine x_iload dX7_left_120 rfl ?_
            refine x_iload_n dX7_left_122 rfl rfl ?_
            refine kX7_192 dX7_left_123 rfl (c_part (by omega) hm9 hm1) (by decide) (Nat.le_of_ble_eq_true rfl) ?_
            refine x_ireturn dX7_left_126 rfl rfl ?_
            exact qR_of (by rw [o_left, if_pos hok, hgc, hnc, if_pos c_38, hmm]) rfl hX frM_rfl
          · have hle : mm < nn := by
              rcases Nat.lt_or_ge mm nn with h | h
              · exact h
              · exact absurd (nI_le h (by omega)) c_109
            refine x_iconst (v := 0) dX7_left_112 (by decide) ?_
            refine x_goto (tgt := 120) dX7_left_113 (by decide) ?_
            first
            | refine x_re (b := nI (mm - nn)) (pk_sub hle) ?_
            | refine x_re (b := nI (mm - nn)) (by rw [show mm - nn = 0 by omega]; rfl) ?_
            refine x_iload dX7_left_120 rfl ?_
            refine x_iload_n dX7_left_122 rfl rfl ?_
            refine kX7_192 dX7_left_123 rfl (c_part (by omega) hm9 hm1) (by decide) (Nat.le_of_ble_eq_true rfl) ?_
            refine x_ireturn dX7_left_126 rfl rfl ?_
            exact qR_of (by rw [o_left, if_pos hok, hgc, hnc, if_pos c_38, hmm]) rfl hX frM_rfl
        · refine x_bipush (v := (-2)) dX7_left_41 (by decide) ?_
          refine x_ireturn dX7_left_43 rfl rfl ?_
          exact qR_of (by rw [o_left, if_pos hok, hgc, if_neg c_38]) rfl hX frM_rfl
      · refine x_iconst (v := (-1)) dX7_left_27 (by decide) ?_
        refine x_ireturn dX7_left_28 rfl rfl ?_
        first
        | exact qR_of (by rw [o_left, if_neg (by simp only [Bool.and_eq_true, wn_iff]; exact fun z => c_5 z.1)]) rfl hX frM_rfl
        | exact qR_of (by rw [o_left, if_neg (by simp only [Bool.and_eq_true, wn_iff]; exact fun z => c_15 z.2.1)]) rfl hX frM_rfl
        | exact qR_of (by rw [o_left, if_neg (by simp only [Bool.and_eq_true, wn_iff]; exact fun z => c_24 z.2.2)]) rfl hX frM_rfl

set_option maxHeartbeats 1000000 in
set_option maxRecDepth 20000 in
theorem lm_takeRight {B : sB} {S : sSt} {P : aP} {r : aR} {g : Nat} (hm : shM B) (hP : pM S P) (hr : ag (S 114) r) (hg : g < P.1) : ∀ (k i : Nat), i + k = P.1 → WS B (fun _ => True) yX7_takeRight cX7_takeRight 3 none 4 2 [(2, .int (nI i)), (0, .ref (s_ad B 102)), (1, .int (nI g))] [] S (qM S 114 (match fndU (fun s => canT P r g s && rgt P r g s) k i with | some s => eatF r g s | none => r)) := by
  obtain ⟨hm0, h103, h104, h105, h106, h107, h108, h109, h110, h111, h112, h113, h114, h115, h116, h117, h118, h119, h120, h121, h122⟩ := id hm
  have ha : isA B 114 := ⟨Or.inr rfl, h114⟩
  obtain ⟨hn9, hn, hlen, hmst, hPi⟩ := id hP
  intro k
  induction k with
  | zero =>
    intro i hi
    refine x_iload_n dX7_takeRight_2 rfl rfl ?_
    refine x_aload_n dX7_takeRight_3 rfl rfl ?_
    refine gX7_13 dX7_takeRight_4 rfl (by assumption) rfl ?_
    refine x_iconst (v := 0) dX7_takeRight_7 (by decide) ?_
    refine x_ialdN (j := 0) (by assumption) dX7_takeRight_8 (by decide) (by decide) ?_
    refine x_icmp_ge (tgt := 55) dX7_takeRight_9 (by decide) (fun c_9 => ?_) (fun c_9 => ?_)
    · refine x_return dX7_takeRight_55 rfl ?_
      exact ⟨rfl, chM_rfl hr⟩
    · exact absurd (by rw [hn, ← hi]; exact nI_le (by omega) (by omega)) c_9
  | succ k ih =>
    intro i hi
    refine x_iload_n dX7_takeRight_2 rfl rfl ?_
    refine x_aload_n dX7_takeRight_3 rfl rfl ?_
    refine gX7_13 dX7_takeRight_4 rfl (by assumption) rfl ?_
    refine x_iconst (v := 0) dX7_takeRight_7 (by decide) ?_
    refine x_ialdN (j := 0) (by assumption) dX7_takeRight_8 (by decide) (by decide) ?_
    refine x_icmp_ge (tgt := 55) dX7_takeRight_9 (by decide) (fun c_9 => ?_) (fun c_9 => ?_)
    · exact absurd c_9 (by rw [hn]; exact nI_ge (by omega) (by omega))
    · refine x_aload_n dX7_takeRight_12 rfl rfl ?_
      refine x_aload_n dX7_takeRight_13 rfl rfl ?_
      refine gX7_44 dX7_takeRight_14 rfl (by assumption) rfl ?_
      refine x_iload_n dX7_takeRight_17 rfl rfl ?_
      refine x_iload_n dX7_takeRight_18 rfl rfl ?_
      refine kX7_160 dX7_takeRight_19 rfl (by assumption) (c_canTake hm ha hP hr hg (by omega)) (by decide) (Nat.le_of_ble_eq_true rfl) ?_
      refine x_ifeq_b (tgt := 49) dX7_takeRight_22 (by decide) (fun c_22 => ?_) (fun c_22 => ?_)
      · first | refine x_inc1N (lv' := [(2, _), (0, _), (1, _)]) dX7_takeRight_49 rfl (by decide) rfl ?_ | refine x_iinc (v := _ + 1) (lv' := [(2, _), (0, _), (1, _)]) dX7_takeRight_49 rfl rfl (by decide) rfl ?_
        refine x_goto (tgt := 2) dX7_takeRight_52 (by decide) ?_
        first
        | (rw [fndU, if_neg (by rw [Bool.and_eq_true]; exact fun z => c_22 z.1)]; exact ih (i + 1) (by omega))
        | (rw [fndU, if_neg (by rw [Bool.and_eq_true]; exact fun z => c_35 z.2)]; exact ih (i + 1) (by omega))
      · refine x_aload_n dX7_takeRight_25 rfl rfl ?_
        refine x_aload_n dX7_takeRight_26 rfl rfl ?_
        refine gX7_44 dX7_takeRight_27 rfl (by assumption) rfl ?_
        refine x_iload_n dX7_takeRight_30 rfl rfl ?_
        refine x_iload_n dX7_takeRight_31 rfl rfl ?_
        refine kX7_136 dX7_takeRight_32 rfl (by assumption) (c_isRightFor hm ha hP hr hg (by omega)) (by decide) (Nat.le_of_ble_eq_true rfl) ?_
        refine x_ifeq_b (tgt := 49) dX7_takeRight_35 (by decide) (fun c_35 => ?_) (fun c_35 => ?_)
        · first | refine x_inc1N (lv' := [(2, _), (0, _), (1, _)]) dX7_takeRight_49 rfl (by decide) rfl ?_ | refine x_iinc (v := _ + 1) (lv' := [(2, _), (0, _), (1, _)]) dX7_takeRight_49 rfl rfl (by decide) rfl ?_
          refine x_goto (tgt := 2) dX7_takeRight_52 (by decide) ?_
          first
          | (rw [fndU, if_neg (by rw [Bool.and_eq_true]; exact fun z => c_22 z.1)]; exact ih (i + 1) (by omega))
          | (rw [fndU, if_neg (by rw [Bool.and_eq_true]; exact fun z => c_35 z.2)]; exact ih (i + 1) (by omega))
        · refine x_aload_n dX7_takeRight_38 rfl rfl ?_
          refine x_aload_n dX7_takeRight_39 rfl rfl ?_
          refine gX7_44 dX7_takeRight_40 rfl (by assumption) rfl ?_
          refine x_iload_n dX7_takeRight_43 rfl rfl ?_
          refine x_iload_n dX7_takeRight_44 rfl rfl ?_
          refine kX7_163r dX7_takeRight_45 rfl (by assumption) (cm_eat ha hr (by omega)) (by decide) (Nat.le_of_ble_eq_true rfl) (fun S1 hq => ?_)
          refine x_return dX7_takeRight_48 rfl ?_
          rw [fndU, if_pos (by rw [Bool.and_eq_true]; exact ⟨c_22, c_35⟩)]
          exact hq

set_option maxHeartbeats 1000000 in
set_option maxRecDepth 20000 in
theorem c_takeRight {B : sB} {S : sSt} {P : aP} {r : aR} {g : Nat} (hm : shM B) (hP : pM S P) (hr : ag (S 114) r) (hg : g < P.1) : CS B yX7_takeRight cX7_takeRight 3 none 4 [.ref (s_ad B 102), .int (nI g)] S (qM S 114 (lowF P r g)) := by
  refine cs_intro (lv := [(0, .ref (s_ad B 102)), (1, .int (nI g))]) rfl ?_
  refine x_iconst (v := 0) dX7_takeRight_0 (by decide) ?_
  refine x_istore_n (lv' := [(2, _), (0, _), (1, _)]) dX7_takeRight_1 rfl (by decide) rfl ?_
  exact lm_takeRight hm hP hr hg P.1 0 (by omega)

set_option maxHeartbeats 1000000 in
set_option maxRecDepth 20000 in
theorem lm_morning {B : sB} {S : sSt} {T : Nat × (Nat → Nat)} {P : aP} {r : aR} {acts kept : List aR} {f : aF} (hm : shM B) (hX : RM S (T, P, r, acts, kept, f)) (hI : iA (T, P, r, acts, kept, f)) {z n : Nat} {w : Int32} (hz : z ≤ 9999) (hn : n ≤ 40) :
    ∀ (k i : Nat) (S0 : sSt) (q : aR), i + k = n → RM S0 (T, P, r, acts, kept, f) → ag (S0 114) q → iR P q → frM S S0 → WS B (fun _ => True) yX7_morning cX7_morning 10 (some .int) 5 39 [(4, .int (nI i)), (0, .ref (s_ad B 102)), (1, .int (nI z)), (2, .int (nI n)), (3, .int w)] [] S0 (fun v S1 => v = some (.int (if w = 0 then conU P (mrnU P z k i q) P.1 0 0 else mrnU P z k i q 1)) ∧ RM S1 (T, P, r, acts, kept, f) ∧ frM S S1) := by
  obtain ⟨hm0, h103, h104, h105, h106, h107, h108, h109, h110, h111, h112, h113, h114, h115, h116, h117, h118, h119, h120, h121, h122⟩ := id hm
  have haN : isA B 113 := ⟨Or.inl rfl, h113⟩
  have haT : isA B 114 := ⟨Or.inr rfl, h114⟩
  obtain ⟨jP, jR, jA, jE, jF⟩ := id hI
  have jP : iP P := jP
  have jR : iR P r := jR
  have jF : iF f := jF
  have hn1 : 1 ≤ P.1 := jP.1
  have hn9 : P.1 ≤ 9 := jP.2.1
  intro k
  induction k with
  | zero =>
    intro i S0 q hi hX0 hq0 jq hf0
    have xP : pM S0 P := hX0.2.1
    refine x_iload dX7_morning_39 rfl ?_
    refine x_iload_n dX7_morning_41 rfl rfl ?_
    refine x_icmp_ge (tgt := 155) dX7_morning_42 (by decide) (fun c_42 => ?_) (fun c_42 => ?_)
    · refine x_iload_n dX7_morning_155 rfl rfl ?_
      refine x_if_ne (tgt := 170) dX7_morning_156 (by decide) (fun c_156 => ?_) (fun c_156 => ?_)
      · refine x_aload_n dX7_morning_170 rfl rfl ?_
        refine gX7_44 dX7_morning_171 rfl (by assumption) rfl ?_
        refine x_iconst (v := 1) dX7_morning_174 (by decide) ?_
        refine x_ialdN (j := 1) (by assumption) dX7_morning_175 (by decide) (by decide) ?_
        refine x_ireturn dX7_morning_176 rfl rfl ?_
        first
        | exact ⟨by rw [if_neg c_156]; exact congrArg (fun z => some (Value.int z)) (hq0 1 (by omega)), hX0, hf0⟩
        | exact ⟨by rw [if_pos c_156]; rfl, hX0, hf0⟩
      · refine x_aload_n dX7_morning_159 rfl rfl ?_
        refine x_aload_n dX7_morning_160 rfl rfl ?_
        refine gX7_44 dX7_morning_161 rfl (by assumption) rfl ?_
        refine kX7_172 dX7_morning_164 rfl (by assumption) (c_contentOf hm haT xP hq0 jq.2.2.2.1) (by decide) (Nat.le_of_ble_eq_true rfl) ?_
        refine x_goto (tgt := 176) dX7_morning_167 (by decide) ?_
        refine x_ireturn dX7_morning_176 rfl rfl ?_
        first
        | exact ⟨by rw [if_neg c_156]; exact congrArg (fun z => some (Value.int z)) (hq0 1 (by omega)), hX0, hf0⟩
        | exact ⟨by rw [if_pos c_156]; rfl, hX0, hf0⟩
    · exact absurd (by exact nI_le (by omega) (by omega)) c_42
  | succ k ih =>
    intro i S0 q hi hX0 hq0 jq hf0
    have xP : pM S0 P := hX0.2.1
    refine x_iload dX7_morning_39 rfl ?_
    refine x_iload_n dX7_morning_41 rfl rfl ?_
    refine x_icmp_ge (tgt := 155) dX7_morning_42 (by decide) (fun c_42 => ?_) (fun c_42 => ?_)
    · exact absurd c_42 (by exact nI_ge (by omega) (by omega))
    · refine x_ldc2 (v := 7919) dX7_morning_45 (sT_4 216 rfl rfl) ?_
      refine x_iload_n dX7_morning_48 rfl rfl ?_
      refine x_i2l dX7_morning_49 ?_
      rw [nI_l (by omega)]
      refine x_lmul dX7_morning_50 ?_
      rw [show (7919 : Int64) * lN z = lN (7919 * z) from lN_mul 7919 z]
      refine x_ldc2 (v := 6151) dX7_morning_51 (sT_4 217 rfl rfl) ?_
      refine x_iload dX7_morning_54 rfl ?_
      refine x_i2l dX7_morning_56 ?_
      rw [nI_l (by omega)]
      refine x_lmul dX7_morning_57 ?_
      rw [show (6151 : Int64) * lN i = lN (6151 * i) from lN_mul 6151 i]
      refine x_ladd dX7_morning_58 ?_
      rw [lN_add]
      refine x_lconst (v := 1) dX7_morning_59 (by decide) ?_
      refine x_ladd dX7_morning_60 ?_
      rw [lN_1]
      refine x_lstore (lv' := [(5, _), (4, _), (0, _), (1, _), (2, _), (3, _)]) dX7_morning_61 (by decide) rfl ?_
      refine x_lload dX7_morning_63 rfl ?_
      refine x_lload dX7_morning_65 rfl ?_
      refine x_lmul dX7_morning_67 ?_
      rw [lN_mul]
      refine x_ldc2 (v := 65521) dX7_morning_68 (sT_4 218 rfl rfl) ?_
      refine x_lrem dX7_morning_71 (by decide) ?_
      rw [show lN ((7919 * z + 6151 * i + 1) * (7919 * z + 6151 * i + 1)) - lN ((7919 * z + 6151 * i + 1) * (7919 * z + 6151 * i + 1)) / 65521 * 65521 = lN ((7919 * z + 6151 * i + 1) * (7919 * z + 6151 * i + 1) % 65521) from pk_lRem (b := 65521) (drw_sq hz (by omega)) (by decide) (by decide)]
      refine x_l2i dX7_morning_72 ?_
      rw [lN_i]
      have hml := Nat.mod_lt ((7919 * z + 6151 * i + 1) * (7919 * z + 6151 * i + 1)) (show 65521 > 0 by decide)
      refine x_iconst (v := 4) dX7_morning_73 (by decide) ?_
      refine x_idiv dX7_morning_74 (by decide) ?_
      refine x_re (b := nI (drw z i)) (pk_div (d := 4) (by omega) (by decide) (by decide)) ?_
      have hdl := drw_lt z i
      have hmod : drw z i % P.1 < P.1 := Nat.mod_lt _ (by omega)
      have b3 := hq0 (3 + drw z i % P.1) (by omega)
      refine x_istore (lv' := [(7, _), (5, _), (4, _), (0, _), (1, _), (2, _), (3, _)]) dX7_morning_75 (by decide) rfl ?_
      refine x_iload dX7_morning_77 rfl ?_
      refine x_aload_n dX7_morning_79 rfl rfl ?_
      refine gX7_13 dX7_morning_80 rfl (by assumption) rfl ?_
      refine x_iconst (v := 0) dX7_morning_83 (by decide) ?_
      refine x_ialdN (j := 0) (by assumption) dX7_morning_84 (by decide) (by decide) ?_
      refine x_irem dX7_morning_85 (by rw [xP.2.1]; exact nI_ne0 (by omega) (by omega)) ?_
      refine x_re (b := nI (drw z i % P.1)) (by rw [xP.2.1]; exact pk_rem (by omega) (by omega) (by omega)) ?_
      refine x_istore (lv' := [(8, _), (7, _), (5, _), (4, _), (0, _), (1, _), (2, _), (3, _)]) dX7_morning_86 (by decide) rfl ?_
      refine x_iload dX7_morning_88 rfl ?_
      refine x_bipush (v := 16) dX7_morning_90 (by decide) ?_
      refine x_idiv dX7_morning_92 (by decide) ?_
      refine x_re (b := nI (drw z i / 16)) (pk_div (d := 16) (by omega) (by decide) (by decide)) ?_
      refine x_iconst (v := 2) dX7_morning_93 (by decide) ?_
      refine x_irem dX7_morning_94 (by decide) ?_
      refine x_re (b := nI (drw z i / 16 % 2)) (pk_rem (d := 2) (by omega) (by decide) (by decide)) ?_
      refine x_istore (lv' := [(9, _), (8, _), (7, _), (5, _), (4, _), (0, _), (1, _), (2, _), (3, _)]) dX7_morning_95 (by decide) rfl ?_
      refine x_aload_n dX7_morning_97 rfl rfl ?_
      refine gX7_44 dX7_morning_98 rfl (by assumption) rfl ?_
      refine x_iconst (v := 3) dX7_morning_101 (by decide) ?_
      refine x_iload dX7_morning_102 rfl ?_
      refine x_iadd dX7_morning_104 ?_
      first | refine x_re (nI_add 3 _) ?_ | skip
      first | refine x_ialdN (by assumption) dX7_morning_105 (by omega) (by decide) ?_ | refine x_iald (by assumption) dX7_morning_105 (by assumption) ?_
      refine x_if_ne (tgt := 134) dX7_morning_106 (by decide) (fun c_106 => ?_) (fun c_106 => ?_)
      · refine x_gen (Pz := fun S' => chM S0 S' 114 (if (q (3 + drw z i % P.1) == 0 && freeL P q (nI (drw z i / 16 % 2))) = true then putF q (drw z i % P.1) (nI (drw z i / 16 % 2)) else q)) (by
          first
          | (rw [if_neg (by rw [Bool.and_eq_true, beq_iff_eq, ← b3]; exact fun z => c_106 z.1)]; exact chM_rfl hq0)
          | (rw [if_neg (by rw [Bool.and_eq_true, beq_iff_eq, ← b3]; exact fun z => c_119 z.2)]; exact chM_rfl hq0)
          | (rw [if_pos (by rw [Bool.and_eq_true, beq_iff_eq, ← b3]; exact ⟨c_106, c_119⟩)]; exact H1)) (fun S2 H2 => ?_)
        obtain ⟨hX2, hf2⟩ := RM_try hX0 H2
        refine x_aload_n dX7_morning_134 rfl rfl ?_
        refine x_iload dX7_morning_135 rfl ?_
        refine kX7_202r dX7_morning_137 rfl (by assumption) (c_takeRight hm hX2.2.1 H2.1 hmod) (by decide) (Nat.le_of_ble_eq_true rfl) (fun S3 hq => ?_)
        obtain ⟨-, H3⟩ := hq
        obtain ⟨hX3, hf3⟩ := RM_try hX2 H3
        refine x_aload_n dX7_morning_140 rfl rfl ?_
        refine x_aload_n dX7_morning_141 rfl rfl ?_
        refine gX7_44 dX7_morning_142 rfl (by assumption) rfl ?_
        refine kX7_156r dX7_morning_145 rfl (by assumption) (c_moment hm haT hX3.2.1 H3.1) (by decide) (Nat.le_of_ble_eq_true rfl) (fun zz S4 hq => ?_)
        obtain ⟨-, h4⟩ := hq
        obtain ⟨hX4, hf4⟩ := RM_try hX3 h4
        refine x_pop dX7_morning_148 rfl ?_
        first | refine x_inc1N (lv' := [(4, _), (9, _), (8, _), (7, _), (5, _), (0, _), (1, _), (2, _), (3, _)]) dX7_morning_149 rfl (by decide) rfl ?_ | refine x_iinc (v := _ + 1) (lv' := [(4, _), (9, _), (8, _), (7, _), (5, _), (0, _), (1, _), (2, _), (3, _)]) dX7_morning_149 rfl rfl (by decide) rfl ?_
        refine x_goto (tgt := 39) dX7_morning_152 (by decide) ?_
        refine x_wk [0, 5, 6, 7, 8] rfl ?_
        rw [mrnU]
        exact ih (i + 1) S4 _ (by omega) hX4 h4.1 (iR_mom jP (iR_act jP jq)) (frM_trans hf0 (frM_trans hf2 (frM_trans hf3 hf4)))
      · refine x_aload_n dX7_morning_109 rfl rfl ?_
        refine x_aload_n dX7_morning_110 rfl rfl ?_
        refine gX7_44 dX7_morning_111 rfl (by assumption) rfl ?_
        refine x_iload dX7_morning_114 rfl ?_
        refine kX7_146 dX7_morning_116 rfl (by assumption) (c_isFree hm haT xP hq0) (by decide) (Nat.le_of_ble_eq_true rfl) ?_
        refine x_ifeq_b (tgt := 134) dX7_morning_119 (by decide) (fun c_119 => ?_) (fun c_119 => ?_)
        · refine x_gen (Pz := fun S' => chM S0 S' 114 (if (q (3 + drw z i % P.1) == 0 && freeL P q (nI (drw z i / 16 % 2))) = true then putF q (drw z i % P.1) (nI (drw z i / 16 % 2)) else q)) (by
            first
            | (rw [if_neg (by rw [Bool.and_eq_true, beq_iff_eq, ← b3]; exact fun z => c_106 z.1)]; exact chM_rfl hq0)
            | (rw [if_neg (by rw [Bool.and_eq_true, beq_iff_eq, ← b3]; exact fun z => c_119 z.2)]; exact chM_rfl hq0)
            | (rw [if_pos (by rw [Bool.and_eq_true, beq_iff_eq, ← b3]; exact ⟨c_106, c_119⟩)]; exact H1)) (fun S2 H2 => ?_)
          obtain ⟨hX2, hf2⟩ := RM_try hX0 H2
          refine x_aload_n dX7_morning_134 rfl rfl ?_
          refine x_iload dX7_morning_135 rfl ?_
          refine kX7_202r dX7_morning_137 rfl (by assumption) (c_takeRight hm hX2.2.1 H2.1 hmod) (by decide) (Nat.le_of_ble_eq_true rfl) (fun S3 hq => ?_)
          obtain ⟨-, H3⟩ := hq
          obtain ⟨hX3, hf3⟩ := RM_try hX2 H3
          refine x_aload_n dX7_morning_140 rfl rfl ?_
          refine x_aload_n dX7_morning_141 rfl rfl ?_
          refine gX7_44 dX7_morning_142 rfl (by assumption) rfl ?_
          refine kX7_156r dX7_morning_145 rfl (by assumption) (c_moment hm haT hX3.2.1 H3.1) (by decide) (Nat.le_of_ble_eq_true rfl) (fun zz S4 hq => ?_)
          obtain ⟨-, h4⟩ := hq
          obtain ⟨hX4, hf4⟩ := RM_try hX3 h4
          refine x_pop dX7_morning_148 rfl ?_
          first | refine x_inc1N (lv' := [(4, _), (9, _), (8, _), (7, _), (5, _), (0, _), (1, _), (2, _), (3, _)]) dX7_morning_149 rfl (by decide) rfl ?_ | refine x_iinc (v := _ + 1) (lv' := [(4, _), (9, _), (8, _), (7, _), (5, _), (0, _), (1, _), (2, _), (3, _)]) dX7_morning_149 rfl rfl (by decide) rfl ?_
          refine x_goto (tgt := 39) dX7_morning_152 (by decide) ?_
          refine x_wk [0, 5, 6, 7, 8] rfl ?_
          rw [mrnU]
          exact ih (i + 1) S4 _ (by omega) hX4 h4.1 (iR_mom jP (iR_act jP jq)) (frM_trans hf0 (frM_trans hf2 (frM_trans hf3 hf4)))
        · refine x_aload_n dX7_morning_122 rfl rfl ?_
          refine x_aload_n dX7_morning_123 rfl rfl ?_
          refine gX7_44 dX7_morning_124 rfl (by assumption) rfl ?_
          refine x_iload dX7_morning_127 rfl ?_
          refine x_iload dX7_morning_129 rfl ?_
          refine kX7_152r dX7_morning_131 rfl (by assumption) (c_put haT hq0 (by omega)) (by decide) (Nat.le_of_ble_eq_true rfl) (fun S1 hq => ?_)
          obtain ⟨-, H1⟩ := hq
          refine x_gen (Pz := fun S' => chM S0 S' 114 (if (q (3 + drw z i % P.1) == 0 && freeL P q (nI (drw z i / 16 % 2))) = true then putF q (drw z i % P.1) (nI (drw z i / 16 % 2)) else q)) (by
            first
            | (rw [if_neg (by rw [Bool.and_eq_true, beq_iff_eq, ← b3]; exact fun z => c_106 z.1)]; exact chM_rfl hq0)
            | (rw [if_neg (by rw [Bool.and_eq_true, beq_iff_eq, ← b3]; exact fun z => c_119 z.2)]; exact chM_rfl hq0)
            | (rw [if_pos (by rw [Bool.and_eq_true, beq_iff_eq, ← b3]; exact ⟨c_106, c_119⟩)]; exact H1)) (fun S2 H2 => ?_)
          obtain ⟨hX2, hf2⟩ := RM_try hX0 H2
          refine x_aload_n dX7_morning_134 rfl rfl ?_
          refine x_iload dX7_morning_135 rfl ?_
          refine kX7_202r dX7_morning_137 rfl (by assumption) (c_takeRight hm hX2.2.1 H2.1 hmod) (by decide) (Nat.le_of_ble_eq_true rfl) (fun S3 hq => ?_)
          obtain ⟨-, H3⟩ := hq
          obtain ⟨hX3, hf3⟩ := RM_try hX2 H3
          refine x_aload_n dX7_morning_140 rfl rfl ?_
          refine x_aload_n dX7_morning_141 rfl rfl ?_
          refine gX7_44 dX7_morning_142 rfl (by assumption) rfl ?_
          refine kX7_156r dX7_morning_145 rfl (by assumption) (c_moment hm haT hX3.2.1 H3.1) (by decide) (Nat.le_of_ble_eq_true rfl) (fun zz S4 hq => ?_)
          obtain ⟨-, h4⟩ := hq
          obtain ⟨hX4, hf4⟩ := RM_try hX3 h4
          refine x_pop dX7_morning_148 rfl ?_
          first | refine x_inc1N (lv' := [(4, _), (9, _), (8, _), (7, _), (5, _), (0, _), (1, _), (2, _), (3, _)]) dX7_morning_149 rfl (by decide) rfl ?_ | refine x_iinc (v := _ + 1) (lv' := [(4, _), (9, _), (8, _), (7, _), (5, _), (0, _), (1, _), (2, _), (3, _)]) dX7_morning_149 rfl rfl (by decide) rfl ?_
          refine x_goto (tgt := 39) dX7_morning_152 (by decide) ?_
          refine x_wk [0, 5, 6, 7, 8] rfl ?_
          rw [mrnU]
          exact ih (i + 1) S4 _ (by omega) hX4 h4.1 (iR_mom jP (iR_act jP jq)) (frM_trans hf0 (frM_trans hf2 (frM_trans hf3 hf4)))

set_option maxHeartbeats 1000000 in
set_option maxRecDepth 20000 in
theorem cM_morning {B : sB} {S : sSt} {T : Nat × (Nat → Nat)} {P : aP} {r : aR} {acts kept : List aR} {f : aF} (hm : shM B) (hX : RM S (T, P, r, acts, kept, f)) (hI : iA (T, P, r, acts, kept, f)) {z n w : Int32} : CS B yX7_morning cX7_morning 10 (some .int) 5 [.ref (s_ad B 102), .int z, .int n, .int w] S (qR S (o_morning (T, P, r, acts, kept, f) z n w)) := by
  refine cs_intro (lv := [(0, .ref (s_ad B 102)), (1, .int z), (2, .int n), (3, .int w)]) rfl ?_
  obtain ⟨hm0, h103, h104, h105, h106, h107, h108, h109, h110, h111, h112, h113, h114, h115, h116, h117, h118, h119, h120, h121, h122⟩ := id hm
  obtain ⟨xT, xP, xB, xA, xE, xF⟩ := id hX
  have xT : tM S T.2 T.1 := xT
  have xP : pM S P := xP
  have xB : ag (S 113) r := xB
  have xA : aM S acts := xA
  have xE : eM S kept := xE
  have xF : fM S f := xF
  have hn9 : P.1 ≤ 9 := xP.1
  have haN : isA B 113 := ⟨Or.inl rfl, h113⟩
  have haT : isA B 114 := ⟨Or.inr rfl, h114⟩
  obtain ⟨jP, jR, jA, jE, jF⟩ := id hI
  have jP : iP P := jP
  have jR : iR P r := jR
  have jF : iF f := jF
  have hn1 : 1 ≤ P.1 := jP.1
  refine x_iload_n dX7_morning_0 rfl rfl ?_
  refine x_iconst (v := 0) dX7_morning_1 (by decide) ?_
  refine x_sipush (v := 9999) dX7_morning_2 (by decide) ?_
  refine kX7_78 dX7_morning_5 rfl (c_in) (by decide) (Nat.le_of_ble_eq_true rfl) ?_
  refine x_ifeq_b (tgt := 30) dX7_morning_8 (by decide) (fun c_8 => ?_) (fun c_8 => ?_)
  · refine x_iconst (v := (-1)) dX7_morning_30 (by decide) ?_
    refine x_ireturn dX7_morning_31 rfl rfl ?_
    first
    | exact qR_of (by rw [o_morning, if_neg (by simp only [Bool.and_eq_true, wn_iff]; exact fun z => c_8 z.1)]) rfl hX frM_rfl
    | exact qR_of (by rw [o_morning, if_neg (by simp only [Bool.and_eq_true, wn_iff]; exact fun z => c_18 z.2.1)]) rfl hX frM_rfl
    | exact qR_of (by rw [o_morning, if_neg (by simp only [Bool.and_eq_true, wn_iff]; exact fun z => c_27 z.2.2)]) rfl hX frM_rfl
  · refine x_iload_n dX7_morning_11 rfl rfl ?_
    refine x_iconst (v := 1) dX7_morning_12 (by decide) ?_
    refine x_bipush (v := 40) dX7_morning_13 (by decide) ?_
    refine kX7_78 dX7_morning_15 rfl (c_in) (by decide) (Nat.le_of_ble_eq_true rfl) ?_
    refine x_ifeq_b (tgt := 30) dX7_morning_18 (by decide) (fun c_18 => ?_) (fun c_18 => ?_)
    · refine x_iconst (v := (-1)) dX7_morning_30 (by decide) ?_
      refine x_ireturn dX7_morning_31 rfl rfl ?_
      first
      | exact qR_of (by rw [o_morning, if_neg (by simp only [Bool.and_eq_true, wn_iff]; exact fun z => c_8 z.1)]) rfl hX frM_rfl
      | exact qR_of (by rw [o_morning, if_neg (by simp only [Bool.and_eq_true, wn_iff]; exact fun z => c_18 z.2.1)]) rfl hX frM_rfl
      | exact qR_of (by rw [o_morning, if_neg (by simp only [Bool.and_eq_true, wn_iff]; exact fun z => c_27 z.2.2)]) rfl hX frM_rfl
    · refine x_iload_n dX7_morning_21 rfl rfl ?_
      refine x_iconst (v := 0) dX7_morning_22 (by decide) ?_
      refine x_iconst (v := 1) dX7_morning_23 (by decide) ?_
      refine kX7_78 dX7_morning_24 rfl (c_in) (by decide) (Nat.le_of_ble_eq_true rfl) ?_
      refine x_ifne_b (tgt := 32) dX7_morning_27 (by decide) (fun c_27 => ?_) (fun c_27 => ?_)
      · have hok : (wn z 0 9999 && (wn n 1 40 && wn w 0 1)) = true := by simp only [Bool.and_eq_true, wn_iff]; exact ⟨c_8, c_18, c_27⟩
        obtain ⟨zz, hzz, rfl⟩ := wn_nI (n := 9999) (m := 9999) (by decide) (by decide) (wn_iff.mpr c_8)
        obtain ⟨nn, hnn, rfl⟩ : ∃ j, j ≤ 40 ∧ n = nI j := by
          obtain ⟨z1, z2⟩ := c_18
          rw [Int32.le_iff_toInt_le] at z1 z2
          have e1 : (1 : Int32).toInt = 1 := by decide
          have e2 : (40 : Int32).toInt = 40 := by decide
          exact nI_of3 (by omega) (by omega) (by decide)
        have hzc : (nI zz).toNatClampNeg = zz := nI_clamp (by omega)
        have hnc : (nI nn).toNatClampNeg = nn := nI_clamp (by omega)
        refine x_aload_n dX7_morning_32 rfl rfl ?_
        refine kX7_166r dX7_morning_33 rfl (by assumption) (c_takeNow hm xB) (by decide) (Nat.le_of_ble_eq_true rfl) (fun S1 hq => ?_)
        obtain ⟨-, h1⟩ := hq
        obtain ⟨hX1, hf1⟩ := RM_try hX h1
        refine x_iconst (v := 0) dX7_morning_36 (by decide) ?_
        refine x_istore (lv' := [(4, _), (0, _), (1, _), (2, _), (3, _)]) dX7_morning_37 (by decide) rfl ?_
        refine x_post (fun v S2 hq => ?_) (lm_morning hm hX hI (w := w) hzz hnn nn 0 S1 r (by omega) hX1 h1.1 jR hf1)
        obtain ⟨q1, q2, q3⟩ := hq
        cases q1
        exact qR_of (by rw [o_morning, if_pos hok, hzc, hnc]) rfl q2 q3
      · refine x_iconst (v := (-1)) dX7_morning_30 (by decide) ?_
        refine x_ireturn dX7_morning_31 rfl rfl ?_
        first
        | exact qR_of (by rw [o_morning, if_neg (by simp only [Bool.and_eq_true, wn_iff]; exact fun z => c_8 z.1)]) rfl hX frM_rfl
        | exact qR_of (by rw [o_morning, if_neg (by simp only [Bool.and_eq_true, wn_iff]; exact fun z => c_18 z.2.1)]) rfl hX frM_rfl
        | exact qR_of (by rw [o_morning, if_neg (by simp only [Bool.and_eq_true, wn_iff]; exact fun z => c_27 z.2.2)]) rfl hX frM_rfl
