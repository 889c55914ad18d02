/-! THE LAW's loop (wip/whole/w62.py) -/
set_option maxHeartbeats 1000000 in
set_option maxRecDepth 20000 in
theorem lp_next {B : sB} {b L i : Nat} {xs : Nat → Int32} {S : sSt} (h : WS B (sEl B.2.2 b L xs) yL_law cL_law 4 (some .boolean) 16 18 [(3, .int (nI (i + 5))), (2, .ref (s_ad B 102)), (1, .ref (s_ad B 0)), (0, .ref b)] [] S (fun v _ => v = some (.int 1))) : WS B (sEl B.2.2 b L xs) yL_law cL_law 4 (some .boolean) 16 854 [(3, .int (nI i)), (2, .ref (s_ad B 102)), (1, .ref (s_ad B 0)), (0, .ref b)] [] S (fun v _ => v = some (.int 1)) := by
  refine x_iinc (v := nI (i + 5)) (lv' := [(3, _), (2, _), (1, _), (0, _)]) dL_law_854 rfl (nI_add i 5) (by decide) rfl ?_
  refine x_goto (tgt := 18) dL_law_857 (by decide) ?_
  exact h

set_option maxHeartbeats 1000000 in
set_option maxRecDepth 20000 in
theorem law_loop {B : sB} {b L : Nat} {xs : Nat → Int32} (hx : shX B) (hm : shM B) (hL : L ≤ 320) :
    ∀ (k i : Nat) (S : sSt) (A : aA), L < i + 5 * k + 5 → i ≤ L → RX S A → RM S A → iA A → WS B (sEl B.2.2 b L xs) yL_law cL_law 4 (some .boolean) 16 18 [(3, .int (nI i)), (2, .ref (s_ad B 102)), (1, .ref (s_ad B 0)), (0, .ref b)] [] S (fun v _ => v = some (.int 1)) := by
  intro k
  induction k with
  | zero =>
    intro i S A hk hi hX hM hI
    refine x_iload_n dL_law_18 rfl rfl ?_
    refine x_aload_n dL_law_19 rfl rfl ?_
    refine x_slen dL_law_20 ?_
    refine x_iconst (v := 5) dL_law_21 (by decide) ?_
    refine x_isub dL_law_22 ?_
    refine x_icmp_gt (tgt := 860) dL_law_23 (by decide) (fun c_23 => ?_) (fun c_23 => ?_)
    · refine x_iconst (v := 1) dL_law_860 (by decide) ?_
      refine x_ireturn dL_law_861 rfl (by first | rfl | exact bI_nar _) ?_
      exact rfl
    · exact absurd ((lw_cmp hL (by omega)).mpr (by omega)) c_23
  | succ k ih =>
    intro i S A hk hi hX hM hI
    refine x_iload_n dL_law_18 rfl rfl ?_
    refine x_aload_n dL_law_19 rfl rfl ?_
    refine x_slen dL_law_20 ?_
    refine x_iconst (v := 5) dL_law_21 (by decide) ?_
    refine x_isub dL_law_22 ?_
    refine x_icmp_gt (tgt := 860) dL_law_23 (by decide) (fun c_23 => ?_) (fun c_23 => ?_)
    · refine x_iconst (v := 1) dL_law_860 (by decide) ?_
      refine x_ireturn dL_law_861 rfl (by first | rfl | exact bI_nar _) ?_
      exact rfl
    · have h5 : i + 5 ≤ L := by
        rcases Nat.lt_or_ge L (i + 5) with h | h
        · exact absurd ((lw_cmp hL (by omega)).mpr h) c_23
        · exact h
      refine x_aload_n dL_law_26 rfl rfl ?_
      refine x_iload_n dL_law_27 rfl rfl ?_
      refine x_sld (show i < L by omega) hL dL_law_28 ?_
      refine x_bipush (v := 31) dL_law_29 (by decide) ?_
      refine x_iand dL_law_31 ?_
      by_cases w_0 : xs i &&& 31 = 0
      · refine x_tableIn (tgt := 160) dL_law_32 (by rw [w_0]; decide) (by rw [w_0]; decide) (by rw [w_0]; rfl) (by decide) ?_
        exact lc_0 hx hm hL hX hM hI (by omega) (fun S1 A1 hX1 hM1 hI1 => lp_next (ih (i + 5) S1 A1 (by omega) (by omega) hX1 hM1 hI1))
      by_cases w_1 : xs i &&& 31 = 1
      · refine x_tableIn (tgt := 183) dL_law_32 (by rw [w_1]; decide) (by rw [w_1]; decide) (by rw [w_1]; rfl) (by decide) ?_
        exact lc_1 hx hm hL hX hM hI (by omega) (fun S1 A1 hX1 hM1 hI1 => lp_next (ih (i + 5) S1 A1 (by omega) (by omega) hX1 hM1 hI1))
      by_cases w_2 : xs i &&& 31 = 2
      · refine x_tableIn (tgt := 196) dL_law_32 (by rw [w_2]; decide) (by rw [w_2]; decide) (by rw [w_2]; rfl) (by decide) ?_
        exact lc_2 hx hm hL hX hM hI (by omega) (fun S1 A1 hX1 hM1 hI1 => lp_next (ih (i + 5) S1 A1 (by omega) (by omega) hX1 hM1 hI1))
      by_cases w_3 : xs i &&& 31 = 3
      · refine x_tableIn (tgt := 209) dL_law_32 (by rw [w_3]; decide) (by rw [w_3]; decide) (by rw [w_3]; rfl) (by decide) ?_
        exact lc_3 hx hm hL hX hM hI (by omega) (fun S1 A1 hX1 hM1 hI1 => lp_next (ih (i + 5) S1 A1 (by omega) (by omega) hX1 hM1 hI1))
      by_cases w_4 : xs i &&& 31 = 4
      · refine x_tableIn (tgt := 222) dL_law_32 (by rw [w_4]; decide) (by rw [w_4]; decide) (by rw [w_4]; rfl) (by decide) ?_
        exact lc_4 hx hm hL hX hM hI (by omega) (fun S1 A1 hX1 hM1 hI1 => lp_next (ih (i + 5) S1 A1 (by omega) (by omega) hX1 hM1 hI1))
      by_cases w_5 : xs i &&& 31 = 5
      · refine x_tableIn (tgt := 255) dL_law_32 (by rw [w_5]; decide) (by rw [w_5]; decide) (by rw [w_5]; rfl) (by decide) ?_
        exact lc_5 hx hm hL hX hM hI (by omega) (fun S1 A1 hX1 hM1 hI1 => lp_next (ih (i + 5) S1 A1 (by omega) (by omega) hX1 hM1 hI1))
      by_cases w_6 : xs i &&& 31 = 6
      · refine x_tableIn (tgt := 288) dL_law_32 (by rw [w_6]; decide) (by rw [w_6]; decide) (by rw [w_6]; rfl) (by decide) ?_
        exact lc_6 hx hm hL hX hM hI (by omega) (fun S1 A1 hX1 hM1 hI1 => lp_next (ih (i + 5) S1 A1 (by omega) (by omega) hX1 hM1 hI1))
      by_cases w_7 : xs i &&& 31 = 7
      · refine x_tableIn (tgt := 321) dL_law_32 (by rw [w_7]; decide) (by rw [w_7]; decide) (by rw [w_7]; rfl) (by decide) ?_
        exact lc_7 hx hm hL hX hM hI (by omega) (fun S1 A1 hX1 hM1 hI1 => lp_next (ih (i + 5) S1 A1 (by omega) (by omega) hX1 hM1 hI1))
      by_cases w_8 : xs i &&& 31 = 8
      · refine x_tableIn (tgt := 344) dL_law_32 (by rw [w_8]; decide) (by rw [w_8]; decide) (by rw [w_8]; rfl) (by decide) ?_
        exact lc_8 hx hm hL hX hM hI (by omega) (fun S1 A1 hX1 hM1 hI1 => lp_next (ih (i + 5) S1 A1 (by omega) (by omega) hX1 hM1 hI1))
      by_cases w_9 : xs i &&& 31 = 9
      · refine x_tableIn (tgt := 367) dL_law_32 (by rw [w_9]; decide) (by rw [w_9]; decide) (by rw [w_9]; rfl) (by decide) ?_
        exact lc_9 hx hm hL hX hM hI (by omega) (fun S1 A1 hX1 hM1 hI1 => lp_next (ih (i + 5) S1 A1 (by omega) (by omega) hX1 hM1 hI1))
      by_cases w_10 : xs i &&& 31 = 10
      · refine x_tableIn (tgt := 400) dL_law_32 (by rw [w_10]; decide) (by rw [w_10]; decide) (by rw [w_10]; rfl) (by decide) ?_
        exact lc_10 hx hm hL hX hM hI (by omega) (fun S1 A1 hX1 hM1 hI1 => lp_next (ih (i + 5) S1 A1 (by omega) (by omega) hX1 hM1 hI1))
      by_cases w_11 : xs i &&& 31 = 11
      · refine x_tableIn (tgt := 413) dL_law_32 (by rw [w_11]; decide) (by rw [w_11]; decide) (by rw [w_11]; rfl) (by decide) ?_
        exact lc_11 hx hm hL hX hM hI (by omega) (fun S1 A1 hX1 hM1 hI1 => lp_next (ih (i + 5) S1 A1 (by omega) (by omega) hX1 hM1 hI1))
      by_cases w_12 : xs i &&& 31 = 12
      · refine x_tableIn (tgt := 436) dL_law_32 (by rw [w_12]; decide) (by rw [w_12]; decide) (by rw [w_12]; rfl) (by decide) ?_
        exact lc_12 hx hm hL hX hM hI (by omega) (fun S1 A1 hX1 hM1 hI1 => lp_next (ih (i + 5) S1 A1 (by omega) (by omega) hX1 hM1 hI1))
      by_cases w_13 : xs i &&& 31 = 13
      · refine x_tableIn (tgt := 459) dL_law_32 (by rw [w_13]; decide) (by rw [w_13]; decide) (by rw [w_13]; rfl) (by decide) ?_
        exact lc_13 hx hm hL hX hM hI (by omega) (fun S1 A1 hX1 hM1 hI1 => lp_next (ih (i + 5) S1 A1 (by omega) (by omega) hX1 hM1 hI1))
      by_cases w_14 : xs i &&& 31 = 14
      · refine x_tableIn (tgt := 472) dL_law_32 (by rw [w_14]; decide) (by rw [w_14]; decide) (by rw [w_14]; rfl) (by decide) ?_
        exact lc_14 hx hm hL hX hM hI (by omega) (fun S1 A1 hX1 hM1 hI1 => lp_next (ih (i + 5) S1 A1 (by omega) (by omega) hX1 hM1 hI1))
      by_cases w_15 : xs i &&& 31 = 15
      · refine x_tableIn (tgt := 505) dL_law_32 (by rw [w_15]; decide) (by rw [w_15]; decide) (by rw [w_15]; rfl) (by decide) ?_
        exact lc_15 hx hm hL hX hM hI (by omega) (fun S1 A1 hX1 hM1 hI1 => lp_next (ih (i + 5) S1 A1 (by omega) (by omega) hX1 hM1 hI1))
      by_cases w_16 : xs i &&& 31 = 16
      · refine x_tableIn (tgt := 538) dL_law_32 (by rw [w_16]; decide) (by rw [w_16]; decide) (by rw [w_16]; rfl) (by decide) ?_
        exact lc_16 hx hm hL hX hM hI (by omega) (fun S1 A1 hX1 hM1 hI1 => lp_next (ih (i + 5) S1 A1 (by omega) (by omega) hX1 hM1 hI1))
      by_cases w_17 : xs i &&& 31 = 17
      · refine x_tableIn (tgt := 571) dL_law_32 (by rw [w_17]; decide) (by rw [w_17]; decide) (by rw [w_17]; rfl) (by decide) ?_
        exact lc_17 hx hm hL hX hM hI (by omega) (fun S1 A1 hX1 hM1 hI1 => lp_next (ih (i + 5) S1 A1 (by omega) (by omega) hX1 hM1 hI1))
      by_cases w_18 : xs i &&& 31 = 18
      · refine x_tableIn (tgt := 594) dL_law_32 (by rw [w_18]; decide) (by rw [w_18]; decide) (by rw [w_18]; rfl) (by decide) ?_
        exact lc_18 hx hm hL hX hM hI (by omega) (fun S1 A1 hX1 hM1 hI1 => lp_next (ih (i + 5) S1 A1 (by omega) (by omega) hX1 hM1 hI1))
      by_cases w_19 : xs i &&& 31 = 19
      · refine x_tableIn (tgt := 617) dL_law_32 (by rw [w_19]; decide) (by rw [w_19]; decide) (by rw [w_19]; rfl) (by decide) ?_
        exact lc_19 hx hm hL hX hM hI (by omega) (fun S1 A1 hX1 hM1 hI1 => lp_next (ih (i + 5) S1 A1 (by omega) (by omega) hX1 hM1 hI1))
      by_cases w_20 : xs i &&& 31 = 20
      · refine x_tableIn (tgt := 630) dL_law_32 (by rw [w_20]; decide) (by rw [w_20]; decide) (by rw [w_20]; rfl) (by decide) ?_
        exact lc_20 hx hm hL hX hM hI (by omega) (fun S1 A1 hX1 hM1 hI1 => lp_next (ih (i + 5) S1 A1 (by omega) (by omega) hX1 hM1 hI1))
      by_cases w_21 : xs i &&& 31 = 21
      · refine x_tableIn (tgt := 683) dL_law_32 (by rw [w_21]; decide) (by rw [w_21]; decide) (by rw [w_21]; rfl) (by decide) ?_
        exact lc_21 hx hm hL hX hM hI (by omega) (fun S1 A1 hX1 hM1 hI1 => lp_next (ih (i + 5) S1 A1 (by omega) (by omega) hX1 hM1 hI1))
      by_cases w_22 : xs i &&& 31 = 22
      · refine x_tableIn (tgt := 696) dL_law_32 (by rw [w_22]; decide) (by rw [w_22]; decide) (by rw [w_22]; rfl) (by decide) ?_
        exact lc_22 hx hm hL hX hM hI (by omega) (fun S1 A1 hX1 hM1 hI1 => lp_next (ih (i + 5) S1 A1 (by omega) (by omega) hX1 hM1 hI1))
      by_cases w_23 : xs i &&& 31 = 23
      · refine x_tableIn (tgt := 719) dL_law_32 (by rw [w_23]; decide) (by rw [w_23]; decide) (by rw [w_23]; rfl) (by decide) ?_
        exact lc_23 hx hm hL hX hM hI (by omega) (fun S1 A1 hX1 hM1 hI1 => lp_next (ih (i + 5) S1 A1 (by omega) (by omega) hX1 hM1 hI1))
      by_cases w_24 : xs i &&& 31 = 24
      · refine x_tableIn (tgt := 762) dL_law_32 (by rw [w_24]; decide) (by rw [w_24]; decide) (by rw [w_24]; rfl) (by decide) ?_
        exact lc_24 hx hm hL hX hM hI (by omega) (fun S1 A1 hX1 hM1 hI1 => lp_next (ih (i + 5) S1 A1 (by omega) (by omega) hX1 hM1 hI1))
      by_cases w_25 : xs i &&& 31 = 25
      · refine x_tableIn (tgt := 805) dL_law_32 (by rw [w_25]; decide) (by rw [w_25]; decide) (by rw [w_25]; rfl) (by decide) ?_
        exact lc_25 hx hm hL hX hM hI (by omega) (fun S1 A1 hX1 hM1 hI1 => lp_next (ih (i + 5) S1 A1 (by omega) (by omega) hX1 hM1 hI1))
      by_cases w_26 : xs i &&& 31 = 26
      · refine x_tableIn (tgt := 818) dL_law_32 (by rw [w_26]; decide) (by rw [w_26]; decide) (by rw [w_26]; rfl) (by decide) ?_
        exact lc_26 hx hm hL hX hM hI (by omega) (fun S1 A1 hX1 hM1 hI1 => lp_next (ih (i + 5) S1 A1 (by omega) (by omega) hX1 hM1 hI1))
      by_cases w_27 : xs i &&& 31 = 27
      · refine x_tableIn (tgt := 831) dL_law_32 (by rw [w_27]; decide) (by rw [w_27]; decide) (by rw [w_27]; rfl) (by decide) ?_
        exact lc_27 hx hm hL hX hM hI (by omega) (fun S1 A1 hX1 hM1 hI1 => lp_next (ih (i + 5) S1 A1 (by omega) (by omega) hX1 hM1 hI1))
      refine x_tableOut (tgt := 854) dL_law_32 (by have z0 := sw_ne (n := 0) (by decide) w_0; have z1 := sw_ne (n := 1) (by decide) w_1; have z2 := sw_ne (n := 2) (by decide) w_2; have z3 := sw_ne (n := 3) (by decide) w_3; have z4 := sw_ne (n := 4) (by decide) w_4; have z5 := sw_ne (n := 5) (by decide) w_5; have z6 := sw_ne (n := 6) (by decide) w_6; have z7 := sw_ne (n := 7) (by decide) w_7; have z8 := sw_ne (n := 8) (by decide) w_8; have z9 := sw_ne (n := 9) (by decide) w_9; have z10 := sw_ne (n := 10) (by decide) w_10; have z11 := sw_ne (n := 11) (by decide) w_11; have z12 := sw_ne (n := 12) (by decide) w_12; have z13 := sw_ne (n := 13) (by decide) w_13; have z14 := sw_ne (n := 14) (by decide) w_14; have z15 := sw_ne (n := 15) (by decide) w_15; have z16 := sw_ne (n := 16) (by decide) w_16; have z17 := sw_ne (n := 17) (by decide) w_17; have z18 := sw_ne (n := 18) (by decide) w_18; have z19 := sw_ne (n := 19) (by decide) w_19; have z20 := sw_ne (n := 20) (by decide) w_20; have z21 := sw_ne (n := 21) (by decide) w_21; have z22 := sw_ne (n := 22) (by decide) w_22; have z23 := sw_ne (n := 23) (by decide) w_23; have z24 := sw_ne (n := 24) (by decide) w_24; have z25 := sw_ne (n := 25) (by decide) w_25; have z26 := sw_ne (n := 26) (by decide) w_26; have z27 := sw_ne (n := 27) (by decide) w_27; omega) (by decide) ?_
      exact lp_next (ih (i + 5) S A (by omega) (by omega) hX hM hI)
