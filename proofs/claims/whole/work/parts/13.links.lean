def qI (f : Int32) (S0 : sSt) : Option Value → sSt → Prop := fun v S' => v = some (.int f) ∧ S' = S0
def qV (S0 : sSt) : Option Value → sSt → Prop := fun v S' => v = none ∧ S' = S0
def bI (c : Prop) [Decidable c] : Int32 := if c then 1 else 0
theorem bI_nar (c : Prop) [Decidable c] : narrow .boolean (.int (bI c)) = .int (bI c) := by unfold bI; split <;> rfl
theorem bI_0 {c : Prop} [Decidable c] (h : bI c = 0) : ¬ c := by intro hc; simp [bI, hc] at h
theorem bI_1 {c : Prop} [Decidable c] (h : ¬ bI c = 0) : c := by
  rcases Decidable.em c with hc | hc
  · exact hc
  · exact absurd (by simp [bI, hc]) h
theorem iX0 : ∀ w ∈ u_ws RX0 TX0 9, w ∈ sT := by decide +kernel
theorem iX1 : ∀ w ∈ u_ws RX1 TX1 3, w ∈ sT := by decide +kernel
theorem iX2 : ∀ w ∈ u_ws RX2 TX2 8, w ∈ sT := by decide +kernel
theorem iX3 : ∀ w ∈ u_ws RX3 TX3 6, w ∈ sT := by decide +kernel
theorem iX4 : ∀ w ∈ u_ws RX4 TX4 5, w ∈ sT := by decide +kernel
theorem iX5 : ∀ w ∈ u_ws RX5 TX5 4, w ∈ sT := by decide +kernel
theorem iX6 : ∀ w ∈ u_ws RX6 TX6 11, w ∈ sT := by decide +kernel
theorem iX7 : ∀ w ∈ u_ws RX7 TX7 26, w ∈ sT := by decide +kernel
theorem sT_1 (i : Nat) {w : Cond} (h : tables_1_1[i]? = some w) (hg : goodWord w = true) : w ∈ sT := List.mem_filter.mpr ⟨List.mem_append_right _ (List.mem_append_left _ (List.mem_of_getElem? h)), hg⟩
theorem sT_2 (i : Nat) {w : Cond} (h : tables_1_2[i]? = some w) (hg : goodWord w = true) : w ∈ sT := List.mem_filter.mpr ⟨List.mem_append_right _ (List.mem_append_right _ (List.mem_append_left _ (List.mem_of_getElem? h))), hg⟩
theorem sT_3 (i : Nat) {w : Cond} (h : tables_1_3[i]? = some w) (hg : goodWord w = true) : w ∈ sT := List.mem_filter.mpr ⟨List.mem_append_right _ (List.mem_append_right _ (List.mem_append_right _ (List.mem_append_left _ (List.mem_of_getElem? h)))), hg⟩
theorem sT_4 (i : Nat) {w : Cond} (h : tables_1_4[i]? = some w) (hg : goodWord w = true) : w ∈ sT := List.mem_filter.mpr ⟨List.mem_append_right _ (List.mem_append_right _ (List.mem_append_right _ (List.mem_append_right _ (List.mem_of_getElem? h)))), hg⟩
theorem sT_p (i : Nat) {w : Cond} (h : (k2_sels lw_privs)[i]? = some w) (hg : goodWord w = true) : w ∈ sT := List.mem_filter.mpr ⟨List.mem_append_left _ (List.mem_of_getElem? h), hg⟩
section XL
variable {B : sB} {E : State → Prop} {y : MethodName} {cc : ByteArray} {mL : Nat} {rt : Option FieldType} {d d2 pc o : Nat} {lv : List (Nat × Value)} {st : List Value} {S : sSt} {Q Q2 : Option Value → sSt → Prop} {fl : List (Option Nat)}
theorem x_ifeq_b {c : Prop} [Decidable c] {off : Int} {tgt : Nat} (hd : decode cc pc = .ok (.ifCond .eq off, 3)) (ht : (pc : Int) + off = (tgt : Int)) (kt : ¬ c → WS B E y cc mL rt d tgt lv st S Q) (kf : c → WS B E y cc mL rt d (pc + 3) lv st S Q) : WS B E y cc mL rt d pc lv (.int (bI c) :: st) S Q :=
  x_if_eq hd ht (fun h => kt (bI_0 h)) (fun h => kf (bI_1 h))
theorem x_ifne_b {c : Prop} [Decidable c] {off : Int} {tgt : Nat} (hd : decode cc pc = .ok (.ifCond .ne off, 3)) (ht : (pc : Int) + off = (tgt : Int)) (kt : c → WS B E y cc mL rt d tgt lv st S Q) (kf : ¬ c → WS B E y cc mL rt d (pc + 3) lv st S Q) : WS B E y cc mL rt d pc lv (.int (bI c) :: st) S Q :=
  x_if_ne hd ht (fun h => kt (bI_1 h)) (fun h => kf (bI_0 h))
theorem gX0_15 {r : Nat} (hd : decode cc pc = .ok (.getfield 15, 3)) (hy : y.cls = RX0) (hsh : B.2.1[o]? = some (.inr (.inl (0, fl)))) (hf : fl[5]? = some (some r)) (k : WS B E y cc mL rt d (pc + 3) lv (.ref (s_ad B r) :: st) S Q) : WS B E y cc mL rt d pc lv (.ref (s_ad B o) :: st) S Q :=
  x_getR (T := TX0) (N := 9) (j := 5) hsh rfl iX0 (by decide) (by rw [hy]; exact sT_1 105 rfl rfl) hf hd k
theorem gX0_18 {r : Nat} (hd : decode cc pc = .ok (.getfield 18, 3)) (hy : y.cls = RX0) (hsh : B.2.1[o]? = some (.inr (.inl (0, fl)))) (hf : fl[6]? = some (some r)) (k : WS B E y cc mL rt d (pc + 3) lv (.ref (s_ad B r) :: st) S Q) : WS B E y cc mL rt d pc lv (.ref (s_ad B o) :: st) S Q :=
  x_getR (T := TX0) (N := 9) (j := 6) hsh rfl iX0 (by decide) (by rw [hy]; exact sT_1 107 rfl rfl) hf hd k
theorem gX0_21 {r : Nat} (hd : decode cc pc = .ok (.getfield 21, 3)) (hy : y.cls = RX0) (hsh : B.2.1[o]? = some (.inr (.inl (0, fl)))) (hf : fl[7]? = some (some r)) (k : WS B E y cc mL rt d (pc + 3) lv (.ref (s_ad B r) :: st) S Q) : WS B E y cc mL rt d pc lv (.ref (s_ad B o) :: st) S Q :=
  x_getR (T := TX0) (N := 9) (j := 7) hsh rfl iX0 (by decide) (by rw [hy]; exact sT_1 109 rfl rfl) hf hd k
theorem gX0_24 {r : Nat} (hd : decode cc pc = .ok (.getfield 24, 3)) (hy : y.cls = RX0) (hsh : B.2.1[o]? = some (.inr (.inl (0, fl)))) (hf : fl[8]? = some (some r)) (k : WS B E y cc mL rt d (pc + 3) lv (.ref (s_ad B r) :: st) S Q) : WS B E y cc mL rt d pc lv (.ref (s_ad B o) :: st) S Q :=
  x_getR (T := TX0) (N := 9) (j := 8) hsh rfl iX0 (by decide) (by rw [hy]; exact sT_1 111 rfl rfl) hf hd k
theorem gX0_27 {r : Nat} (hd : decode cc pc = .ok (.getfield 27, 3)) (hy : y.cls = RX0) (hsh : B.2.1[o]? = some (.inr (.inl (0, fl)))) (hf : fl[0]? = some (some r)) (k : WS B E y cc mL rt d (pc + 3) lv (.ref (s_ad B r) :: st) S Q) : WS B E y cc mL rt d pc lv (.ref (s_ad B o) :: st) S Q :=
  x_getR (T := TX0) (N := 9) (j := 0) hsh rfl iX0 (by decide) (by rw [hy]; exact sT_1 95 rfl rfl) hf hd k
theorem gX0_31 (hd : decode cc pc = .ok (.getfield 31, 3)) (hy : y.cls = RX0) (hsh : B.2.1[o]? = some (.inr (.inl (2, fl)))) (hf : fl[1]? = some none) (k : WS B E y cc mL rt d (pc + 3) lv (.int (S o 1) :: st) S Q) : WS B E y cc mL rt d pc lv (.ref (s_ad B o) :: st) S Q :=
  x_getI (T := TX2) (N := 8) (j := 1) hsh rfl iX2 (by decide) (by rw [hy]; exact sT_1 53 rfl rfl) hf hd k
theorem gX0_37 (hd : decode cc pc = .ok (.getfield 37, 3)) (hy : y.cls = RX0) (hsh : B.2.1[o]? = some (.inr (.inl (0, fl)))) (hf : fl[1]? = some none) (k : WS B E y cc mL rt d (pc + 3) lv (.int (S o 1) :: st) S Q) : WS B E y cc mL rt d pc lv (.ref (s_ad B o) :: st) S Q :=
  x_getI (T := TX0) (N := 9) (j := 1) hsh rfl iX0 (by decide) (by rw [hy]; exact sT_1 97 rfl rfl) hf hd k
theorem gX0_38 (hd : decode cc pc = .ok (.getfield 38, 3)) (hy : y.cls = RX0) (hsh : B.2.1[o]? = some (.inr (.inl (2, fl)))) (hf : fl[2]? = some none) (k : WS B E y cc mL rt d (pc + 3) lv (.int (S o 2) :: st) S Q) : WS B E y cc mL rt d pc lv (.ref (s_ad B o) :: st) S Q :=
  x_getI (T := TX2) (N := 8) (j := 2) hsh rfl iX2 (by decide) (by rw [hy]; exact sT_1 56 rfl rfl) hf hd k
theorem gX0_41 (hd : decode cc pc = .ok (.getfield 41, 3)) (hy : y.cls = RX0) (hsh : B.2.1[o]? = some (.inr (.inl (0, fl)))) (hf : fl[2]? = some none) (k : WS B E y cc mL rt d (pc + 3) lv (.int (S o 2) :: st) S Q) : WS B E y cc mL rt d pc lv (.ref (s_ad B o) :: st) S Q :=
  x_getI (T := TX0) (N := 9) (j := 2) hsh rfl iX0 (by decide) (by rw [hy]; exact sT_1 99 rfl rfl) hf hd k
theorem gX0_42 (hd : decode cc pc = .ok (.getfield 42, 3)) (hy : y.cls = RX0) (hsh : B.2.1[o]? = some (.inr (.inl (0, fl)))) (hf : fl[3]? = some none) (k : WS B E y cc mL rt d (pc + 3) lv (.int (S o 3) :: st) S Q) : WS B E y cc mL rt d pc lv (.ref (s_ad B o) :: st) S Q :=
  x_getI (T := TX0) (N := 9) (j := 3) hsh rfl iX0 (by decide) (by rw [hy]; exact sT_1 101 rfl rfl) hf hd k
theorem gX0_51 (hd : decode cc pc = .ok (.getfield 51, 3)) (hy : y.cls = RX0) (hsh : B.2.1[o]? = some (.inr (.inl (2, fl)))) (hf : fl[4]? = some none) (k : WS B E y cc mL rt d (pc + 3) lv (.int (S o 4) :: st) S Q) : WS B E y cc mL rt d pc lv (.ref (s_ad B o) :: st) S Q :=
  x_getI (T := TX2) (N := 8) (j := 4) hsh rfl iX2 (by decide) (by rw [hy]; exact sT_1 61 rfl rfl) hf hd k
theorem gX0_54 {r : Nat} (hd : decode cc pc = .ok (.getfield 54, 3)) (hy : y.cls = RX0) (hsh : B.2.1[o]? = some (.inr (.inl (2, fl)))) (hf : fl[5]? = some (some r)) (k : WS B E y cc mL rt d (pc + 3) lv (.ref (s_ad B r) :: st) S Q) : WS B E y cc mL rt d pc lv (.ref (s_ad B o) :: st) S Q :=
  x_getR (T := TX2) (N := 8) (j := 5) hsh rfl iX2 (by decide) (by rw [hy]; exact sT_1 64 rfl rfl) hf hd k
theorem gX0_57 {r : Nat} (hd : decode cc pc = .ok (.getfield 57, 3)) (hy : y.cls = RX0) (hsh : B.2.1[o]? = some (.inr (.inl (2, fl)))) (hf : fl[6]? = some (some r)) (k : WS B E y cc mL rt d (pc + 3) lv (.ref (s_ad B r) :: st) S Q) : WS B E y cc mL rt d pc lv (.ref (s_ad B o) :: st) S Q :=
  x_getR (T := TX2) (N := 8) (j := 6) hsh rfl iX2 (by decide) (by rw [hy]; exact sT_1 68 rfl rfl) hf hd k
theorem gX0_60 {r : Nat} (hd : decode cc pc = .ok (.getfield 60, 3)) (hy : y.cls = RX0) (hsh : B.2.1[o]? = some (.inr (.inl (2, fl)))) (hf : fl[7]? = some (some r)) (k : WS B E y cc mL rt d (pc + 3) lv (.ref (s_ad B r) :: st) S Q) : WS B E y cc mL rt d pc lv (.ref (s_ad B o) :: st) S Q :=
  x_getR (T := TX2) (N := 8) (j := 7) hsh rfl iX2 (by decide) (by rw [hy]; exact sT_1 71 rfl rfl) hf hd k
theorem gX0_84 (hd : decode cc pc = .ok (.getfield 84, 3)) (hy : y.cls = RX0) (hsh : B.2.1[o]? = some (.inr (.inl (2, fl)))) (hf : fl[3]? = some none) (k : WS B E y cc mL rt d (pc + 3) lv (.int (S o 3) :: st) S Q) : WS B E y cc mL rt d pc lv (.ref (s_ad B o) :: st) S Q :=
  x_getI (T := TX2) (N := 8) (j := 3) hsh rfl iX2 (by decide) (by rw [hy]; exact sT_1 58 rfl rfl) hf hd k
theorem gX0_9 {r : Nat} (hd : decode cc pc = .ok (.getfield 9, 3)) (hy : y.cls = RX0) (hsh : B.2.1[o]? = some (.inr (.inl (0, fl)))) (hf : fl[4]? = some (some r)) (k : WS B E y cc mL rt d (pc + 3) lv (.ref (s_ad B r) :: st) S Q) : WS B E y cc mL rt d pc lv (.ref (s_ad B o) :: st) S Q :=
  x_getR (T := TX0) (N := 9) (j := 4) hsh rfl iX0 (by decide) (by rw [hy]; exact sT_1 103 rfl rfl) hf hd k
theorem gX0_91 (hd : decode cc pc = .ok (.getfield 91, 3)) (hy : y.cls = RX0) (hsh : B.2.1[o]? = some (.inr (.inl (2, fl)))) (hf : fl[0]? = some none) (k : WS B E y cc mL rt d (pc + 3) lv (.int (S o 0) :: st) S Q) : WS B E y cc mL rt d pc lv (.ref (s_ad B o) :: st) S Q :=
  x_getI (T := TX2) (N := 8) (j := 0) hsh rfl iX2 (by decide) (by rw [hy]; exact sT_1 52 rfl rfl) hf hd k
theorem gX1_11 {r : Nat} (hd : decode cc pc = .ok (.getfield 11, 3)) (hy : y.cls = RX1) (hsh : B.2.1[o]? = some (.inr (.inl (1, fl)))) (hf : fl[0]? = some (some r)) (k : WS B E y cc mL rt d (pc + 3) lv (.ref (s_ad B r) :: st) S Q) : WS B E y cc mL rt d pc lv (.ref (s_ad B o) :: st) S Q :=
  x_getR (T := TX1) (N := 3) (j := 0) hsh rfl iX1 (by decide) (by rw [hy]; exact sT_1 141 rfl rfl) hf hd k
theorem gX1_20 (hd : decode cc pc = .ok (.getfield 20, 3)) (hy : y.cls = RX1) (hsh : B.2.1[o]? = some (.inr (.inl (1, fl)))) (hf : fl[2]? = some none) (k : WS B E y cc mL rt d (pc + 3) lv (.int (S o 2) :: st) S Q) : WS B E y cc mL rt d pc lv (.ref (s_ad B o) :: st) S Q :=
  x_getI (T := TX1) (N := 3) (j := 2) hsh rfl iX1 (by decide) (by rw [hy]; exact sT_1 143 rfl rfl) hf hd k
theorem gX1_24 (hd : decode cc pc = .ok (.getfield 24, 3)) (hy : y.cls = RX1) (hsh : B.2.1[o]? = some (.inr (.inl (1, fl)))) (hf : fl[1]? = some none) (k : WS B E y cc mL rt d (pc + 3) lv (.int (S o 1) :: st) S Q) : WS B E y cc mL rt d pc lv (.ref (s_ad B o) :: st) S Q :=
  x_getI (T := TX1) (N := 3) (j := 1) hsh rfl iX1 (by decide) (by rw [hy]; exact sT_1 142 rfl rfl) hf hd k
theorem gX2_15 {r : Nat} (hd : decode cc pc = .ok (.getfield 15, 3)) (hy : y.cls = RX2) (hsh : B.2.1[o]? = some (.inr (.inl (2, fl)))) (hf : fl[6]? = some (some r)) (k : WS B E y cc mL rt d (pc + 3) lv (.ref (s_ad B r) :: st) S Q) : WS B E y cc mL rt d pc lv (.ref (s_ad B o) :: st) S Q :=
  x_getR (T := TX2) (N := 8) (j := 6) hsh rfl iX2 (by decide) (by rw [hy]; exact sT_1 66 rfl rfl) hf hd k
theorem gX2_18 {r : Nat} (hd : decode cc pc = .ok (.getfield 18, 3)) (hy : y.cls = RX2) (hsh : B.2.1[o]? = some (.inr (.inl (2, fl)))) (hf : fl[7]? = some (some r)) (k : WS B E y cc mL rt d (pc + 3) lv (.ref (s_ad B r) :: st) S Q) : WS B E y cc mL rt d pc lv (.ref (s_ad B o) :: st) S Q :=
  x_getR (T := TX2) (N := 8) (j := 7) hsh rfl iX2 (by decide) (by rw [hy]; exact sT_1 69 rfl rfl) hf hd k
theorem gX2_21 (hd : decode cc pc = .ok (.getfield 21, 3)) (hy : y.cls = RX2) (hsh : B.2.1[o]? = some (.inr (.inl (2, fl)))) (hf : fl[0]? = some none) (k : WS B E y cc mL rt d (pc + 3) lv (.int (S o 0) :: st) S Q) : WS B E y cc mL rt d pc lv (.ref (s_ad B o) :: st) S Q :=
  x_getI (T := TX2) (N := 8) (j := 0) hsh rfl iX2 (by decide) (by rw [hy]; exact sT_1 50 rfl rfl) hf hd k
theorem gX2_25 (hd : decode cc pc = .ok (.getfield 25, 3)) (hy : y.cls = RX2) (hsh : B.2.1[o]? = some (.inr (.inl (2, fl)))) (hf : fl[1]? = some none) (k : WS B E y cc mL rt d (pc + 3) lv (.int (S o 1) :: st) S Q) : WS B E y cc mL rt d pc lv (.ref (s_ad B o) :: st) S Q :=
  x_getI (T := TX2) (N := 8) (j := 1) hsh rfl iX2 (by decide) (by rw [hy]; exact sT_1 54 rfl rfl) hf hd k
theorem gX2_28 (hd : decode cc pc = .ok (.getfield 28, 3)) (hy : y.cls = RX2) (hsh : B.2.1[o]? = some (.inr (.inl (2, fl)))) (hf : fl[2]? = some none) (k : WS B E y cc mL rt d (pc + 3) lv (.int (S o 2) :: st) S Q) : WS B E y cc mL rt d pc lv (.ref (s_ad B o) :: st) S Q :=
  x_getI (T := TX2) (N := 8) (j := 2) hsh rfl iX2 (by decide) (by rw [hy]; exact sT_1 55 rfl rfl) hf hd k
theorem gX2_31 (hd : decode cc pc = .ok (.getfield 31, 3)) (hy : y.cls = RX2) (hsh : B.2.1[o]? = some (.inr (.inl (2, fl)))) (hf : fl[3]? = some none) (k : WS B E y cc mL rt d (pc + 3) lv (.int (S o 3) :: st) S Q) : WS B E y cc mL rt d pc lv (.ref (s_ad B o) :: st) S Q :=
  x_getI (T := TX2) (N := 8) (j := 3) hsh rfl iX2 (by decide) (by rw [hy]; exact sT_1 57 rfl rfl) hf hd k
theorem gX2_34 (hd : decode cc pc = .ok (.getfield 34, 3)) (hy : y.cls = RX2) (hsh : B.2.1[o]? = some (.inr (.inl (2, fl)))) (hf : fl[4]? = some none) (k : WS B E y cc mL rt d (pc + 3) lv (.int (S o 4) :: st) S Q) : WS B E y cc mL rt d pc lv (.ref (s_ad B o) :: st) S Q :=
  x_getI (T := TX2) (N := 8) (j := 4) hsh rfl iX2 (by decide) (by rw [hy]; exact sT_1 59 rfl rfl) hf hd k
theorem gX2_9 {r : Nat} (hd : decode cc pc = .ok (.getfield 9, 3)) (hy : y.cls = RX2) (hsh : B.2.1[o]? = some (.inr (.inl (2, fl)))) (hf : fl[5]? = some (some r)) (k : WS B E y cc mL rt d (pc + 3) lv (.ref (s_ad B r) :: st) S Q) : WS B E y cc mL rt d pc lv (.ref (s_ad B o) :: st) S Q :=
  x_getR (T := TX2) (N := 8) (j := 5) hsh rfl iX2 (by decide) (by rw [hy]; exact sT_1 63 rfl rfl) hf hd k
theorem gX3_15 {r : Nat} (hd : decode cc pc = .ok (.getfield 15, 3)) (hy : y.cls = RX3) (hsh : B.2.1[o]? = some (.inr (.inl (3, fl)))) (hf : fl[1]? = some (some r)) (k : WS B E y cc mL rt d (pc + 3) lv (.ref (s_ad B r) :: st) S Q) : WS B E y cc mL rt d pc lv (.ref (s_ad B o) :: st) S Q :=
  x_getR (T := TX3) (N := 6) (j := 1) hsh rfl iX3 (by decide) (by rw [hy]; exact sT_1 182 rfl rfl) hf hd k
theorem gX3_18 {r : Nat} (hd : decode cc pc = .ok (.getfield 18, 3)) (hy : y.cls = RX3) (hsh : B.2.1[o]? = some (.inr (.inl (3, fl)))) (hf : fl[4]? = some (some r)) (k : WS B E y cc mL rt d (pc + 3) lv (.ref (s_ad B r) :: st) S Q) : WS B E y cc mL rt d pc lv (.ref (s_ad B o) :: st) S Q :=
  x_getR (T := TX3) (N := 6) (j := 4) hsh rfl iX3 (by decide) (by rw [hy]; exact sT_1 185 rfl rfl) hf hd k
theorem gX3_29 (hd : decode cc pc = .ok (.getfield 29, 3)) (hy : y.cls = RX3) (hsh : B.2.1[o]? = some (.inr (.inl (3, fl)))) (hf : fl[5]? = some none) (k : WS B E y cc mL rt d (pc + 3) lv (.int (S o 5) :: st) S Q) : WS B E y cc mL rt d pc lv (.ref (s_ad B o) :: st) S Q :=
  x_getI (T := TX3) (N := 6) (j := 5) hsh rfl iX3 (by decide) (by rw [hy]; exact sT_1 187 rfl rfl) hf hd k
theorem gX3_33 (hd : decode cc pc = .ok (.getfield 33, 3)) (hy : y.cls = RX3) (hsh : B.2.1[o]? = some (.inr (.inl (3, fl)))) (hf : fl[3]? = some none) (k : WS B E y cc mL rt d (pc + 3) lv (.int (S o 3) :: st) S Q) : WS B E y cc mL rt d pc lv (.ref (s_ad B o) :: st) S Q :=
  x_getI (T := TX3) (N := 6) (j := 3) hsh rfl iX3 (by decide) (by rw [hy]; exact sT_1 184 rfl rfl) hf hd k
theorem gX3_40 {r : Nat} (hd : decode cc pc = .ok (.getfield 40, 3)) (hy : y.cls = RX3) (hsh : B.2.1[o]? = some (.inr (.inl (0, fl)))) (hf : fl[0]? = some (some r)) (k : WS B E y cc mL rt d (pc + 3) lv (.ref (s_ad B r) :: st) S Q) : WS B E y cc mL rt d pc lv (.ref (s_ad B o) :: st) S Q :=
  x_getN (T := TX0) (N := 9) (j := 0) (host := "ToastBelt") hsh rfl iX0 (by decide) (by rw [hy]; decide +kernel) hf hd k
theorem gX3_46 (hd : decode cc pc = .ok (.getfield 46, 3)) (hy : y.cls = RX3) (hsh : B.2.1[o]? = some (.inr (.inl (2, fl)))) (hf : fl[4]? = some none) (k : WS B E y cc mL rt d (pc + 3) lv (.int (S o 4) :: st) S Q) : WS B E y cc mL rt d pc lv (.ref (s_ad B o) :: st) S Q :=
  x_getI (T := TX2) (N := 8) (j := 4) hsh rfl iX2 (by decide) (by rw [hy]; exact sT_1 60 rfl rfl) hf hd k
theorem gX3_56 (hd : decode cc pc = .ok (.getfield 56, 3)) (hy : y.cls = RX3) (hsh : B.2.1[o]? = some (.inr (.inl (3, fl)))) (hf : fl[2]? = some none) (k : WS B E y cc mL rt d (pc + 3) lv (.int (S o 2) :: st) S Q) : WS B E y cc mL rt d pc lv (.ref (s_ad B o) :: st) S Q :=
  x_getI (T := TX3) (N := 6) (j := 2) hsh rfl iX3 (by decide) (by rw [hy]; exact sT_1 183 rfl rfl) hf hd k
theorem gX3_9 {r : Nat} (hd : decode cc pc = .ok (.getfield 9, 3)) (hy : y.cls = RX3) (hsh : B.2.1[o]? = some (.inr (.inl (3, fl)))) (hf : fl[0]? = some (some r)) (k : WS B E y cc mL rt d (pc + 3) lv (.ref (s_ad B r) :: st) S Q) : WS B E y cc mL rt d pc lv (.ref (s_ad B o) :: st) S Q :=
  x_getR (T := TX3) (N := 6) (j := 0) hsh rfl iX3 (by decide) (by rw [hy]; exact sT_1 181 rfl rfl) hf hd k
theorem gX4_15 {r : Nat} (hd : decode cc pc = .ok (.getfield 15, 3)) (hy : y.cls = RX4) (hsh : B.2.1[o]? = some (.inr (.inl (4, fl)))) (hf : fl[1]? = some (some r)) (k : WS B E y cc mL rt d (pc + 3) lv (.ref (s_ad B r) :: st) S Q) : WS B E y cc mL rt d pc lv (.ref (s_ad B o) :: st) S Q :=
  x_getR (T := TX4) (N := 5) (j := 1) hsh rfl iX4 (by decide) (by rw [hy]; exact sT_1 159 rfl rfl) hf hd k
theorem gX4_18 {r : Nat} (hd : decode cc pc = .ok (.getfield 18, 3)) (hy : y.cls = RX4) (hsh : B.2.1[o]? = some (.inr (.inl (4, fl)))) (hf : fl[2]? = some (some r)) (k : WS B E y cc mL rt d (pc + 3) lv (.ref (s_ad B r) :: st) S Q) : WS B E y cc mL rt d pc lv (.ref (s_ad B o) :: st) S Q :=
  x_getR (T := TX4) (N := 5) (j := 2) hsh rfl iX4 (by decide) (by rw [hy]; exact sT_1 160 rfl rfl) hf hd k
theorem gX4_21 {r : Nat} (hd : decode cc pc = .ok (.getfield 21, 3)) (hy : y.cls = RX4) (hsh : B.2.1[o]? = some (.inr (.inl (4, fl)))) (hf : fl[3]? = some (some r)) (k : WS B E y cc mL rt d (pc + 3) lv (.ref (s_ad B r) :: st) S Q) : WS B E y cc mL rt d pc lv (.ref (s_ad B o) :: st) S Q :=
  x_getR (T := TX4) (N := 5) (j := 3) hsh rfl iX4 (by decide) (by rw [hy]; exact sT_1 161 rfl rfl) hf hd k
theorem gX4_24 (hd : decode cc pc = .ok (.getfield 24, 3)) (hy : y.cls = RX4) (hsh : B.2.1[o]? = some (.inr (.inl (4, fl)))) (hf : fl[4]? = some none) (k : WS B E y cc mL rt d (pc + 3) lv (.int (S o 4) :: st) S Q) : WS B E y cc mL rt d pc lv (.ref (s_ad B o) :: st) S Q :=
  x_getI (T := TX4) (N := 5) (j := 4) hsh rfl iX4 (by decide) (by rw [hy]; exact sT_1 162 rfl rfl) hf hd k
theorem gX4_9 {r : Nat} (hd : decode cc pc = .ok (.getfield 9, 3)) (hy : y.cls = RX4) (hsh : B.2.1[o]? = some (.inr (.inl (4, fl)))) (hf : fl[0]? = some (some r)) (k : WS B E y cc mL rt d (pc + 3) lv (.ref (s_ad B r) :: st) S Q) : WS B E y cc mL rt d pc lv (.ref (s_ad B o) :: st) S Q :=
  x_getR (T := TX4) (N := 5) (j := 0) hsh rfl iX4 (by decide) (by rw [hy]; exact sT_1 158 rfl rfl) hf hd k
theorem gX5_15 {r : Nat} (hd : decode cc pc = .ok (.getfield 15, 3)) (hy : y.cls = RX5) (hsh : B.2.1[o]? = some (.inr (.inl (5, fl)))) (hf : fl[1]? = some (some r)) (k : WS B E y cc mL rt d (pc + 3) lv (.ref (s_ad B r) :: st) S Q) : WS B E y cc mL rt d pc lv (.ref (s_ad B o) :: st) S Q :=
  x_getR (T := TX5) (N := 4) (j := 1) hsh rfl iX5 (by decide) (by rw [hy]; exact sT_1 30 rfl rfl) hf hd k
theorem gX5_19 (hd : decode cc pc = .ok (.getfield 19, 3)) (hy : y.cls = RX5) (hsh : B.2.1[o]? = some (.inr (.inl (5, fl)))) (hf : fl[2]? = some none) (k : WS B E y cc mL rt d (pc + 3) lv (.int (S o 2) :: st) S Q) : WS B E y cc mL rt d pc lv (.ref (s_ad B o) :: st) S Q :=
  x_getI (T := TX5) (N := 4) (j := 2) hsh rfl iX5 (by decide) (by rw [hy]; exact sT_1 31 rfl rfl) hf hd k
theorem gX5_28 (hd : decode cc pc = .ok (.getfield 28, 3)) (hy : y.cls = RX5) (hsh : B.2.1[o]? = some (.inr (.inl (5, fl)))) (hf : fl[3]? = some none) (k : WS B E y cc mL rt d (pc + 3) lv (.int (S o 3) :: st) S Q) : WS B E y cc mL rt d pc lv (.ref (s_ad B o) :: st) S Q :=
  x_getI (T := TX5) (N := 4) (j := 3) hsh rfl iX5 (by decide) (by rw [hy]; exact sT_1 32 rfl rfl) hf hd k
theorem gX5_9 {r : Nat} (hd : decode cc pc = .ok (.getfield 9, 3)) (hy : y.cls = RX5) (hsh : B.2.1[o]? = some (.inr (.inl (5, fl)))) (hf : fl[0]? = some (some r)) (k : WS B E y cc mL rt d (pc + 3) lv (.ref (s_ad B r) :: st) S Q) : WS B E y cc mL rt d pc lv (.ref (s_ad B o) :: st) S Q :=
  x_getR (T := TX5) (N := 4) (j := 0) hsh rfl iX5 (by decide) (by rw [hy]; exact sT_1 29 rfl rfl) hf hd k
theorem gX6_10 {r : Nat} (hd : decode cc pc = .ok (.getfield 10, 3)) (hy : y.cls = RX6) (hsh : B.2.1[o]? = some (.inr (.inl (6, fl)))) (hf : fl[0]? = some (some r)) (k : WS B E y cc mL rt d (pc + 3) lv (.ref (s_ad B r) :: st) S Q) : WS B E y cc mL rt d pc lv (.ref (s_ad B o) :: st) S Q :=
  x_getR (T := TX6) (N := 11) (j := 0) hsh rfl iX6 (by decide) (by rw [hy]; exact sT_2 89 rfl rfl) hf hd k
theorem gX6_105 {r : Nat} (hd : decode cc pc = .ok (.getfield 105, 3)) (hy : y.cls = RX6) (hsh : B.2.1[o]? = some (.inr (.inl (2, fl)))) (hf : fl[5]? = some (some r)) (k : WS B E y cc mL rt d (pc + 3) lv (.ref (s_ad B r) :: st) S Q) : WS B E y cc mL rt d pc lv (.ref (s_ad B o) :: st) S Q :=
  x_getR (T := TX2) (N := 8) (j := 5) hsh rfl iX2 (by decide) (by rw [hy]; exact sT_1 65 rfl rfl) hf hd k
theorem gX6_109 {r : Nat} (hd : decode cc pc = .ok (.getfield 109, 3)) (hy : y.cls = RX6) (hsh : B.2.1[o]? = some (.inr (.inl (2, fl)))) (hf : fl[6]? = some (some r)) (k : WS B E y cc mL rt d (pc + 3) lv (.ref (s_ad B r) :: st) S Q) : WS B E y cc mL rt d pc lv (.ref (s_ad B o) :: st) S Q :=
  x_getR (T := TX2) (N := 8) (j := 6) hsh rfl iX2 (by decide) (by rw [hy]; exact sT_1 67 rfl rfl) hf hd k
theorem gX6_112 {r : Nat} (hd : decode cc pc = .ok (.getfield 112, 3)) (hy : y.cls = RX6) (hsh : B.2.1[o]? = some (.inr (.inl (2, fl)))) (hf : fl[7]? = some (some r)) (k : WS B E y cc mL rt d (pc + 3) lv (.ref (s_ad B r) :: st) S Q) : WS B E y cc mL rt d pc lv (.ref (s_ad B o) :: st) S Q :=
  x_getR (T := TX2) (N := 8) (j := 7) hsh rfl iX2 (by decide) (by rw [hy]; exact sT_1 70 rfl rfl) hf hd k
theorem gX6_119 {r : Nat} (hd : decode cc pc = .ok (.getfield 119, 3)) (hy : y.cls = RX6) (hsh : B.2.1[o]? = some (.inr (.inl (0, fl)))) (hf : fl[4]? = some (some r)) (k : WS B E y cc mL rt d (pc + 3) lv (.ref (s_ad B r) :: st) S Q) : WS B E y cc mL rt d pc lv (.ref (s_ad B o) :: st) S Q :=
  x_getR (T := TX0) (N := 9) (j := 4) hsh rfl iX0 (by decide) (by rw [hy]; exact sT_1 104 rfl rfl) hf hd k
theorem gX6_122 {r : Nat} (hd : decode cc pc = .ok (.getfield 122, 3)) (hy : y.cls = RX6) (hsh : B.2.1[o]? = some (.inr (.inl (0, fl)))) (hf : fl[5]? = some (some r)) (k : WS B E y cc mL rt d (pc + 3) lv (.ref (s_ad B r) :: st) S Q) : WS B E y cc mL rt d pc lv (.ref (s_ad B o) :: st) S Q :=
  x_getR (T := TX0) (N := 9) (j := 5) hsh rfl iX0 (by decide) (by rw [hy]; exact sT_1 106 rfl rfl) hf hd k
theorem gX6_125 {r : Nat} (hd : decode cc pc = .ok (.getfield 125, 3)) (hy : y.cls = RX6) (hsh : B.2.1[o]? = some (.inr (.inl (0, fl)))) (hf : fl[6]? = some (some r)) (k : WS B E y cc mL rt d (pc + 3) lv (.ref (s_ad B r) :: st) S Q) : WS B E y cc mL rt d pc lv (.ref (s_ad B o) :: st) S Q :=
  x_getR (T := TX0) (N := 9) (j := 6) hsh rfl iX0 (by decide) (by rw [hy]; exact sT_1 108 rfl rfl) hf hd k
theorem gX6_128 {r : Nat} (hd : decode cc pc = .ok (.getfield 128, 3)) (hy : y.cls = RX6) (hsh : B.2.1[o]? = some (.inr (.inl (0, fl)))) (hf : fl[7]? = some (some r)) (k : WS B E y cc mL rt d (pc + 3) lv (.ref (s_ad B r) :: st) S Q) : WS B E y cc mL rt d pc lv (.ref (s_ad B o) :: st) S Q :=
  x_getR (T := TX0) (N := 9) (j := 7) hsh rfl iX0 (by decide) (by rw [hy]; exact sT_1 110 rfl rfl) hf hd k
theorem gX6_131 {r : Nat} (hd : decode cc pc = .ok (.getfield 131, 3)) (hy : y.cls = RX6) (hsh : B.2.1[o]? = some (.inr (.inl (0, fl)))) (hf : fl[8]? = some (some r)) (k : WS B E y cc mL rt d (pc + 3) lv (.ref (s_ad B r) :: st) S Q) : WS B E y cc mL rt d pc lv (.ref (s_ad B o) :: st) S Q :=
  x_getR (T := TX0) (N := 9) (j := 8) hsh rfl iX0 (by decide) (by rw [hy]; exact sT_1 112 rfl rfl) hf hd k
theorem gX6_158 (hd : decode cc pc = .ok (.getfield 158, 3)) (hy : y.cls = RX6) (hsh : B.2.1[o]? = some (.inr (.inl (0, fl)))) (hf : fl[3]? = some none) (k : WS B E y cc mL rt d (pc + 3) lv (.int (S o 3) :: st) S Q) : WS B E y cc mL rt d pc lv (.ref (s_ad B o) :: st) S Q :=
  x_getI (T := TX0) (N := 9) (j := 3) hsh rfl iX0 (by decide) (by rw [hy]; exact sT_1 102 rfl rfl) hf hd k
theorem gX6_167 (hd : decode cc pc = .ok (.getfield 167, 3)) (hy : y.cls = RX6) (hsh : B.2.1[o]? = some (.inr (.inl (0, fl)))) (hf : fl[1]? = some none) (k : WS B E y cc mL rt d (pc + 3) lv (.int (S o 1) :: st) S Q) : WS B E y cc mL rt d pc lv (.ref (s_ad B o) :: st) S Q :=
  x_getI (T := TX0) (N := 9) (j := 1) hsh rfl iX0 (by decide) (by rw [hy]; exact sT_1 98 rfl rfl) hf hd k
theorem gX6_176 (hd : decode cc pc = .ok (.getfield 176, 3)) (hy : y.cls = RX6) (hsh : B.2.1[o]? = some (.inr (.inl (1, fl)))) (hf : fl[2]? = some none) (k : WS B E y cc mL rt d (pc + 3) lv (.int (S o 2) :: st) S Q) : WS B E y cc mL rt d pc lv (.ref (s_ad B o) :: st) S Q :=
  x_getI (T := TX1) (N := 3) (j := 2) hsh rfl iX1 (by decide) (by rw [hy]; exact sT_1 144 rfl rfl) hf hd k
theorem gX6_182 (hd : decode cc pc = .ok (.getfield 182, 3)) (hy : y.cls = RX6) (hsh : B.2.1[o]? = some (.inr (.inl (2, fl)))) (hf : fl[0]? = some none) (k : WS B E y cc mL rt d (pc + 3) lv (.int (S o 0) :: st) S Q) : WS B E y cc mL rt d pc lv (.ref (s_ad B o) :: st) S Q :=
  x_getI (T := TX2) (N := 8) (j := 0) hsh rfl iX2 (by decide) (by rw [hy]; exact sT_1 51 rfl rfl) hf hd k
theorem gX6_19 {r : Nat} (hd : decode cc pc = .ok (.getfield 19, 3)) (hy : y.cls = RX6) (hsh : B.2.1[o]? = some (.inr (.inl (6, fl)))) (hf : fl[1]? = some (some r)) (k : WS B E y cc mL rt d (pc + 3) lv (.ref (s_ad B r) :: st) S Q) : WS B E y cc mL rt d pc lv (.ref (s_ad B o) :: st) S Q :=
  x_getR (T := TX6) (N := 11) (j := 1) hsh rfl iX6 (by decide) (by rw [hy]; exact sT_2 90 rfl rfl) hf hd k
theorem gX6_210 (hd : decode cc pc = .ok (.getfield 210, 3)) (hy : y.cls = RX6) (hsh : B.2.1[o]? = some (.inr (.inl (3, fl)))) (hf : fl[5]? = some none) (k : WS B E y cc mL rt d (pc + 3) lv (.int (S o 5) :: st) S Q) : WS B E y cc mL rt d pc lv (.ref (s_ad B o) :: st) S Q :=
  x_getI (T := TX3) (N := 6) (j := 5) hsh rfl iX3 (by decide) (by rw [hy]; exact sT_1 188 rfl rfl) hf hd k
theorem gX6_213 {r : Nat} (hd : decode cc pc = .ok (.getfield 213, 3)) (hy : y.cls = RX6) (hsh : B.2.1[o]? = some (.inr (.inl (3, fl)))) (hf : fl[4]? = some (some r)) (k : WS B E y cc mL rt d (pc + 3) lv (.ref (s_ad B r) :: st) S Q) : WS B E y cc mL rt d pc lv (.ref (s_ad B o) :: st) S Q :=
  x_getR (T := TX3) (N := 6) (j := 4) hsh rfl iX3 (by decide) (by rw [hy]; exact sT_1 186 rfl rfl) hf hd k
theorem gX6_219 (hd : decode cc pc = .ok (.getfield 219, 3)) (hy : y.cls = RX6) (hsh : B.2.1[o]? = some (.inr (.inl (4, fl)))) (hf : fl[4]? = some none) (k : WS B E y cc mL rt d (pc + 3) lv (.int (S o 4) :: st) S Q) : WS B E y cc mL rt d pc lv (.ref (s_ad B o) :: st) S Q :=
  x_getI (T := TX4) (N := 5) (j := 4) hsh rfl iX4 (by decide) (by rw [hy]; exact sT_1 163 rfl rfl) hf hd k
theorem gX6_23 {r : Nat} (hd : decode cc pc = .ok (.getfield 23, 3)) (hy : y.cls = RX6) (hsh : B.2.1[o]? = some (.inr (.inl (6, fl)))) (hf : fl[2]? = some (some r)) (k : WS B E y cc mL rt d (pc + 3) lv (.ref (s_ad B r) :: st) S Q) : WS B E y cc mL rt d pc lv (.ref (s_ad B o) :: st) S Q :=
  x_getR (T := TX6) (N := 11) (j := 2) hsh rfl iX6 (by decide) (by rw [hy]; exact sT_2 91 rfl rfl) hf hd k
theorem gX6_240 (hd : decode cc pc = .ok (.getfield 240, 3)) (hy : y.cls = RX6) (hsh : B.2.1[o]? = some (.inr (.inl (0, fl)))) (hf : fl[2]? = some none) (k : WS B E y cc mL rt d (pc + 3) lv (.int (S o 2) :: st) S Q) : WS B E y cc mL rt d pc lv (.ref (s_ad B o) :: st) S Q :=
  x_getI (T := TX0) (N := 9) (j := 2) hsh rfl iX0 (by decide) (by rw [hy]; exact sT_1 100 rfl rfl) hf hd k
theorem gX6_243 (hd : decode cc pc = .ok (.getfield 243, 3)) (hy : y.cls = RX6) (hsh : B.2.1[o]? = some (.inr (.inl (6, fl)))) (hf : fl[8]? = some none) (k : WS B E y cc mL rt d (pc + 3) lv (.int (S o 8) :: st) S Q) : WS B E y cc mL rt d pc lv (.ref (s_ad B o) :: st) S Q :=
  x_getI (T := TX6) (N := 11) (j := 8) hsh rfl iX6 (by decide) (by rw [hy]; exact sT_2 97 rfl rfl) hf hd k
theorem gX6_31 {r : Nat} (hd : decode cc pc = .ok (.getfield 31, 3)) (hy : y.cls = RX6) (hsh : B.2.1[o]? = some (.inr (.inl (6, fl)))) (hf : fl[3]? = some (some r)) (k : WS B E y cc mL rt d (pc + 3) lv (.ref (s_ad B r) :: st) S Q) : WS B E y cc mL rt d pc lv (.ref (s_ad B o) :: st) S Q :=
  x_getR (T := TX6) (N := 11) (j := 3) hsh rfl iX6 (by decide) (by rw [hy]; exact sT_2 92 rfl rfl) hf hd k
theorem gX6_35 {r : Nat} (hd : decode cc pc = .ok (.getfield 35, 3)) (hy : y.cls = RX6) (hsh : B.2.1[o]? = some (.inr (.inl (6, fl)))) (hf : fl[4]? = some (some r)) (k : WS B E y cc mL rt d (pc + 3) lv (.ref (s_ad B r) :: st) S Q) : WS B E y cc mL rt d pc lv (.ref (s_ad B o) :: st) S Q :=
  x_getR (T := TX6) (N := 11) (j := 4) hsh rfl iX6 (by decide) (by rw [hy]; exact sT_2 93 rfl rfl) hf hd k
theorem gX6_38 {r : Nat} (hd : decode cc pc = .ok (.getfield 38, 3)) (hy : y.cls = RX6) (hsh : B.2.1[o]? = some (.inr (.inl (6, fl)))) (hf : fl[5]? = some (some r)) (k : WS B E y cc mL rt d (pc + 3) lv (.ref (s_ad B r) :: st) S Q) : WS B E y cc mL rt d pc lv (.ref (s_ad B o) :: st) S Q :=
  x_getR (T := TX6) (N := 11) (j := 5) hsh rfl iX6 (by decide) (by rw [hy]; exact sT_2 94 rfl rfl) hf hd k
theorem gX6_44 {r : Nat} (hd : decode cc pc = .ok (.getfield 44, 3)) (hy : y.cls = RX6) (hsh : B.2.1[o]? = some (.inr (.inl (6, fl)))) (hf : fl[6]? = some (some r)) (k : WS B E y cc mL rt d (pc + 3) lv (.ref (s_ad B r) :: st) S Q) : WS B E y cc mL rt d pc lv (.ref (s_ad B o) :: st) S Q :=
  x_getR (T := TX6) (N := 11) (j := 6) hsh rfl iX6 (by decide) (by rw [hy]; exact sT_2 95 rfl rfl) hf hd k
theorem gX6_48 {r : Nat} (hd : decode cc pc = .ok (.getfield 48, 3)) (hy : y.cls = RX6) (hsh : B.2.1[o]? = some (.inr (.inl (6, fl)))) (hf : fl[7]? = some (some r)) (k : WS B E y cc mL rt d (pc + 3) lv (.ref (s_ad B r) :: st) S Q) : WS B E y cc mL rt d pc lv (.ref (s_ad B o) :: st) S Q :=
  x_getR (T := TX6) (N := 11) (j := 7) hsh rfl iX6 (by decide) (by rw [hy]; exact sT_2 96 rfl rfl) hf hd k
theorem gX6_55 {r : Nat} (hd : decode cc pc = .ok (.getfield 55, 3)) (hy : y.cls = RX6) (hsh : B.2.1[o]? = some (.inr (.inl (6, fl)))) (hf : fl[9]? = some (some r)) (k : WS B E y cc mL rt d (pc + 3) lv (.ref (s_ad B r) :: st) S Q) : WS B E y cc mL rt d pc lv (.ref (s_ad B o) :: st) S Q :=
  x_getR (T := TX6) (N := 11) (j := 9) hsh rfl iX6 (by decide) (by rw [hy]; exact sT_2 98 rfl rfl) hf hd k
theorem gX6_62 {r : Nat} (hd : decode cc pc = .ok (.getfield 62, 3)) (hy : y.cls = RX6) (hsh : B.2.1[o]? = some (.inr (.inl (6, fl)))) (hf : fl[10]? = some (some r)) (k : WS B E y cc mL rt d (pc + 3) lv (.ref (s_ad B r) :: st) S Q) : WS B E y cc mL rt d pc lv (.ref (s_ad B o) :: st) S Q :=
  x_getR (T := TX6) (N := 11) (j := 10) hsh rfl iX6 (by decide) (by rw [hy]; exact sT_2 99 rfl rfl) hf hd k
theorem gX6_97 (hd : decode cc pc = .ok (.getfield 97, 3)) (hy : y.cls = RX6) (hsh : B.2.1[o]? = some (.inr (.inl (2, fl)))) (hf : fl[4]? = some none) (k : WS B E y cc mL rt d (pc + 3) lv (.int (S o 4) :: st) S Q) : WS B E y cc mL rt d pc lv (.ref (s_ad B o) :: st) S Q :=
  x_getI (T := TX2) (N := 8) (j := 4) hsh rfl iX2 (by decide) (by rw [hy]; exact sT_1 62 rfl rfl) hf hd k
theorem gX7_108 (hd : decode cc pc = .ok (.getfield 108, 3)) (hy : y.cls = RX7) (hsh : B.2.1[o]? = some (.inr (.inl (7, fl)))) (hf : fl[16]? = some none) (k : WS B E y cc mL rt d (pc + 3) lv (.int (S o 16) :: st) S Q) : WS B E y cc mL rt d pc lv (.ref (s_ad B o) :: st) S Q :=
  x_getI (T := TX7) (N := 26) (j := 16) hsh rfl iX7 (by decide) (by rw [hy]; exact sT_3 188 rfl rfl) hf hd k
theorem gX7_111 (hd : decode cc pc = .ok (.getfield 111, 3)) (hy : y.cls = RX7) (hsh : B.2.1[o]? = some (.inr (.inl (7, fl)))) (hf : fl[25]? = some none) (k : WS B E y cc mL rt d (pc + 3) lv (.int (S o 25) :: st) S Q) : WS B E y cc mL rt d pc lv (.ref (s_ad B o) :: st) S Q :=
  x_getI (T := TX7) (N := 26) (j := 25) hsh rfl iX7 (by decide) (by rw [hy]; exact sT_3 197 rfl rfl) hf hd k
theorem gX7_114 (hd : decode cc pc = .ok (.getfield 114, 3)) (hy : y.cls = RX7) (hsh : B.2.1[o]? = some (.inr (.inl (7, fl)))) (hf : fl[18]? = some none) (k : WS B E y cc mL rt d (pc + 3) lv (.int (S o 18) :: st) S Q) : WS B E y cc mL rt d pc lv (.ref (s_ad B o) :: st) S Q :=
  x_getI (T := TX7) (N := 26) (j := 18) hsh rfl iX7 (by decide) (by rw [hy]; exact sT_3 190 rfl rfl) hf hd k
theorem gX7_13 {r : Nat} (hd : decode cc pc = .ok (.getfield 13, 3)) (hy : y.cls = RX7) (hsh : B.2.1[o]? = some (.inr (.inl (7, fl)))) (hf : fl[2]? = some (some r)) (k : WS B E y cc mL rt d (pc + 3) lv (.ref (s_ad B r) :: st) S Q) : WS B E y cc mL rt d pc lv (.ref (s_ad B o) :: st) S Q :=
  x_getR (T := TX7) (N := 26) (j := 2) hsh rfl iX7 (by decide) (by rw [hy]; exact sT_3 174 rfl rfl) hf hd k
theorem gX7_17 {r : Nat} (hd : decode cc pc = .ok (.getfield 17, 3)) (hy : y.cls = RX7) (hsh : B.2.1[o]? = some (.inr (.inl (7, fl)))) (hf : fl[3]? = some (some r)) (k : WS B E y cc mL rt d (pc + 3) lv (.ref (s_ad B r) :: st) S Q) : WS B E y cc mL rt d pc lv (.ref (s_ad B o) :: st) S Q :=
  x_getR (T := TX7) (N := 26) (j := 3) hsh rfl iX7 (by decide) (by rw [hy]; exact sT_3 175 rfl rfl) hf hd k
theorem gX7_20 {r : Nat} (hd : decode cc pc = .ok (.getfield 20, 3)) (hy : y.cls = RX7) (hsh : B.2.1[o]? = some (.inr (.inl (7, fl)))) (hf : fl[4]? = some (some r)) (k : WS B E y cc mL rt d (pc + 3) lv (.ref (s_ad B r) :: st) S Q) : WS B E y cc mL rt d pc lv (.ref (s_ad B o) :: st) S Q :=
  x_getR (T := TX7) (N := 26) (j := 4) hsh rfl iX7 (by decide) (by rw [hy]; exact sT_3 176 rfl rfl) hf hd k
theorem gX7_23 {r : Nat} (hd : decode cc pc = .ok (.getfield 23, 3)) (hy : y.cls = RX7) (hsh : B.2.1[o]? = some (.inr (.inl (7, fl)))) (hf : fl[5]? = some (some r)) (k : WS B E y cc mL rt d (pc + 3) lv (.ref (s_ad B r) :: st) S Q) : WS B E y cc mL rt d pc lv (.ref (s_ad B o) :: st) S Q :=
  x_getR (T := TX7) (N := 26) (j := 5) hsh rfl iX7 (by decide) (by rw [hy]; exact sT_3 177 rfl rfl) hf hd k
theorem gX7_26 {r : Nat} (hd : decode cc pc = .ok (.getfield 26, 3)) (hy : y.cls = RX7) (hsh : B.2.1[o]? = some (.inr (.inl (7, fl)))) (hf : fl[6]? = some (some r)) (k : WS B E y cc mL rt d (pc + 3) lv (.ref (s_ad B r) :: st) S Q) : WS B E y cc mL rt d pc lv (.ref (s_ad B o) :: st) S Q :=
  x_getR (T := TX7) (N := 26) (j := 6) hsh rfl iX7 (by decide) (by rw [hy]; exact sT_3 178 rfl rfl) hf hd k
theorem gX7_29 {r : Nat} (hd : decode cc pc = .ok (.getfield 29, 3)) (hy : y.cls = RX7) (hsh : B.2.1[o]? = some (.inr (.inl (7, fl)))) (hf : fl[7]? = some (some r)) (k : WS B E y cc mL rt d (pc + 3) lv (.ref (s_ad B r) :: st) S Q) : WS B E y cc mL rt d pc lv (.ref (s_ad B o) :: st) S Q :=
  x_getR (T := TX7) (N := 26) (j := 7) hsh rfl iX7 (by decide) (by rw [hy]; exact sT_3 179 rfl rfl) hf hd k
theorem gX7_32 {r : Nat} (hd : decode cc pc = .ok (.getfield 32, 3)) (hy : y.cls = RX7) (hsh : B.2.1[o]? = some (.inr (.inl (7, fl)))) (hf : fl[8]? = some (some r)) (k : WS B E y cc mL rt d (pc + 3) lv (.ref (s_ad B r) :: st) S Q) : WS B E y cc mL rt d pc lv (.ref (s_ad B o) :: st) S Q :=
  x_getR (T := TX7) (N := 26) (j := 8) hsh rfl iX7 (by decide) (by rw [hy]; exact sT_3 180 rfl rfl) hf hd k
theorem gX7_35 {r : Nat} (hd : decode cc pc = .ok (.getfield 35, 3)) (hy : y.cls = RX7) (hsh : B.2.1[o]? = some (.inr (.inl (7, fl)))) (hf : fl[9]? = some (some r)) (k : WS B E y cc mL rt d (pc + 3) lv (.ref (s_ad B r) :: st) S Q) : WS B E y cc mL rt d pc lv (.ref (s_ad B o) :: st) S Q :=
  x_getR (T := TX7) (N := 26) (j := 9) hsh rfl iX7 (by decide) (by rw [hy]; exact sT_3 181 rfl rfl) hf hd k
theorem gX7_38 {r : Nat} (hd : decode cc pc = .ok (.getfield 38, 3)) (hy : y.cls = RX7) (hsh : B.2.1[o]? = some (.inr (.inl (7, fl)))) (hf : fl[12]? = some (some r)) (k : WS B E y cc mL rt d (pc + 3) lv (.ref (s_ad B r) :: st) S Q) : WS B E y cc mL rt d pc lv (.ref (s_ad B o) :: st) S Q :=
  x_getR (T := TX7) (N := 26) (j := 12) hsh rfl iX7 (by decide) (by rw [hy]; exact sT_3 184 rfl rfl) hf hd k
theorem gX7_41 {r : Nat} (hd : decode cc pc = .ok (.getfield 41, 3)) (hy : y.cls = RX7) (hsh : B.2.1[o]? = some (.inr (.inl (7, fl)))) (hf : fl[13]? = some (some r)) (k : WS B E y cc mL rt d (pc + 3) lv (.ref (s_ad B r) :: st) S Q) : WS B E y cc mL rt d pc lv (.ref (s_ad B o) :: st) S Q :=
  x_getR (T := TX7) (N := 26) (j := 13) hsh rfl iX7 (by decide) (by rw [hy]; exact sT_3 185 rfl rfl) hf hd k
theorem gX7_44 {r : Nat} (hd : decode cc pc = .ok (.getfield 44, 3)) (hy : y.cls = RX7) (hsh : B.2.1[o]? = some (.inr (.inl (7, fl)))) (hf : fl[14]? = some (some r)) (k : WS B E y cc mL rt d (pc + 3) lv (.ref (s_ad B r) :: st) S Q) : WS B E y cc mL rt d pc lv (.ref (s_ad B o) :: st) S Q :=
  x_getR (T := TX7) (N := 26) (j := 14) hsh rfl iX7 (by decide) (by rw [hy]; exact sT_3 186 rfl rfl) hf hd k
theorem gX7_47 {r : Nat} (hd : decode cc pc = .ok (.getfield 47, 3)) (hy : y.cls = RX7) (hsh : B.2.1[o]? = some (.inr (.inl (7, fl)))) (hf : fl[15]? = some (some r)) (k : WS B E y cc mL rt d (pc + 3) lv (.ref (s_ad B r) :: st) S Q) : WS B E y cc mL rt d pc lv (.ref (s_ad B o) :: st) S Q :=
  x_getR (T := TX7) (N := 26) (j := 15) hsh rfl iX7 (by decide) (by rw [hy]; exact sT_3 187 rfl rfl) hf hd k
theorem gX7_50 {r : Nat} (hd : decode cc pc = .ok (.getfield 50, 3)) (hy : y.cls = RX7) (hsh : B.2.1[o]? = some (.inr (.inl (7, fl)))) (hf : fl[17]? = some (some r)) (k : WS B E y cc mL rt d (pc + 3) lv (.ref (s_ad B r) :: st) S Q) : WS B E y cc mL rt d pc lv (.ref (s_ad B o) :: st) S Q :=
  x_getR (T := TX7) (N := 26) (j := 17) hsh rfl iX7 (by decide) (by rw [hy]; exact sT_3 189 rfl rfl) hf hd k
theorem gX7_53 {r : Nat} (hd : decode cc pc = .ok (.getfield 53, 3)) (hy : y.cls = RX7) (hsh : B.2.1[o]? = some (.inr (.inl (7, fl)))) (hf : fl[19]? = some (some r)) (k : WS B E y cc mL rt d (pc + 3) lv (.ref (s_ad B r) :: st) S Q) : WS B E y cc mL rt d pc lv (.ref (s_ad B o) :: st) S Q :=
  x_getR (T := TX7) (N := 26) (j := 19) hsh rfl iX7 (by decide) (by rw [hy]; exact sT_3 191 rfl rfl) hf hd k
theorem gX7_56 {r : Nat} (hd : decode cc pc = .ok (.getfield 56, 3)) (hy : y.cls = RX7) (hsh : B.2.1[o]? = some (.inr (.inl (7, fl)))) (hf : fl[20]? = some (some r)) (k : WS B E y cc mL rt d (pc + 3) lv (.ref (s_ad B r) :: st) S Q) : WS B E y cc mL rt d pc lv (.ref (s_ad B o) :: st) S Q :=
  x_getR (T := TX7) (N := 26) (j := 20) hsh rfl iX7 (by decide) (by rw [hy]; exact sT_3 192 rfl rfl) hf hd k
theorem gX7_59 {r : Nat} (hd : decode cc pc = .ok (.getfield 59, 3)) (hy : y.cls = RX7) (hsh : B.2.1[o]? = some (.inr (.inl (7, fl)))) (hf : fl[21]? = some (some r)) (k : WS B E y cc mL rt d (pc + 3) lv (.ref (s_ad B r) :: st) S Q) : WS B E y cc mL rt d pc lv (.ref (s_ad B o) :: st) S Q :=
  x_getR (T := TX7) (N := 26) (j := 21) hsh rfl iX7 (by decide) (by rw [hy]; exact sT_3 193 rfl rfl) hf hd k
theorem gX7_62 {r : Nat} (hd : decode cc pc = .ok (.getfield 62, 3)) (hy : y.cls = RX7) (hsh : B.2.1[o]? = some (.inr (.inl (7, fl)))) (hf : fl[22]? = some (some r)) (k : WS B E y cc mL rt d (pc + 3) lv (.ref (s_ad B r) :: st) S Q) : WS B E y cc mL rt d pc lv (.ref (s_ad B o) :: st) S Q :=
  x_getR (T := TX7) (N := 26) (j := 22) hsh rfl iX7 (by decide) (by rw [hy]; exact sT_3 194 rfl rfl) hf hd k
theorem gX7_65 {r : Nat} (hd : decode cc pc = .ok (.getfield 65, 3)) (hy : y.cls = RX7) (hsh : B.2.1[o]? = some (.inr (.inl (7, fl)))) (hf : fl[23]? = some (some r)) (k : WS B E y cc mL rt d (pc + 3) lv (.ref (s_ad B r) :: st) S Q) : WS B E y cc mL rt d pc lv (.ref (s_ad B o) :: st) S Q :=
  x_getR (T := TX7) (N := 26) (j := 23) hsh rfl iX7 (by decide) (by rw [hy]; exact sT_3 195 rfl rfl) hf hd k
theorem gX7_68 {r : Nat} (hd : decode cc pc = .ok (.getfield 68, 3)) (hy : y.cls = RX7) (hsh : B.2.1[o]? = some (.inr (.inl (7, fl)))) (hf : fl[24]? = some (some r)) (k : WS B E y cc mL rt d (pc + 3) lv (.ref (s_ad B r) :: st) S Q) : WS B E y cc mL rt d pc lv (.ref (s_ad B o) :: st) S Q :=
  x_getR (T := TX7) (N := 26) (j := 24) hsh rfl iX7 (by decide) (by rw [hy]; exact sT_3 196 rfl rfl) hf hd k
theorem gX7_7 {r : Nat} (hd : decode cc pc = .ok (.getfield 7, 3)) (hy : y.cls = RX7) (hsh : B.2.1[o]? = some (.inr (.inl (7, fl)))) (hf : fl[0]? = some (some r)) (k : WS B E y cc mL rt d (pc + 3) lv (.ref (s_ad B r) :: st) S Q) : WS B E y cc mL rt d pc lv (.ref (s_ad B o) :: st) S Q :=
  x_getR (T := TX7) (N := 26) (j := 0) hsh rfl iX7 (by decide) (by rw [hy]; exact sT_3 172 rfl rfl) hf hd k
theorem gX7_82 (hd : decode cc pc = .ok (.getfield 82, 3)) (hy : y.cls = RX7) (hsh : B.2.1[o]? = some (.inr (.inl (7, fl)))) (hf : fl[1]? = some none) (k : WS B E y cc mL rt d (pc + 3) lv (.int (S o 1) :: st) S Q) : WS B E y cc mL rt d pc lv (.ref (s_ad B o) :: st) S Q :=
  x_getI (T := TX7) (N := 26) (j := 1) hsh rfl iX7 (by decide) (by rw [hy]; exact sT_3 173 rfl rfl) hf hd k
theorem gX7_86 (hd : decode cc pc = .ok (.getfield 86, 3)) (hy : y.cls = RX7) (hsh : B.2.1[o]? = some (.inr (.inl (7, fl)))) (hf : fl[10]? = some none) (k : WS B E y cc mL rt d (pc + 3) lv (.int (S o 10) :: st) S Q) : WS B E y cc mL rt d pc lv (.ref (s_ad B o) :: st) S Q :=
  x_getI (T := TX7) (N := 26) (j := 10) hsh rfl iX7 (by decide) (by rw [hy]; exact sT_3 182 rfl rfl) hf hd k
theorem gX7_93 (hd : decode cc pc = .ok (.getfield 93, 3)) (hy : y.cls = RX7) (hsh : B.2.1[o]? = some (.inr (.inl (7, fl)))) (hf : fl[11]? = some none) (k : WS B E y cc mL rt d (pc + 3) lv (.int (S o 11) :: st) S Q) : WS B E y cc mL rt d pc lv (.ref (s_ad B o) :: st) S Q :=
  x_getI (T := TX7) (N := 26) (j := 11) hsh rfl iX7 (by decide) (by rw [hy]; exact sT_3 183 rfl rfl) hf hd k
theorem pX0_37 {x0 : Int32} (hd : decode cc pc = .ok (.putfield 37, 3)) (hy : y.cls = RX0) (hsh : B.2.1[o]? = some (.inr (.inl (0, fl)))) (hf : fl[1]? = some none) (k : WS B E y cc mL rt d (pc + 3) lv st (s_put S o 1 x0) Q) : WS B E y cc mL rt d pc lv (.int x0 :: .ref (s_ad B o) :: st) S Q :=
  x_putI (T := TX0) (N := 9) (j := 1) (ty := .int) hsh rfl iX0 tyX0_ok nmX0 (by decide) (by rw [hy]; exact sT_1 97 rfl rfl) rfl (by decide +kernel) hf rfl rfl hd k
theorem pX0_41 {x0 : Int32} (hd : decode cc pc = .ok (.putfield 41, 3)) (hy : y.cls = RX0) (hsh : B.2.1[o]? = some (.inr (.inl (0, fl)))) (hf : fl[2]? = some none) (k : WS B E y cc mL rt d (pc + 3) lv st (s_put S o 2 x0) Q) : WS B E y cc mL rt d pc lv (.int x0 :: .ref (s_ad B o) :: st) S Q :=
  x_putI (T := TX0) (N := 9) (j := 2) (ty := .int) hsh rfl iX0 tyX0_ok nmX0 (by decide) (by rw [hy]; exact sT_1 99 rfl rfl) rfl (by decide +kernel) hf rfl rfl hd k
theorem pX0_42 {x0 : Int32} (hd : decode cc pc = .ok (.putfield 42, 3)) (hy : y.cls = RX0) (hsh : B.2.1[o]? = some (.inr (.inl (0, fl)))) (hf : fl[3]? = some none) (k : WS B E y cc mL rt d (pc + 3) lv st (s_put S o 3 x0) Q) : WS B E y cc mL rt d pc lv (.int x0 :: .ref (s_ad B o) :: st) S Q :=
  x_putI (T := TX0) (N := 9) (j := 3) (ty := .int) hsh rfl iX0 tyX0_ok nmX0 (by decide) (by rw [hy]; exact sT_1 101 rfl rfl) rfl (by decide +kernel) hf rfl rfl hd k
theorem pX1_20 {x0 : Int32} (hd : decode cc pc = .ok (.putfield 20, 3)) (hy : y.cls = RX1) (hsh : B.2.1[o]? = some (.inr (.inl (1, fl)))) (hf : fl[2]? = some none) (k : WS B E y cc mL rt d (pc + 3) lv st (s_put S o 2 x0) Q) : WS B E y cc mL rt d pc lv (.int x0 :: .ref (s_ad B o) :: st) S Q :=
  x_putI (T := TX1) (N := 3) (j := 2) (ty := .int) hsh rfl iX1 tyX1_ok nmX1 (by decide) (by rw [hy]; exact sT_1 143 rfl rfl) rfl (by decide +kernel) hf rfl rfl hd k
theorem pX1_24 {x0 : Int32} (hd : decode cc pc = .ok (.putfield 24, 3)) (hy : y.cls = RX1) (hsh : B.2.1[o]? = some (.inr (.inl (1, fl)))) (hf : fl[1]? = some none) (k : WS B E y cc mL rt d (pc + 3) lv st (s_put S o 1 x0) Q) : WS B E y cc mL rt d pc lv (.int x0 :: .ref (s_ad B o) :: st) S Q :=
  x_putI (T := TX1) (N := 3) (j := 1) (ty := .int) hsh rfl iX1 tyX1_ok nmX1 (by decide) (by rw [hy]; exact sT_1 142 rfl rfl) rfl (by decide +kernel) hf rfl rfl hd k
theorem pX2_21 {x0 : Int32} (hd : decode cc pc = .ok (.putfield 21, 3)) (hy : y.cls = RX2) (hsh : B.2.1[o]? = some (.inr (.inl (2, fl)))) (hf : fl[0]? = some none) (k : WS B E y cc mL rt d (pc + 3) lv st (s_put S o 0 x0) Q) : WS B E y cc mL rt d pc lv (.int x0 :: .ref (s_ad B o) :: st) S Q :=
  x_putI (T := TX2) (N := 8) (j := 0) (ty := .int) hsh rfl iX2 tyX2_ok nmX2 (by decide) (by rw [hy]; exact sT_1 50 rfl rfl) rfl (by decide +kernel) hf rfl rfl hd k
theorem pX2_25 {x0 : Int32} (hd : decode cc pc = .ok (.putfield 25, 3)) (hy : y.cls = RX2) (hsh : B.2.1[o]? = some (.inr (.inl (2, fl)))) (hf : fl[1]? = some none) (k : WS B E y cc mL rt d (pc + 3) lv st (s_put S o 1 x0) Q) : WS B E y cc mL rt d pc lv (.int x0 :: .ref (s_ad B o) :: st) S Q :=
  x_putI (T := TX2) (N := 8) (j := 1) (ty := .int) hsh rfl iX2 tyX2_ok nmX2 (by decide) (by rw [hy]; exact sT_1 54 rfl rfl) rfl (by decide +kernel) hf rfl rfl hd k
theorem pX2_28 {x0 : Int32} (hd : decode cc pc = .ok (.putfield 28, 3)) (hy : y.cls = RX2) (hsh : B.2.1[o]? = some (.inr (.inl (2, fl)))) (hf : fl[2]? = some none) (k : WS B E y cc mL rt d (pc + 3) lv st (s_put S o 2 x0) Q) : WS B E y cc mL rt d pc lv (.int x0 :: .ref (s_ad B o) :: st) S Q :=
  x_putI (T := TX2) (N := 8) (j := 2) (ty := .int) hsh rfl iX2 tyX2_ok nmX2 (by decide) (by rw [hy]; exact sT_1 55 rfl rfl) rfl (by decide +kernel) hf rfl rfl hd k
theorem pX2_31 {x0 : Int32} (hd : decode cc pc = .ok (.putfield 31, 3)) (hy : y.cls = RX2) (hsh : B.2.1[o]? = some (.inr (.inl (2, fl)))) (hf : fl[3]? = some none) (k : WS B E y cc mL rt d (pc + 3) lv st (s_put S o 3 x0) Q) : WS B E y cc mL rt d pc lv (.int x0 :: .ref (s_ad B o) :: st) S Q :=
  x_putI (T := TX2) (N := 8) (j := 3) (ty := .int) hsh rfl iX2 tyX2_ok nmX2 (by decide) (by rw [hy]; exact sT_1 57 rfl rfl) rfl (by decide +kernel) hf rfl rfl hd k
theorem pX2_34 {x0 : Int32} (hd : decode cc pc = .ok (.putfield 34, 3)) (hy : y.cls = RX2) (hsh : B.2.1[o]? = some (.inr (.inl (2, fl)))) (hf : fl[4]? = some none) (k : WS B E y cc mL rt d (pc + 3) lv st (s_put S o 4 x0) Q) : WS B E y cc mL rt d pc lv (.int x0 :: .ref (s_ad B o) :: st) S Q :=
  x_putI (T := TX2) (N := 8) (j := 4) (ty := .int) hsh rfl iX2 tyX2_ok nmX2 (by decide) (by rw [hy]; exact sT_1 59 rfl rfl) rfl (by decide +kernel) hf rfl rfl hd k
theorem pX3_29 {x0 : Int32} (hd : decode cc pc = .ok (.putfield 29, 3)) (hy : y.cls = RX3) (hsh : B.2.1[o]? = some (.inr (.inl (3, fl)))) (hf : fl[5]? = some none) (k : WS B E y cc mL rt d (pc + 3) lv st (s_put S o 5 x0) Q) : WS B E y cc mL rt d pc lv (.int x0 :: .ref (s_ad B o) :: st) S Q :=
  x_putI (T := TX3) (N := 6) (j := 5) (ty := .int) hsh rfl iX3 tyX3_ok nmX3 (by decide) (by rw [hy]; exact sT_1 187 rfl rfl) rfl (by decide +kernel) hf rfl rfl hd k
theorem pX3_33 {x0 : Int32} (hd : decode cc pc = .ok (.putfield 33, 3)) (hy : y.cls = RX3) (hsh : B.2.1[o]? = some (.inr (.inl (3, fl)))) (hf : fl[3]? = some none) (k : WS B E y cc mL rt d (pc + 3) lv st (s_put S o 3 x0) Q) : WS B E y cc mL rt d pc lv (.int x0 :: .ref (s_ad B o) :: st) S Q :=
  x_putI (T := TX3) (N := 6) (j := 3) (ty := .int) hsh rfl iX3 tyX3_ok nmX3 (by decide) (by rw [hy]; exact sT_1 184 rfl rfl) rfl (by decide +kernel) hf rfl rfl hd k
theorem pX3_56 {x0 : Int32} (hd : decode cc pc = .ok (.putfield 56, 3)) (hy : y.cls = RX3) (hsh : B.2.1[o]? = some (.inr (.inl (3, fl)))) (hf : fl[2]? = some none) (k : WS B E y cc mL rt d (pc + 3) lv st (s_put S o 2 x0) Q) : WS B E y cc mL rt d pc lv (.int x0 :: .ref (s_ad B o) :: st) S Q :=
  x_putI (T := TX3) (N := 6) (j := 2) (ty := .int) hsh rfl iX3 tyX3_ok nmX3 (by decide) (by rw [hy]; exact sT_1 183 rfl rfl) rfl (by decide +kernel) hf rfl rfl hd k
theorem pX4_24 {x0 : Int32} (hd : decode cc pc = .ok (.putfield 24, 3)) (hy : y.cls = RX4) (hsh : B.2.1[o]? = some (.inr (.inl (4, fl)))) (hf : fl[4]? = some none) (k : WS B E y cc mL rt d (pc + 3) lv st (s_put S o 4 x0) Q) : WS B E y cc mL rt d pc lv (.int x0 :: .ref (s_ad B o) :: st) S Q :=
  x_putI (T := TX4) (N := 5) (j := 4) (ty := .int) hsh rfl iX4 tyX4_ok nmX4 (by decide) (by rw [hy]; exact sT_1 162 rfl rfl) rfl (by decide +kernel) hf rfl rfl hd k
theorem pX5_19 {x0 : Int32} (hd : decode cc pc = .ok (.putfield 19, 3)) (hy : y.cls = RX5) (hsh : B.2.1[o]? = some (.inr (.inl (5, fl)))) (hf : fl[2]? = some none) (k : WS B E y cc mL rt d (pc + 3) lv st (s_put S o 2 x0) Q) : WS B E y cc mL rt d pc lv (.int x0 :: .ref (s_ad B o) :: st) S Q :=
  x_putI (T := TX5) (N := 4) (j := 2) (ty := .int) hsh rfl iX5 tyX5_ok nmX5 (by decide) (by rw [hy]; exact sT_1 31 rfl rfl) rfl (by decide +kernel) hf rfl rfl hd k
theorem pX5_28 {x0 : Int32} (hd : decode cc pc = .ok (.putfield 28, 3)) (hy : y.cls = RX5) (hsh : B.2.1[o]? = some (.inr (.inl (5, fl)))) (hf : fl[3]? = some none) (k : WS B E y cc mL rt d (pc + 3) lv st (s_put S o 3 x0) Q) : WS B E y cc mL rt d pc lv (.int x0 :: .ref (s_ad B o) :: st) S Q :=
  x_putI (T := TX5) (N := 4) (j := 3) (ty := .int) hsh rfl iX5 tyX5_ok nmX5 (by decide) (by rw [hy]; exact sT_1 32 rfl rfl) rfl (by decide +kernel) hf rfl rfl hd k
theorem pX6_167 {x0 : Int32} (hd : decode cc pc = .ok (.putfield 167, 3)) (hy : y.cls = RX6) (hsh : B.2.1[o]? = some (.inr (.inl (0, fl)))) (hf : fl[1]? = some none) (k : WS B E y cc mL rt d (pc + 3) lv st (s_put S o 1 x0) Q) : WS B E y cc mL rt d pc lv (.int x0 :: .ref (s_ad B o) :: st) S Q :=
  x_putI (T := TX0) (N := 9) (j := 1) (ty := .int) hsh rfl iX0 tyX0_ok nmX0 (by decide) (by rw [hy]; exact sT_1 98 rfl rfl) rfl (by decide +kernel) hf rfl rfl hd k
theorem pX6_219 {x0 : Int32} (hd : decode cc pc = .ok (.putfield 219, 3)) (hy : y.cls = RX6) (hsh : B.2.1[o]? = some (.inr (.inl (4, fl)))) (hf : fl[4]? = some none) (k : WS B E y cc mL rt d (pc + 3) lv st (s_put S o 4 x0) Q) : WS B E y cc mL rt d pc lv (.int x0 :: .ref (s_ad B o) :: st) S Q :=
  x_putI (T := TX4) (N := 5) (j := 4) (ty := .int) hsh rfl iX4 tyX4_ok nmX4 (by decide) (by rw [hy]; exact sT_1 163 rfl rfl) rfl (by decide +kernel) hf rfl rfl hd k
theorem pX6_243 {x0 : Int32} (hd : decode cc pc = .ok (.putfield 243, 3)) (hy : y.cls = RX6) (hsh : B.2.1[o]? = some (.inr (.inl (6, fl)))) (hf : fl[8]? = some none) (k : WS B E y cc mL rt d (pc + 3) lv st (s_put S o 8 x0) Q) : WS B E y cc mL rt d pc lv (.int x0 :: .ref (s_ad B o) :: st) S Q :=
  x_putI (T := TX6) (N := 11) (j := 8) (ty := .int) hsh rfl iX6 tyX6_ok nmX6 (by decide) (by rw [hy]; exact sT_2 97 rfl rfl) rfl (by decide +kernel) hf rfl rfl hd k
theorem pX7_108 {x0 : Int32} (hd : decode cc pc = .ok (.putfield 108, 3)) (hy : y.cls = RX7) (hsh : B.2.1[o]? = some (.inr (.inl (7, fl)))) (hf : fl[16]? = some none) (k : WS B E y cc mL rt d (pc + 3) lv st (s_put S o 16 x0) Q) : WS B E y cc mL rt d pc lv (.int x0 :: .ref (s_ad B o) :: st) S Q :=
  x_putI (T := TX7) (N := 26) (j := 16) (ty := .int) hsh rfl iX7 tyX7_ok nmX7 (by decide) (by rw [hy]; exact sT_3 188 rfl rfl) rfl (by decide +kernel) hf rfl rfl hd k
theorem pX7_111 {x0 : Int32} (hd : decode cc pc = .ok (.putfield 111, 3)) (hy : y.cls = RX7) (hsh : B.2.1[o]? = some (.inr (.inl (7, fl)))) (hf : fl[25]? = some none) (k : WS B E y cc mL rt d (pc + 3) lv st (s_put S o 25 x0) Q) : WS B E y cc mL rt d pc lv (.int x0 :: .ref (s_ad B o) :: st) S Q :=
  x_putI (T := TX7) (N := 26) (j := 25) (ty := .int) hsh rfl iX7 tyX7_ok nmX7 (by decide) (by rw [hy]; exact sT_3 197 rfl rfl) rfl (by decide +kernel) hf rfl rfl hd k
theorem pX7_114 {x0 : Int32} (hd : decode cc pc = .ok (.putfield 114, 3)) (hy : y.cls = RX7) (hsh : B.2.1[o]? = some (.inr (.inl (7, fl)))) (hf : fl[18]? = some none) (k : WS B E y cc mL rt d (pc + 3) lv st (s_put S o 18 x0) Q) : WS B E y cc mL rt d pc lv (.int x0 :: .ref (s_ad B o) :: st) S Q :=
  x_putI (T := TX7) (N := 26) (j := 18) (ty := .int) hsh rfl iX7 tyX7_ok nmX7 (by decide) (by rw [hy]; exact sT_3 190 rfl rfl) rfl (by decide +kernel) hf rfl rfl hd k
theorem pX7_82 {x0 : Int32} (hd : decode cc pc = .ok (.putfield 82, 3)) (hy : y.cls = RX7) (hsh : B.2.1[o]? = some (.inr (.inl (7, fl)))) (hf : fl[1]? = some none) (k : WS B E y cc mL rt d (pc + 3) lv st (s_put S o 1 x0) Q) : WS B E y cc mL rt d pc lv (.int x0 :: .ref (s_ad B o) :: st) S Q :=
  x_putI (T := TX7) (N := 26) (j := 1) (ty := .int) hsh rfl iX7 tyX7_ok nmX7 (by decide) (by rw [hy]; exact sT_3 173 rfl rfl) rfl (by decide +kernel) hf rfl rfl hd k
theorem pX7_86 {x0 : Int32} (hd : decode cc pc = .ok (.putfield 86, 3)) (hy : y.cls = RX7) (hsh : B.2.1[o]? = some (.inr (.inl (7, fl)))) (hf : fl[10]? = some none) (k : WS B E y cc mL rt d (pc + 3) lv st (s_put S o 10 x0) Q) : WS B E y cc mL rt d pc lv (.int x0 :: .ref (s_ad B o) :: st) S Q :=
  x_putI (T := TX7) (N := 26) (j := 10) (ty := .int) hsh rfl iX7 tyX7_ok nmX7 (by decide) (by rw [hy]; exact sT_3 182 rfl rfl) rfl (by decide +kernel) hf rfl rfl hd k
theorem pX7_93 {x0 : Int32} (hd : decode cc pc = .ok (.putfield 93, 3)) (hy : y.cls = RX7) (hsh : B.2.1[o]? = some (.inr (.inl (7, fl)))) (hf : fl[11]? = some none) (hn : narrow .boolean (.int x0) = .int x0) (hfit : fits .boolean (.int x0) = true) (k : WS B E y cc mL rt d (pc + 3) lv st (s_put S o 11 x0) Q) : WS B E y cc mL rt d pc lv (.int x0 :: .ref (s_ad B o) :: st) S Q :=
  x_putI (T := TX7) (N := 26) (j := 11) (ty := .boolean) hsh rfl iX7 tyX7_ok nmX7 (by decide) (by rw [hy]; exact sT_3 183 rfl rfl) rfl (by decide +kernel) hf hn hfit hd k
end XL
