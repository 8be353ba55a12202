/-! ===== small methods ===== -/
def q_b (P : Prop) [Decidable P] : Int32 := if P then 1 else 0
theorem q_b_t {P : Prop} [Decidable P] (h : P) : q_b P = 1 := if_pos h
theorem q_b_f {P : Prop} [Decidable P] (h : ¬ P) : q_b P = 0 := if_neg h
theorem q_b_01 {P : Prop} [Decidable P] : q_b P = 0 ∨ q_b P = 1 := by by_cases h : P <;> simp [q_b, h]
theorem q_b_0 {P : Prop} [Decidable P] : q_b P = 0 ↔ ¬ P := by by_cases h : P <;> simp [q_b, h]
theorem q_b_1 {P : Prop} [Decidable P] : q_b P = 1 ↔ P := by by_cases h : P <;> simp [q_b, h]
theorem q_b_n {P : Prop} [Decidable P] : ¬ q_b P = 0 ↔ P := by by_cases h : P <;> simp [q_b, h]
/-- nothing but the answer -/
abbrev q_is (x : Int32) (μ : q_M) (ρ : q_R) : q_P := q_PI fun v μ' ρ' => x = v ∧ μ = μ' ∧ ρ = ρ'
abbrev q_to (μ : q_M) (ρ : q_R) : q_P := q_PV fun μ' ρ' => μ = μ' ∧ ρ = ρ'
abbrev q_in (x a b : Int32) : Prop := a ≤ x ∧ x ≤ b
theorem q_vp {x M : Int32} {N : Nat} (h0 : 0 ≤ x) (h1 : x ≤ M) (hM : M.toInt < (N : Int)) : vp_in x N := by
  rw [vp_in_iff]
  have e1 := Int32.le_iff_toInt_le.mp h0
  have e2 := Int32.le_iff_toInt_le.mp h1
  have e3 : (0 : Int32).toInt = 0 := rfl
  omega
theorem q_stage {x : Int32} (h : q_in x 0 6) : ∃ j : Nat, j < 7 ∧ x = nI j := by
  obtain ⟨j, h1, h2⟩ := nI_of2 (n := 6) (M := 6) rfl (Int32.not_lt.mpr h.1) h.2
  exact ⟨j, by omega, h2⟩
theorem q_camp {x : Int32} (h : q_in x 1 7) : ∃ j : Nat, j < 7 ∧ x = nI (j + 1) := by
  have h0 : ¬ x < 0 := fun q => by
    have e1 := Int32.lt_iff_toInt_lt.mp q
    have e2 := Int32.le_iff_toInt_le.mp h.1
    have e3 : (0 : Int32).toInt = 0 := rfl
    have e4 : (1 : Int32).toInt = 1 := rfl
    omega
  obtain ⟨j, h1, h2⟩ := nI_of2 (n := 7) (M := 7) rfl h0 h.2
  cases j with
  | zero =>
    have e2 := Int32.le_iff_toInt_le.mp h.1
    rw [h2] at e2
    exact absurd e2 (by decide)
  | succ j => exact ⟨j, by omega, h2⟩
def q_sum (f : Nat → Int32) : Nat → Int32
  | 0 => 0
  | n + 1 => q_sum f n + f n
/-- who would break down behind the end does so no more -/
def q_fg (μ : q_M) (cs ck : Nat) (s km : Int32) (i : Nat) : q_M := fun c j => if c = cs ∧ j < i ∧ μ cs j = s ∧ km ≤ μ ck j then -1 else μ c j
theorem q_fg_0 {μ : q_M} {cs ck : Nat} {s km : Int32} : q_fg μ cs ck s km 0 = μ := by funext c j; simp [q_fg]
theorem q_fg_y {μ : q_M} {cs ck : Nat} {s km : Int32} {i : Nat} (h1 : μ cs i = s) (h2 : km ≤ μ ck i) : q_up (q_fg μ cs ck s km i) cs i (-1) = q_fg μ cs ck s km (i + 1) := by
  funext c j
  by_cases hc : c = cs
  · subst hc
    by_cases hj : j = i
    · subst hj
      simp [q_up, q_fg, h1, h2]
    · have e : (j < i + 1) = (j < i) := by apply propext; omega
      simp [q_up, q_fg, hj, e]
  · simp [q_up, q_fg, hc]
theorem q_fg_n {μ : q_M} {cs ck : Nat} {s km : Int32} {i : Nat} (h : ¬ (μ cs i = s ∧ km ≤ μ ck i)) : q_fg μ cs ck s km i = q_fg μ cs ck s km (i + 1) := by
  funext c j
  by_cases hc : c = cs
  · subst hc
    by_cases hj : j = i
    · subst hj
      simp only [q_fg, Nat.lt_irrefl, Nat.lt_succ_self, true_and, false_and, if_false]
      rw [if_neg h]
    · have e : (j < i + 1) = (j < i) := by apply propext; omega
      simp [q_fg, e]
  · simp [q_fg, hc]
theorem q_fg_at {μ : q_M} {cs ck : Nat} {s km : Int32} {i : Nat} : q_fg μ cs ck s km i cs i = μ cs i := by simp [q_fg]
theorem q_fg_o {μ : q_M} {cs ck c j : Nat} {s km : Int32} {i : Nat} (h : c ≠ cs) : q_fg μ cs ck s km i c j = μ c j := by simp [q_fg, h]
section SM
variable {C : q_C} {l : Launch} {μ : q_M} {ρ : q_R}
set_option maxRecDepth 100000 in
set_option maxHeartbeats 4000000 in
theorem c_within (x a b : Int32) : q_Ct C l FX7_within 0 142 142 [.int x, .int a, .int b] μ ρ (q_is (q_b (q_in x a b)) μ ρ) := by
  refine q_entry rfl (by decide) (Nat.le_of_ble_eq_true rfl) ?_
  refine g_lv [(0, _), (1, _), (2, _)] rfl ?_
  refine g_iload_n 1 dX7_within_0 rfl rfl ?_
  refine g_iload_n 2 dX7_within_1 rfl rfl ?_
  refine g_icmp_gt 14 5 dX7_within_2 rfl (by decide) (fun h2 => ?_) (fun h2 => ?_)
  · refine g_iconst 15 0 dX7_within_14 rfl (by decide) ?_
    exact g_rz dX7_within_15 rfl (by first | exact Or.inl rfl | exact Or.inr rfl | assumption) rfl ⟨q_b_f (fun q => absurd q.1 (Int32.not_le.mpr h2)), rfl, rfl⟩
  · refine g_iload_n 6 dX7_within_5 rfl rfl ?_
    refine g_iload_n 7 dX7_within_6 rfl rfl ?_
    refine g_icmp_gt 14 10 dX7_within_7 rfl (by decide) (fun h7 => ?_) (fun h7 => ?_)
    · refine g_iconst 15 0 dX7_within_14 rfl (by decide) ?_
      exact g_rz dX7_within_15 rfl (by first | exact Or.inl rfl | exact Or.inr rfl | assumption) rfl ⟨q_b_f (fun q => absurd q.2 (Int32.not_le.mpr h7)), rfl, rfl⟩
    · refine g_iconst 11 1 dX7_within_10 rfl (by decide) ?_
      refine g_goto 15 dX7_within_11 (by decide) ?_
      exact g_rz dX7_within_15 rfl (by first | exact Or.inl rfl | exact Or.inr rfl | assumption) rfl ⟨q_b_t ⟨Int32.not_lt.mp h2, Int32.not_lt.mp h7⟩, rfl, rfl⟩
set_option maxRecDepth 100000 in
set_option maxHeartbeats 4000000 in
theorem c_isIn (x a b : Int32) : q_Ct C l FX8_isIn 0 142 142 [.int x, .int a, .int b] μ ρ (q_is (q_b (q_in x a b)) μ ρ) := by
  refine q_entry rfl (by decide) (Nat.le_of_ble_eq_true rfl) ?_
  refine g_lv [(0, _), (1, _), (2, _)] rfl ?_
  refine g_iload_n 1 dX8_isIn_0 rfl rfl ?_
  refine g_iload_n 2 dX8_isIn_1 rfl rfl ?_
  refine g_icmp_lt 14 5 dX8_isIn_2 rfl (by decide) (fun h2 => ?_) (fun h2 => ?_)
  · refine g_iconst 15 0 dX8_isIn_14 rfl (by decide) ?_
    exact g_rz dX8_isIn_15 rfl (by first | exact Or.inl rfl | exact Or.inr rfl | assumption) rfl ⟨q_b_f (fun q => absurd q.1 (Int32.not_le.mpr h2)), rfl, rfl⟩
  · refine g_iload_n 6 dX8_isIn_5 rfl rfl ?_
    refine g_iload_n 7 dX8_isIn_6 rfl rfl ?_
    refine g_icmp_gt 14 10 dX8_isIn_7 rfl (by decide) (fun h7 => ?_) (fun h7 => ?_)
    · refine g_iconst 15 0 dX8_isIn_14 rfl (by decide) ?_
      exact g_rz dX8_isIn_15 rfl (by first | exact Or.inl rfl | exact Or.inr rfl | assumption) rfl ⟨q_b_f (fun q => absurd q.2 (Int32.not_le.mpr h7)), rfl, rfl⟩
    · refine g_iconst 11 1 dX8_isIn_10 rfl (by decide) ?_
      refine g_goto 15 dX8_isIn_11 (by decide) ?_
      exact g_rz dX8_isIn_15 rfl (by first | exact Or.inl rfl | exact Or.inr rfl | assumption) rfl ⟨q_b_t ⟨Int32.not_lt.mp h2, Int32.not_lt.mp h7⟩, rfl, rfl⟩
set_option maxRecDepth 100000 in
set_option maxHeartbeats 4000000 in
theorem c_isStage (x : Int32) : q_Ct C l FX7_isStage 1 142 142 [.int x] μ ρ (q_is (q_b (q_in x 0 6)) μ ρ) := by
  refine q_entry rfl (by decide) (Nat.le_of_ble_eq_true rfl) ?_
  refine g_lv [(0, _)] rfl ?_
  refine g_iload_n 1 dX7_isStage_0 rfl rfl ?_
  refine g_iconst 2 0 dX7_isStage_1 rfl (by decide) ?_
  refine g_bipush 4 6 dX7_isStage_2 rfl (by decide) ?_
  refine g_Si 7 [_, _, _] _ dX7_isStage_4 rfl m_X7_within l_X7_73 rfl (c_within _ _ _) rfl (Nat.le_of_ble_eq_true rfl) (by decide) (fun v4 μ4 ρ4 hc9 => ?_)
  obtain ⟨rfl, rfl, rfl⟩ := hc9
  exact g_rz dX7_isStage_7 rfl q_b_01 rfl ⟨rfl, rfl, rfl⟩
set_option maxRecDepth 100000 in
set_option maxHeartbeats 4000000 in
theorem c_isCamp (x : Int32) : q_Ct C l FX7_isCamp 1 142 142 [.int x] μ ρ (q_is (q_b (q_in x 1 7)) μ ρ) := by
  refine q_entry rfl (by decide) (Nat.le_of_ble_eq_true rfl) ?_
  refine g_lv [(0, _)] rfl ?_
  refine g_iload_n 1 dX7_isCamp_0 rfl rfl ?_
  refine g_iconst 2 1 dX7_isCamp_1 rfl (by decide) ?_
  refine g_bipush 4 7 dX7_isCamp_2 rfl (by decide) ?_
  refine g_Si 7 [_, _, _] _ dX7_isCamp_4 rfl m_X7_within l_X7_73 rfl (c_within _ _ _) rfl (Nat.le_of_ble_eq_true rfl) (by decide) (fun v4 μ4 ρ4 hc9 => ?_)
  obtain ⟨rfl, rfl, rfl⟩ := hc9
  exact g_rz dX7_isCamp_7 rfl q_b_01 rfl ⟨rfl, rfl, rfl⟩
set_option maxRecDepth 100000 in
set_option maxHeartbeats 4000000 in
theorem c_MisStage (x : Int32) : q_Ct C l FX8_isStage 1 142 142 [.int x] μ ρ (q_is (q_b (q_in x 0 6)) μ ρ) := by
  refine q_entry rfl (by decide) (Nat.le_of_ble_eq_true rfl) ?_
  refine g_lv [(0, _)] rfl ?_
  refine g_iload_n 1 dX8_isStage_0 rfl rfl ?_
  refine g_iconst 2 0 dX8_isStage_1 rfl (by decide) ?_
  refine g_bipush 4 6 dX8_isStage_2 rfl (by decide) ?_
  refine g_Si 7 [_, _, _] _ dX8_isStage_4 rfl m_X8_isIn l_X8_71 rfl (c_isIn _ _ _) rfl (Nat.le_of_ble_eq_true rfl) (by decide) (fun v4 μ4 ρ4 hc9 => ?_)
  obtain ⟨rfl, rfl, rfl⟩ := hc9
  exact g_rz dX8_isStage_7 rfl q_b_01 rfl ⟨rfl, rfl, rfl⟩
set_option maxRecDepth 100000 in
set_option maxHeartbeats 4000000 in
theorem c_MisCamp (x : Int32) : q_Ct C l FX8_isCamp 1 142 142 [.int x] μ ρ (q_is (q_b (q_in x 1 7)) μ ρ) := by
  refine q_entry rfl (by decide) (Nat.le_of_ble_eq_true rfl) ?_
  refine g_lv [(0, _)] rfl ?_
  refine g_iload_n 1 dX8_isCamp_0 rfl rfl ?_
  refine g_iconst 2 1 dX8_isCamp_1 rfl (by decide) ?_
  refine g_bipush 4 7 dX8_isCamp_2 rfl (by decide) ?_
  refine g_Si 7 [_, _, _] _ dX8_isCamp_4 rfl m_X8_isIn l_X8_71 rfl (c_isIn _ _ _) rfl (Nat.le_of_ble_eq_true rfl) (by decide) (fun v4 μ4 ρ4 hc9 => ?_)
  obtain ⟨rfl, rfl, rfl⟩ := hc9
  exact g_rz dX8_isCamp_7 rfl q_b_01 rfl ⟨rfl, rfl, rfl⟩
theorem q_lcmp {x y : Int64} : 0 ≤ lg_cmp x y ↔ y ≤ x := by
  unfold lg_cmp
  have e : x > y ↔ y.toInt < x.toInt := Int64.lt_iff_toInt_lt
  have e2 : y ≤ x ↔ y.toInt ≤ x.toInt := Int64.le_iff_toInt_le
  by_cases h : x > y
  · rw [if_pos h, e2]
    have := e.mp h
    exact ⟨fun _ => by omega, fun _ => by decide⟩
  · rw [if_neg h]
    by_cases h2 : x = y
    · rw [if_pos h2, e2, h2]
      exact ⟨fun _ => Int.le_refl _, fun _ => by decide⟩
    · rw [if_neg h2, e2]
      refine ⟨fun q => absurd q (by decide), fun q => ?_⟩
      exfalso
      have h3 : ¬ y.toInt < x.toInt := fun z => h (e.mpr z)
      exact h2 (Int64.toInt_inj.mp (by omega))
theorem q_lcmp0 {x y : Int64} : lg_cmp x y = 0 ↔ x = y := by
  unfold lg_cmp
  by_cases h : x > y
  · rw [if_pos h]
    refine ⟨fun q => absurd q (by decide), fun q => ?_⟩
    subst q
    exact absurd h (Int64.lt_irrefl)
  · rw [if_neg h]
    by_cases h2 : x = y
    · simp [h2]
    · rw [if_neg h2]
      exact ⟨fun q => absurd q (by decide), fun q => absurd q h2⟩
def q_dv (a d : Int64) : Int32 := if 1 ≤ d then ((a + d - 1) / d).toInt32 else 0
theorem q_nz {d : Int64} (h : 1 ≤ d) : ¬ d = 0 := fun e => by rw [e] at h; exact absurd h (by decide)
set_option maxRecDepth 100000 in
set_option maxHeartbeats 4000000 in
theorem c_divUp (x y : Int64) : q_Ct C l FX7_divideUpwards 0 142 142 [.long x, .long y] μ ρ (q_is (q_dv x y) μ ρ) := by
  refine q_entry rfl (by decide) (Nat.le_of_ble_eq_true rfl) ?_
  refine g_lv [(0, _), (2, _)] rfl ?_
  refine g_lload_n 1 dX7_divideUpwards_0 rfl rfl ?_
  refine g_lconst 2 1 dX7_divideUpwards_1 rfl (by decide) ?_
  refine g_lcmp 3 dX7_divideUpwards_2 rfl ?_
  refine g_if_ge 10 6 dX7_divideUpwards_3 rfl (by decide) (fun h3 => ?_) (fun h3 => ?_)
  · refine g_lload_n 11 dX7_divideUpwards_10 rfl rfl ?_
    refine g_lload_n 12 dX7_divideUpwards_11 rfl rfl ?_
    refine g_ladd 13 dX7_divideUpwards_12 rfl ?_
    refine g_lconst 14 1 dX7_divideUpwards_13 rfl (by decide) ?_
    refine g_lsub 15 dX7_divideUpwards_14 rfl ?_
    refine g_lload_n 16 dX7_divideUpwards_15 rfl rfl ?_
    refine g_ldiv 17 dX7_divideUpwards_16 rfl (q_nz (q_lcmp.mp h3)) ?_
    refine g_l2i 18 dX7_divideUpwards_17 rfl ?_
    exact g_ri dX7_divideUpwards_18 rfl rfl ⟨if_pos (q_lcmp.mp h3), rfl, rfl⟩
  · refine g_iconst 7 0 dX7_divideUpwards_6 rfl (by decide) ?_
    refine g_goto 18 dX7_divideUpwards_7 (by decide) ?_
    exact g_ri dX7_divideUpwards_18 rfl rfl ⟨if_neg (fun q => h3 (q_lcmp.mpr q)), rfl, rfl⟩
set_option maxRecDepth 100000 in
set_option maxHeartbeats 4000000 in
theorem c_minFor (x y : Int32) : q_Ct C l FX7_minutesFor 1 142 142 [.int x, .int y] μ ρ (q_is (q_dv (x.toInt64 * 60) y.toInt64) μ ρ) := by
  refine q_entry rfl (by decide) (Nat.le_of_ble_eq_true rfl) ?_
  refine g_lv [(0, _), (1, _)] rfl ?_
  refine g_iload_n 1 dX7_minutesFor_0 rfl rfl ?_
  refine g_i2l 2 dX7_minutesFor_1 rfl ?_
  refine g_ldc2 5 60 dX7_minutesFor_2 rfl n_X7_214 ?_
  refine g_lmul 6 dX7_minutesFor_5 rfl ?_
  refine g_iload_n 7 dX7_minutesFor_6 rfl rfl ?_
  refine g_i2l 8 dX7_minutesFor_7 rfl ?_
  refine g_Si 11 [_, _] _ dX7_minutesFor_8 rfl m_X7_divideUpwards l_X7_172 rfl (c_divUp _ _) rfl (Nat.le_of_ble_eq_true rfl) (by decide) (fun v8 μ8 ρ8 hc9 => ?_)
  obtain ⟨rfl, rfl, rfl⟩ := hc9
  exact g_ri dX7_minutesFor_11 rfl rfl ⟨rfl, rfl, rfl⟩
end SM
section SB
variable {C : q_C} {l : Launch} {μ : q_M} {b : Bool}
set_option maxRecDepth 100000 in
set_option maxHeartbeats 4000000 in
theorem c_has (x : Int32) : q_Ct C l FX4_has 1 142 142 [.ref (q_a C 4), .int x] μ (q_ρ b) (q_is (q_b (q_in x 0 (μ 4 3 - 1))) μ (q_ρ b)) := by
  refine q_entry rfl (by decide) (Nat.le_of_ble_eq_true rfl) ?_
  refine g_lv [(0, _), (1, _)] rfl ?_
  refine g_iload_n 1 dX4_has_0 rfl rfl ?_
  refine g_iconst 2 0 dX4_has_1 rfl (by decide) ?_
  refine g_aload_n 3 dX4_has_2 rfl rfl ?_
  refine g_getI 6 dX4_has_3 rfl f_X4_21 (by decide) rfl rfl ?_
  refine g_iconst 7 1 dX4_has_6 rfl (by decide) ?_
  refine g_isub 8 dX4_has_7 rfl ?_
  refine g_SNi 11 [_, _, _] _ dX4_has_8 rfl m_X7_within l_X4_25 rfl (c_within _ _ _) rfl (Nat.le_of_ble_eq_true rfl) (by decide) (fun v8 μ8 ρ8 hc9 => ?_)
  obtain ⟨rfl, rfl, rfl⟩ := hc9
  exact g_rz dX4_has_11 rfl q_b_01 rfl ⟨rfl, rfl, rfl⟩
set_option maxRecDepth 100000 in
set_option maxHeartbeats 4000000 in
theorem c_MisRacer (x : Int32) : q_Ct C l FX8_isRacer 1 142 142 [.ref (q_a C 122), .int x] μ (q_ρ b) (q_is (q_b (q_in x 0 (μ 122 0 - 1))) μ (q_ρ b)) := by
  refine q_entry rfl (by decide) (Nat.le_of_ble_eq_true rfl) ?_
  refine g_lv [(0, _), (1, _)] rfl ?_
  refine g_iload_n 1 dX8_isRacer_0 rfl rfl ?_
  refine g_iconst 2 0 dX8_isRacer_1 rfl (by decide) ?_
  refine g_aload_n 3 dX8_isRacer_2 rfl rfl ?_
  refine g_getI 6 dX8_isRacer_3 rfl f_X8_75 (by decide) rfl rfl ?_
  refine g_iconst 7 1 dX8_isRacer_6 rfl (by decide) ?_
  refine g_isub 8 dX8_isRacer_7 rfl ?_
  refine g_Si 11 [_, _, _] _ dX8_isRacer_8 rfl m_X8_isIn l_X8_71 rfl (c_isIn _ _ _) rfl (Nat.le_of_ble_eq_true rfl) (by decide) (fun v8 μ8 ρ8 hc9 => ?_)
  obtain ⟨rfl, rfl, rfl⟩ := hc9
  exact g_rz dX8_isRacer_11 rfl q_b_01 rfl ⟨rfl, rfl, rfl⟩
set_option maxRecDepth 100000 in
set_option maxHeartbeats 4000000 in
theorem c_Mlength (x : Int32) (hx : vp_in (x + 1) 8) : q_Ct C l FX8_length 0 142 142 [.ref (q_a C 122), .int x] μ (q_ρ b) (q_is (μ 123 (x + 1).toNatClampNeg) μ (q_ρ b)) := by
  refine q_entry rfl (by decide) (Nat.le_of_ble_eq_true rfl) ?_
  refine g_lv [(0, _), (1, _)] rfl ?_
  refine g_aload_n 1 dX8_length_0 rfl rfl ?_
  refine g_getR 4 _ dX8_length_1 rfl f_X8_7 (by decide) rfl rfl rfl ?_
  refine g_iload_n 5 dX8_length_4 rfl rfl ?_
  refine g_iconst 6 1 dX8_length_5 rfl (by decide) ?_
  refine g_iadd 7 dX8_length_6 rfl ?_
  refine g_iald 8 dX8_length_7 rfl (by decide) rfl hx ?_
  exact g_ri dX8_length_8 rfl rfl ⟨rfl, rfl, rfl⟩
set_option maxRecDepth 100000 in
set_option maxHeartbeats 4000000 in
theorem lp_km {m : Nat} (hm : m ≤ 7) : ∀ k i, i + k = m → q_G C l FX1_kilometerOf 0 142 142 (q_is (q_sum (μ 2) m) μ (q_ρ b)) 142 μ (q_ρ b) [(0, .ref (q_a C 1)), (1, .int (nI m)), (2, .int (q_sum (μ 2) i)), (3, .int (nI i))] [] 4 := by
  intro k
  induction k with
  | zero =>
    intro i hi
    refine g_iload_n 5 dX1_kilometerOf_4 rfl rfl ?_
    refine g_iload_n 6 dX1_kilometerOf_5 rfl rfl ?_
    refine g_icmp_ge 30 9 dX1_kilometerOf_6 rfl (by decide) (fun h6 => ?_) (fun h6 => ?_)
    · refine g_iload_n 31 dX1_kilometerOf_30 rfl rfl ?_
      exact g_ri dX1_kilometerOf_31 rfl rfl ⟨by rw [show i = m by omega], rfl, rfl⟩
    · exact absurd (nI_le (by omega) (by omega)) h6
  | succ k ih =>
    intro i hi
    refine g_iload_n 5 dX1_kilometerOf_4 rfl rfl ?_
    refine g_iload_n 6 dX1_kilometerOf_5 rfl rfl ?_
    refine g_icmp_ge 30 9 dX1_kilometerOf_6 rfl (by decide) (fun h6 => ?_) (fun h6 => ?_)
    · exact absurd h6 (nI_ge (by omega) (by omega))
    · refine g_iload_n 10 dX1_kilometerOf_9 rfl rfl ?_
      refine g_bipush 12 7 dX1_kilometerOf_10 rfl (by decide) ?_
      refine g_icmp_ge 30 15 dX1_kilometerOf_12 rfl (by decide) (fun h12 => ?_) (fun h12 => ?_)
      · exact absurd h12 (nI_ge (a := i) (b := 7) (by omega) (by omega))
      · refine g_iload_n 16 dX1_kilometerOf_15 rfl rfl ?_
        refine g_aload_n 17 dX1_kilometerOf_16 rfl rfl ?_
        refine g_getR 20 _ dX1_kilometerOf_17 rfl f_X1_9 (by decide) rfl rfl rfl ?_
        refine g_iload_n 21 dX1_kilometerOf_20 rfl rfl ?_
        refine g_iald 22 dX1_kilometerOf_21 rfl (by decide) rfl (vp_in_nI (by omega) (by omega)) ?_
        refine g_iadd 23 dX1_kilometerOf_22 rfl ?_
        refine g_istore_n 24 dX1_kilometerOf_23 rfl (by decide) ?_
        refine g_iinc 27 (_ + 1) dX1_kilometerOf_24 rfl rfl rfl (by decide) ?_
        refine g_goto 4 dX1_kilometerOf_27 (by decide) ?_
        rw [nI_clamp (show i < 2 ^ 31 by omega), nI_1]
        refine g_lv [(0, _), (1, _), (2, _), (3, _)] rfl ?_
        exact ih (i + 1) (by omega)
set_option maxRecDepth 100000 in
set_option maxHeartbeats 4000000 in
theorem c_km (m : Nat) (hm : m ≤ 7) : q_Ct C l FX1_kilometerOf 0 142 142 [.ref (q_a C 1), .int (nI m)] μ (q_ρ b) (q_is (q_sum (μ 2) m) μ (q_ρ b)) := by
  refine q_entry rfl (by decide) (Nat.le_of_ble_eq_true rfl) ?_
  refine g_lv [(0, _), (1, _)] rfl ?_
  refine g_iconst 1 0 dX1_kilometerOf_0 rfl (by decide) ?_
  refine g_istore_n 2 dX1_kilometerOf_1 rfl (by decide) ?_
  refine g_iconst 3 0 dX1_kilometerOf_2 rfl (by decide) ?_
  refine g_istore_n 4 dX1_kilometerOf_3 rfl (by decide) ?_
  refine g_lv [(0, _), (1, _), (2, .int 0), (3, .int 0)] rfl ?_
  exact lp_km hm m 0 (by omega)
set_option maxRecDepth 100000 in
set_option maxHeartbeats 4000000 in
theorem c_begins (i : Nat) (hi : i < 7) : q_Ct C l FX1_begins 2 142 142 [.ref (q_a C 1), .int (nI i)] μ (q_ρ b) (q_is (nI i * 1440 + μ 3 i * 60) μ (q_ρ b)) := by
  refine q_entry rfl (by decide) (Nat.le_of_ble_eq_true rfl) ?_
  refine g_lv [(0, _), (1, _)] rfl ?_
  refine g_iload_n 1 dX1_begins_0 rfl rfl ?_
  refine g_SNi 4 [_] _ dX1_begins_1 rfl m_X7_isStage l_X1_18 rfl (c_isStage _) rfl (Nat.le_of_ble_eq_true rfl) (by decide) (fun v1 μ1 ρ1 hc9 => ?_)
  obtain ⟨rfl, rfl, rfl⟩ := hc9
  refine g_if_eq 25 7 dX1_begins_4 rfl (by decide) (fun h4 => ?_) (fun h4 => ?_)
  · exact (q_b_0.mp h4 ⟨nI_pos' (by omega), nI_leI (a := i) (b := 6) (by omega) (by omega) |>.mpr (by omega)⟩).elim
  · refine g_iload_n 8 dX1_begins_7 rfl rfl ?_
    refine g_sipush 11 1440 dX1_begins_8 rfl (by decide) ?_
    refine g_imul 12 dX1_begins_11 rfl ?_
    refine g_aload_n 13 dX1_begins_12 rfl rfl ?_
    refine g_getR 16 _ dX1_begins_13 rfl f_X1_15 (by decide) rfl rfl rfl ?_
    refine g_iload_n 17 dX1_begins_16 rfl rfl ?_
    refine g_iald 18 dX1_begins_17 rfl (by decide) rfl (vp_in_nI hi (by omega)) ?_
    refine g_bipush 20 60 dX1_begins_18 rfl (by decide) ?_
    refine g_imul 21 dX1_begins_20 rfl ?_
    refine g_iadd 22 dX1_begins_21 rfl ?_
    refine g_goto 26 dX1_begins_22 (by decide) ?_
    exact g_ri dX1_begins_26 rfl rfl ⟨by rw [nI_clamp (show i < 2 ^ 31 by omega)], rfl, rfl⟩
set_option maxRecDepth 100000 in
set_option maxHeartbeats 4000000 in
theorem lp_forget {m : Nat} {s km : Int32} (hm : m ≤ 10) (hc : μ 4 3 = nI m) : ∀ k i, i + k = m → q_G C l FX4_forgetBreaksFrom 0 142 142 (q_to (q_fg μ 6 7 s km m) (q_ρ b)) 142 (q_fg μ 6 7 s km i) (q_ρ b) [(0, .ref (q_a C 4)), (1, .int s), (2, .int km), (3, .int (nI i))] [] 2 := by
  intro k
  induction k with
  | zero =>
    intro i hi
    refine g_iload_n 3 dX4_forgetBreaksFrom_2 rfl rfl ?_
    refine g_aload_n 4 dX4_forgetBreaksFrom_3 rfl rfl ?_
    refine g_getI 7 dX4_forgetBreaksFrom_4 rfl f_X4_21 (by decide) rfl rfl ?_
    rw [q_fg_o (by decide), hc]
    refine g_icmp_ge 43 10 dX4_forgetBreaksFrom_7 rfl (by decide) (fun h7 => ?_) (fun h7 => ?_)
    · exact g_rv dX4_forgetBreaksFrom_43 rfl rfl ⟨by rw [show i = m by omega], rfl⟩
    · exact absurd (nI_le (by omega) (by omega)) h7
  | succ k ih =>
    intro i hi
    refine g_iload_n 3 dX4_forgetBreaksFrom_2 rfl rfl ?_
    refine g_aload_n 4 dX4_forgetBreaksFrom_3 rfl rfl ?_
    refine g_getI 7 dX4_forgetBreaksFrom_4 rfl f_X4_21 (by decide) rfl rfl ?_
    rw [q_fg_o (by decide), hc]
    refine g_icmp_ge 43 10 dX4_forgetBreaksFrom_7 rfl (by decide) (fun h7 => ?_) (fun h7 => ?_)
    · exact absurd h7 (nI_ge (by omega) (by omega))
    · refine g_aload_n 11 dX4_forgetBreaksFrom_10 rfl rfl ?_
      refine g_getR 14 _ dX4_forgetBreaksFrom_11 rfl f_X4_15 (by decide) rfl rfl rfl ?_
      refine g_iload_n 15 dX4_forgetBreaksFrom_14 rfl rfl ?_
      refine g_iald 16 dX4_forgetBreaksFrom_15 rfl (by decide) rfl (vp_in_nI (by omega) (by omega)) ?_
      rw [nI_clamp (show i < 2 ^ 31 by omega)]
      refine g_iload_n 17 dX4_forgetBreaksFrom_16 rfl rfl ?_
      refine g_icmp_ne 37 20 dX4_forgetBreaksFrom_17 rfl (by decide) (fun h17 => ?_) (fun h17 => ?_)
      · refine g_iinc 40 (_ + 1) dX4_forgetBreaksFrom_37 rfl rfl rfl (by decide) ?_
        refine g_goto 2 dX4_forgetBreaksFrom_40 (by decide) ?_
        rw [q_fg_n (i := i) (fun q => h17 (by rw [q_fg_at]; exact q.1))]
        rw [nI_1]
        refine g_lv [(0, _), (1, _), (2, _), (3, _)] rfl ?_
        exact ih (i + 1) (by omega)
      · refine g_aload_n 21 dX4_forgetBreaksFrom_20 rfl rfl ?_
        refine g_getR 24 _ dX4_forgetBreaksFrom_21 rfl f_X4_18 (by decide) rfl rfl rfl ?_
        refine g_iload_n 25 dX4_forgetBreaksFrom_24 rfl rfl ?_
        refine g_iald 26 dX4_forgetBreaksFrom_25 rfl (by decide) rfl (vp_in_nI (by omega) (by omega)) ?_
        rw [nI_clamp (show i < 2 ^ 31 by omega)]
        refine g_iload_n 27 dX4_forgetBreaksFrom_26 rfl rfl ?_
        refine g_icmp_lt 37 30 dX4_forgetBreaksFrom_27 rfl (by decide) (fun h27 => ?_) (fun h27 => ?_)
        · refine g_iinc 40 (_ + 1) dX4_forgetBreaksFrom_37 rfl rfl rfl (by decide) ?_
          refine g_goto 2 dX4_forgetBreaksFrom_40 (by decide) ?_
          rw [q_fg_n (i := i) (fun q => absurd h27 (Int32.not_lt.mpr (by rw [q_fg_o (by decide)]; exact q.2)))]
          rw [nI_1]
          refine g_lv [(0, _), (1, _), (2, _), (3, _)] rfl ?_
          exact ih (i + 1) (by omega)
        · refine g_aload_n 31 dX4_forgetBreaksFrom_30 rfl rfl ?_
          refine g_getR 34 _ dX4_forgetBreaksFrom_31 rfl f_X4_15 (by decide) rfl rfl rfl ?_
          refine g_iload_n 35 dX4_forgetBreaksFrom_34 rfl rfl ?_
          refine g_iconst 36 (-1) dX4_forgetBreaksFrom_35 rfl (by decide) ?_
          refine g_iast 37 dX4_forgetBreaksFrom_36 rfl (by decide) rfl (vp_in_nI (by omega) (by omega)) ?_
          rw [nI_clamp (show i < 2 ^ 31 by omega)]
          refine g_iinc 40 (_ + 1) dX4_forgetBreaksFrom_37 rfl rfl rfl (by decide) ?_
          refine g_goto 2 dX4_forgetBreaksFrom_40 (by decide) ?_
          rw [q_fg_y (by rw [q_fg_at] at h17; exact h17) (by rw [q_fg_o (by decide)] at h27; exact Int32.not_lt.mp h27)]
          rw [nI_1]
          refine g_lv [(0, _), (1, _), (2, _), (3, _)] rfl ?_
          exact ih (i + 1) (by omega)
set_option maxRecDepth 100000 in
set_option maxHeartbeats 4000000 in
theorem c_forget (m : Nat) (s km : Int32) (hm : m ≤ 10) (hc : μ 4 3 = nI m) : q_Ct C l FX4_forgetBreaksFrom 0 142 142 [.ref (q_a C 4), .int s, .int km] μ (q_ρ b) (q_to (q_fg μ 6 7 s km m) (q_ρ b)) := by
  refine q_entry rfl (by decide) (Nat.le_of_ble_eq_true rfl) ?_
  refine g_lv [(0, _), (1, _), (2, _)] rfl ?_
  refine g_iconst 1 0 dX4_forgetBreaksFrom_0 rfl (by decide) ?_
  refine g_istore_n 2 dX4_forgetBreaksFrom_1 rfl (by decide) ?_
  refine g_lv [(0, _), (1, _), (2, _), (3, .int 0)] rfl ?_
  have h9 := lp_forget (C := C) (l := l) (b := b) (s := s) (km := km) hm hc m 0 (by omega)
  rw [q_fg_0] at h9
  exact h9
end SB
