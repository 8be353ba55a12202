/-! ===== small methods ===== -/
def q_b (P : Prop) [Decidable P] : Int32 := if P then 1 else 0
theorem q_b_t {P : Prop} [Decidable P] (h : P) : q_b P = 1 := if_pos h
theorem q_b_f {P : Prop} [Decidable P] (h : ¬ P) : q_b P = 0 := if_neg h
theorem q_b_01 {P : Prop} [Decidable P] : q_b P = 0 ∨ q_b P = 1 := by by_cases h : P <;> simp [q_b, h]
theorem q_b_0 {P : Prop} [Decidable P] : q_b P = 0 ↔ ¬ P := by by_cases h : P <;> simp [q_b, h]
theorem q_b_1 {P : Prop} [Decidable P] : q_b P = 1 ↔ P := by by_cases h : P <;> simp [q_b, h]
/-- nothing but the answer -/
abbrev q_is (x : Int32) (μ : q_M) (ρ : q_R) : q_P := q_PI fun v μ' ρ' => v = x ∧ μ' = μ ∧ ρ' = ρ
abbrev q_to (μ : q_M) (ρ : q_R) : q_P := q_PV fun μ' ρ' => μ' = μ ∧ ρ' = ρ
abbrev q_in (x a b : Int32) : Prop := a ≤ x ∧ x ≤ b
section SM
variable {C : q_C} {l : Launch} {μ : q_M} {ρ : q_R}
set_option maxRecDepth 100000 in
set_option maxHeartbeats 4000000 in
theorem c_within (x a b : Int32) : q_Ct C l FX7_within 0 142 142 [.int x, .int a, .int b] μ ρ (q_is (q_b (q_in x a b)) μ ρ) := by
  refine q_entry rfl (by decide) (Nat.le_of_ble_eq_true rfl) ?_
  refine g_lv [(0, _), (1, _), (2, _)] rfl ?_
  refine g_iload_n 1 dX7_within_0 rfl rfl ?_
  refine g_iload_n 2 dX7_within_1 rfl rfl ?_
  refine g_icmp_gt 14 5 dX7_within_2 rfl (by decide) (fun h2 => ?_) (fun h2 => ?_)
  · refine g_iconst 15 0 dX7_within_14 rfl (by decide) ?_
    exact g_rz dX7_within_15 rfl (by first | exact Or.inl rfl | exact Or.inr rfl | assumption) rfl ⟨(q_b_f (fun q => absurd q.1 (Int32.not_le.mpr h2))).symm, rfl, rfl⟩
  · refine g_iload_n 6 dX7_within_5 rfl rfl ?_
    refine g_iload_n 7 dX7_within_6 rfl rfl ?_
    refine g_icmp_gt 14 10 dX7_within_7 rfl (by decide) (fun h7 => ?_) (fun h7 => ?_)
    · refine g_iconst 15 0 dX7_within_14 rfl (by decide) ?_
      exact g_rz dX7_within_15 rfl (by first | exact Or.inl rfl | exact Or.inr rfl | assumption) rfl ⟨(q_b_f (fun q => absurd q.2 (Int32.not_le.mpr h7))).symm, rfl, rfl⟩
    · refine g_iconst 11 1 dX7_within_10 rfl (by decide) ?_
      refine g_goto 15 dX7_within_11 (by decide) ?_
      exact g_rz dX7_within_15 rfl (by first | exact Or.inl rfl | exact Or.inr rfl | assumption) rfl ⟨(q_b_t ⟨Int32.not_lt.mp h2, Int32.not_lt.mp h7⟩).symm, rfl, rfl⟩
set_option maxRecDepth 100000 in
set_option maxHeartbeats 4000000 in
theorem c_isIn (x a b : Int32) : q_Ct C l FX8_isIn 0 142 142 [.int x, .int a, .int b] μ ρ (q_is (q_b (q_in x a b)) μ ρ) := by
  refine q_entry rfl (by decide) (Nat.le_of_ble_eq_true rfl) ?_
  refine g_lv [(0, _), (1, _), (2, _)] rfl ?_
  refine g_iload_n 1 dX8_isIn_0 rfl rfl ?_
  refine g_iload_n 2 dX8_isIn_1 rfl rfl ?_
  refine g_icmp_lt 14 5 dX8_isIn_2 rfl (by decide) (fun h2 => ?_) (fun h2 => ?_)
  · refine g_iconst 15 0 dX8_isIn_14 rfl (by decide) ?_
    exact g_rz dX8_isIn_15 rfl (by first | exact Or.inl rfl | exact Or.inr rfl | assumption) rfl ⟨(q_b_f (fun q => absurd q.1 (Int32.not_le.mpr h2))).symm, rfl, rfl⟩
  · refine g_iload_n 6 dX8_isIn_5 rfl rfl ?_
    refine g_iload_n 7 dX8_isIn_6 rfl rfl ?_
    refine g_icmp_gt 14 10 dX8_isIn_7 rfl (by decide) (fun h7 => ?_) (fun h7 => ?_)
    · refine g_iconst 15 0 dX8_isIn_14 rfl (by decide) ?_
      exact g_rz dX8_isIn_15 rfl (by first | exact Or.inl rfl | exact Or.inr rfl | assumption) rfl ⟨(q_b_f (fun q => absurd q.2 (Int32.not_le.mpr h7))).symm, rfl, rfl⟩
    · refine g_iconst 11 1 dX8_isIn_10 rfl (by decide) ?_
      refine g_goto 15 dX8_isIn_11 (by decide) ?_
      exact g_rz dX8_isIn_15 rfl (by first | exact Or.inl rfl | exact Or.inr rfl | assumption) rfl ⟨(q_b_t ⟨Int32.not_lt.mp h2, Int32.not_lt.mp h7⟩).symm, rfl, rfl⟩
set_option maxRecDepth 100000 in
set_option maxHeartbeats 4000000 in
theorem c_isStage (x : Int32) : q_Ct C l FX7_isStage 1 142 142 [.int x] μ ρ (q_is (q_b (q_in x 0 6)) μ ρ) := by
  refine q_entry rfl (by decide) (Nat.le_of_ble_eq_true rfl) ?_
  refine g_lv [(0, _)] rfl ?_
  refine g_iload_n 1 dX7_isStage_0 rfl rfl ?_
  refine g_iconst 2 0 dX7_isStage_1 rfl (by decide) ?_
  refine g_bipush 4 6 dX7_isStage_2 rfl (by decide) ?_
  refine g_Si 7 [_, _, _] _ dX7_isStage_4 rfl m_X7_within l_X7_73 rfl (c_within _ _ _) rfl (Nat.le_of_ble_eq_true rfl) (by decide) (fun v4 μ4 ρ4 hc9 => ?_)
  obtain ⟨rfl, rfl, rfl⟩ := hc9
  exact g_rz dX7_isStage_7 rfl q_b_01 rfl ⟨rfl, rfl, rfl⟩
set_option maxRecDepth 100000 in
set_option maxHeartbeats 4000000 in
theorem c_isCamp (x : Int32) : q_Ct C l FX7_isCamp 1 142 142 [.int x] μ ρ (q_is (q_b (q_in x 1 7)) μ ρ) := by
  refine q_entry rfl (by decide) (Nat.le_of_ble_eq_true rfl) ?_
  refine g_lv [(0, _)] rfl ?_
  refine g_iload_n 1 dX7_isCamp_0 rfl rfl ?_
  refine g_iconst 2 1 dX7_isCamp_1 rfl (by decide) ?_
  refine g_bipush 4 7 dX7_isCamp_2 rfl (by decide) ?_
  refine g_Si 7 [_, _, _] _ dX7_isCamp_4 rfl m_X7_within l_X7_73 rfl (c_within _ _ _) rfl (Nat.le_of_ble_eq_true rfl) (by decide) (fun v4 μ4 ρ4 hc9 => ?_)
  obtain ⟨rfl, rfl, rfl⟩ := hc9
  exact g_rz dX7_isCamp_7 rfl q_b_01 rfl ⟨rfl, rfl, rfl⟩
set_option maxRecDepth 100000 in
set_option maxHeartbeats 4000000 in
theorem c_MisStage (x : Int32) : q_Ct C l FX8_isStage 1 142 142 [.int x] μ ρ (q_is (q_b (q_in x 0 6)) μ ρ) := by
  refine q_entry rfl (by decide) (Nat.le_of_ble_eq_true rfl) ?_
  refine g_lv [(0, _)] rfl ?_
  refine g_iload_n 1 dX8_isStage_0 rfl rfl ?_
  refine g_iconst 2 0 dX8_isStage_1 rfl (by decide) ?_
  refine g_bipush 4 6 dX8_isStage_2 rfl (by decide) ?_
  refine g_Si 7 [_, _, _] _ dX8_isStage_4 rfl m_X8_isIn l_X8_71 rfl (c_isIn _ _ _) rfl (Nat.le_of_ble_eq_true rfl) (by decide) (fun v4 μ4 ρ4 hc9 => ?_)
  obtain ⟨rfl, rfl, rfl⟩ := hc9
  exact g_rz dX8_isStage_7 rfl q_b_01 rfl ⟨rfl, rfl, rfl⟩
set_option maxRecDepth 100000 in
set_option maxHeartbeats 4000000 in
theorem c_MisCamp (x : Int32) : q_Ct C l FX8_isCamp 1 142 142 [.int x] μ ρ (q_is (q_b (q_in x 1 7)) μ ρ) := by
  refine q_entry rfl (by decide) (Nat.le_of_ble_eq_true rfl) ?_
  refine g_lv [(0, _)] rfl ?_
  refine g_iload_n 1 dX8_isCamp_0 rfl rfl ?_
  refine g_iconst 2 1 dX8_isCamp_1 rfl (by decide) ?_
  refine g_bipush 4 7 dX8_isCamp_2 rfl (by decide) ?_
  refine g_Si 7 [_, _, _] _ dX8_isCamp_4 rfl m_X8_isIn l_X8_71 rfl (c_isIn _ _ _) rfl (Nat.le_of_ble_eq_true rfl) (by decide) (fun v4 μ4 ρ4 hc9 => ?_)
  obtain ⟨rfl, rfl, rfl⟩ := hc9
  exact g_rz dX8_isCamp_7 rfl q_b_01 rfl ⟨rfl, rfl, rfl⟩
end SM
section SB
variable {C : q_C} {l : Launch} {μ : q_M} {b : Bool}
set_option maxRecDepth 100000 in
set_option maxHeartbeats 4000000 in
theorem c_has (x : Int32) : q_Ct C l FX4_has 1 142 142 [.ref (q_a C 4), .int x] μ (q_ρ b) (q_is (q_b (q_in x 0 (μ 4 3 - 1))) μ (q_ρ b)) := by
  refine q_entry rfl (by decide) (Nat.le_of_ble_eq_true rfl) ?_
  refine g_lv [(0, _), (1, _)] rfl ?_
  refine g_iload_n 1 dX4_has_0 rfl rfl ?_
  refine g_iconst 2 0 dX4_has_1 rfl (by decide) ?_
  refine g_aload_n 3 dX4_has_2 rfl rfl ?_
  refine g_getI 6 dX4_has_3 rfl f_X4_21 (by decide) rfl rfl ?_
  refine g_iconst 7 1 dX4_has_6 rfl (by decide) ?_
  refine g_isub 8 dX4_has_7 rfl ?_
  refine g_SNi 11 [_, _, _] _ dX4_has_8 rfl m_X7_within l_X4_25 rfl (c_within _ _ _) rfl (Nat.le_of_ble_eq_true rfl) (by decide) (fun v8 μ8 ρ8 hc9 => ?_)
  obtain ⟨rfl, rfl, rfl⟩ := hc9
  exact g_rz dX4_has_11 rfl q_b_01 rfl ⟨rfl, rfl, rfl⟩
set_option maxRecDepth 100000 in
set_option maxHeartbeats 4000000 in
theorem c_MisRacer (x : Int32) : q_Ct C l FX8_isRacer 1 142 142 [.ref (q_a C 122), .int x] μ (q_ρ b) (q_is (q_b (q_in x 0 (μ 122 0 - 1))) μ (q_ρ b)) := by
  refine q_entry rfl (by decide) (Nat.le_of_ble_eq_true rfl) ?_
  refine g_lv [(0, _), (1, _)] rfl ?_
  refine g_iload_n 1 dX8_isRacer_0 rfl rfl ?_
  refine g_iconst 2 0 dX8_isRacer_1 rfl (by decide) ?_
  refine g_aload_n 3 dX8_isRacer_2 rfl rfl ?_
  refine g_getI 6 dX8_isRacer_3 rfl f_X8_75 (by decide) rfl rfl ?_
  refine g_iconst 7 1 dX8_isRacer_6 rfl (by decide) ?_
  refine g_isub 8 dX8_isRacer_7 rfl ?_
  refine g_Si 11 [_, _, _] _ dX8_isRacer_8 rfl m_X8_isIn l_X8_71 rfl (c_isIn _ _ _) rfl (Nat.le_of_ble_eq_true rfl) (by decide) (fun v8 μ8 ρ8 hc9 => ?_)
  obtain ⟨rfl, rfl, rfl⟩ := hc9
  exact g_rz dX8_isRacer_11 rfl q_b_01 rfl ⟨rfl, rfl, rfl⟩
set_option maxRecDepth 100000 in
set_option maxHeartbeats 4000000 in
theorem c_Mlength (x : Int32) (hx : vp_in (x + 1) 8) : q_Ct C l FX8_length 0 142 142 [.ref (q_a C 122), .int x] μ (q_ρ b) (q_is (μ 123 (x + 1).toNatClampNeg) μ (q_ρ b)) := by
  refine q_entry rfl (by decide) (Nat.le_of_ble_eq_true rfl) ?_
  refine g_lv [(0, _), (1, _)] rfl ?_
  refine g_aload_n 1 dX8_length_0 rfl rfl ?_
  refine g_getR 4 _ dX8_length_1 rfl f_X8_7 (by decide) rfl rfl rfl ?_
  refine g_iload_n 5 dX8_length_4 rfl rfl ?_
  refine g_iconst 6 1 dX8_length_5 rfl (by decide) ?_
  refine g_iadd 7 dX8_length_6 rfl ?_
  refine g_iald 8 dX8_length_7 rfl (by decide) rfl hx ?_
  exact g_ri dX8_length_8 rfl rfl ⟨rfl, rfl, rfl⟩
end SB
