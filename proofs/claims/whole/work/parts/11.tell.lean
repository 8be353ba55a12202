/-! ===== what is told: the class ===== -/
theorem q_stageI {j : Nat} (h : j < 7) : q_in (nI j) 0 6 := ⟨nI_pos' (by omega), (nI_leI (a := j) (b := 6) (by omega) (by omega)).mpr (by omega)⟩
theorem q_campI {j : Nat} (h : j < 7) : q_in (nI (j + 1)) 1 7 := ⟨(nI_leI (a := 1) (b := j + 1) (by omega) (by omega)).mpr (by omega), (nI_leI (a := j + 1) (b := 7) (by omega) (by omega)).mpr (by omega)⟩
theorem q_upo {α : Type} {f : Nat → Nat → α} {c k c' k' : Nat} {v : α} (h : ¬ (c' = c ∧ k' = k)) : q_up f c k v c' k' = f c' k' := if_neg h
theorem q_upc {α : Type} {f : Nat → Nat → α} {c k c' k' : Nat} {v : α} (h : c' ≠ c) : q_up f c k v c' k' = f c' k' := if_neg (fun q => h q.1)
theorem q_ups {α : Type} {f : Nat → Nat → α} {c k : Nat} {v : α} : q_up f c k v c k = v := if_pos ⟨rfl, rfl⟩
theorem q_rin {r m : Nat} (h : r < m) (hm : m ≤ 10) : q_in (nI r) 0 (nI m - 1) := by
  cases m with
  | zero => omega
  | succ m =>
    rw [nI_pred]
    exact ⟨nI_pos' (by omega), nI_le (by omega) (by omega)⟩
section TL
variable {C : q_C} {l : Launch} {μ : q_M} {b : Bool}
set_option maxRecDepth 100000 in
set_option maxHeartbeats 4000000 in
theorem c_camp_y {j m : Nat} {far : Int32} (hj : j < 7) (hf : q_in far 1 900) (hm : m ≤ 10) (hc : μ 4 3 = nI m) : q_Ct C l FX7_camp 2 142 142 [.ref (q_a C 0), .int (nI (j + 1)), .int far] μ (q_ρ b) (q_is 1 (q_up (q_fg (q_up μ 2 j far) 6 7 (nI j) far m) 0 9 1) (q_ρ b)) := by
  refine q_entry rfl (by decide) (Nat.le_of_ble_eq_true rfl) ?_
  refine g_lv [(0, _), (1, _), (2, _)] rfl ?_
  refine g_iload_n 1 dX7_camp_0 rfl rfl ?_
  refine g_Si 4 [_] _ dX7_camp_1 rfl m_X7_isCamp l_X7_69 rfl (c_isCamp _) rfl (Nat.le_of_ble_eq_true rfl) (by decide) (fun v1 μ1 ρ1 hc9 => ?_)
  obtain ⟨rfl, rfl, rfl⟩ := hc9
  refine g_if_eq 18 7 dX7_camp_4 rfl (by decide) (fun h4 => ?_) (fun h4 => ?_)
  · exact (q_b_0.mp h4 (q_campI hj)).elim
  · refine g_iload_n 8 dX7_camp_7 rfl rfl ?_
    refine g_iconst 9 1 dX7_camp_8 rfl (by decide) ?_
    refine g_sipush 12 900 dX7_camp_9 rfl (by decide) ?_
    refine g_Si 15 [_, _, _] _ dX7_camp_12 rfl m_X7_within l_X7_73 rfl (c_within _ _ _) rfl (Nat.le_of_ble_eq_true rfl) (by decide) (fun v12 μ12 ρ12 hc9 => ?_)
    obtain ⟨rfl, rfl, rfl⟩ := hc9
    refine g_if_ne 20 18 dX7_camp_15 rfl (by decide) (fun h15 => ?_) (fun h15 => ?_)
    · refine g_aload_n 21 dX7_camp_20 rfl rfl ?_
      refine g_getR 24 _ dX7_camp_21 rfl f_X7_12 (by decide) rfl rfl rfl ?_
      refine g_getR 27 _ dX7_camp_24 rfl f_X7_77 (by decide) rfl rfl rfl ?_
      refine g_iload_n 28 dX7_camp_27 rfl rfl ?_
      refine g_iconst 29 1 dX7_camp_28 rfl (by decide) ?_
      refine g_isub 30 dX7_camp_29 rfl ?_
      refine g_iload_n 31 dX7_camp_30 rfl rfl ?_
      refine g_iast 32 dX7_camp_31 rfl (by decide) rfl (by rw [nI_pred]; exact vp_in_nI hj (by omega)) ?_
      rw [nI_pred, nI_clamp (show j < 2 ^ 31 by omega)]
      refine g_aload_n 33 dX7_camp_32 rfl rfl ?_
      refine g_getR 36 _ dX7_camp_33 rfl f_X7_19 (by decide) rfl rfl rfl ?_
      refine g_iload_n 37 dX7_camp_36 rfl rfl ?_
      refine g_iconst 38 1 dX7_camp_37 rfl (by decide) ?_
      refine g_isub 39 dX7_camp_38 rfl ?_
      refine g_iload_n 40 dX7_camp_39 rfl rfl ?_
      refine g_Vv 43 [_, _] _ dX7_camp_40 rfl m_X4_forgetBreaksFrom l_X7_80 rfl rfl rfl (by decide) (c_forget m _ _ hm (by rw [q_upc (by decide)]; exact hc)) rfl (Nat.le_of_ble_eq_true rfl) (by decide) (fun μ40 ρ40 hc9 => ?_)
      obtain ⟨rfl, rfl⟩ := hc9
      rw [nI_pred]
      refine g_aload_n 44 dX7_camp_43 rfl rfl ?_
      refine g_iconst 45 1 dX7_camp_44 rfl (by decide) ?_
      refine g_putZ 48 dX7_camp_45 rfl f_X7_65 (by decide) rfl rfl (by decide) ?_
      refine g_iconst 49 1 dX7_camp_48 rfl (by decide) ?_
      exact g_rz dX7_camp_49 rfl (by first | exact Or.inl rfl | exact Or.inr rfl | assumption) rfl ⟨rfl, rfl, rfl⟩
    · exact (q_b_0.mp h15 hf).elim
set_option maxRecDepth 100000 in
set_option maxHeartbeats 4000000 in
theorem c_camp_n {c far : Int32} (h : ¬ (q_in c 1 7 ∧ q_in far 1 900)) : q_Ct C l FX7_camp 2 142 142 [.ref (q_a C 0), .int c, .int far] μ (q_ρ b) (q_is 0 μ (q_ρ b)) := by
  refine q_entry rfl (by decide) (Nat.le_of_ble_eq_true rfl) ?_
  refine g_lv [(0, _), (1, _), (2, _)] rfl ?_
  refine g_iload_n 1 dX7_camp_0 rfl rfl ?_
  refine g_Si 4 [_] _ dX7_camp_1 rfl m_X7_isCamp l_X7_69 rfl (c_isCamp _) rfl (Nat.le_of_ble_eq_true rfl) (by decide) (fun v1 μ1 ρ1 hc9 => ?_)
  obtain ⟨rfl, rfl, rfl⟩ := hc9
  refine g_if_eq 18 7 dX7_camp_4 rfl (by decide) (fun h4 => ?_) (fun h4 => ?_)
  · refine g_iconst 19 0 dX7_camp_18 rfl (by decide) ?_
    exact g_rz dX7_camp_19 rfl (by first | exact Or.inl rfl | exact Or.inr rfl | assumption) rfl ⟨rfl, rfl, rfl⟩
  · refine g_iload_n 8 dX7_camp_7 rfl rfl ?_
    refine g_iconst 9 1 dX7_camp_8 rfl (by decide) ?_
    refine g_sipush 12 900 dX7_camp_9 rfl (by decide) ?_
    refine g_Si 15 [_, _, _] _ dX7_camp_12 rfl m_X7_within l_X7_73 rfl (c_within _ _ _) rfl (Nat.le_of_ble_eq_true rfl) (by decide) (fun v12 μ12 ρ12 hc9 => ?_)
    obtain ⟨rfl, rfl, rfl⟩ := hc9
    refine g_if_ne 20 18 dX7_camp_15 rfl (by decide) (fun h15 => ?_) (fun h15 => ?_)
    · exact (h ⟨q_b_n.mp h4, q_b_n.mp h15⟩).elim
    · refine g_iconst 19 0 dX7_camp_18 rfl (by decide) ?_
      exact g_rz dX7_camp_19 rfl (by first | exact Or.inl rfl | exact Or.inr rfl | assumption) rfl ⟨rfl, rfl, rfl⟩
set_option maxRecDepth 100000 in
set_option maxHeartbeats 4000000 in
theorem c_hour_y {j : Nat} {h : Int32} (hj : j < 7) (hf : q_in h 0 23) : q_Ct C l FX7_hour 2 142 142 [.ref (q_a C 0), .int (nI j), .int h] μ (q_ρ b) (q_is 1 (q_up (q_up μ 3 j h) 0 9 1) (q_ρ b)) := by
  refine q_entry rfl (by decide) (Nat.le_of_ble_eq_true rfl) ?_
  refine g_lv [(0, _), (1, _), (2, _)] rfl ?_
  refine g_iload_n 1 dX7_hour_0 rfl rfl ?_
  refine g_Si 4 [_] _ dX7_hour_1 rfl m_X7_isStage l_X7_84 rfl (c_isStage _) rfl (Nat.le_of_ble_eq_true rfl) (by decide) (fun v1 μ1 ρ1 hc9 => ?_)
  obtain ⟨rfl, rfl, rfl⟩ := hc9
  refine g_if_eq 17 7 dX7_hour_4 rfl (by decide) (fun h4 => ?_) (fun h4 => ?_)
  · exact (q_b_0.mp h4 (q_stageI hj)).elim
  · refine g_iload_n 8 dX7_hour_7 rfl rfl ?_
    refine g_iconst 9 0 dX7_hour_8 rfl (by decide) ?_
    refine g_bipush 11 23 dX7_hour_9 rfl (by decide) ?_
    refine g_Si 14 [_, _, _] _ dX7_hour_11 rfl m_X7_within l_X7_73 rfl (c_within _ _ _) rfl (Nat.le_of_ble_eq_true rfl) (by decide) (fun v11 μ11 ρ11 hc9 => ?_)
    obtain ⟨rfl, rfl, rfl⟩ := hc9
    refine g_if_ne 19 17 dX7_hour_14 rfl (by decide) (fun h14 => ?_) (fun h14 => ?_)
    · refine g_aload_n 20 dX7_hour_19 rfl rfl ?_
      refine g_getR 23 _ dX7_hour_20 rfl f_X7_12 (by decide) rfl rfl rfl ?_
      refine g_getR 26 _ dX7_hour_23 rfl f_X7_87 (by decide) rfl rfl rfl ?_
      refine g_iload_n 27 dX7_hour_26 rfl rfl ?_
      refine g_iload_n 28 dX7_hour_27 rfl rfl ?_
      refine g_iast 29 dX7_hour_28 rfl (by decide) rfl (vp_in_nI hj (by omega)) ?_
      rw [nI_clamp (show j < 2 ^ 31 by omega)]
      refine g_aload_n 30 dX7_hour_29 rfl rfl ?_
      refine g_iconst 31 1 dX7_hour_30 rfl (by decide) ?_
      refine g_putZ 34 dX7_hour_31 rfl f_X7_65 (by decide) rfl rfl (by decide) ?_
      refine g_iconst 35 1 dX7_hour_34 rfl (by decide) ?_
      exact g_rz dX7_hour_35 rfl (by first | exact Or.inl rfl | exact Or.inr rfl | assumption) rfl ⟨rfl, rfl, rfl⟩
    · exact (q_b_0.mp h14 hf).elim
set_option maxRecDepth 100000 in
set_option maxHeartbeats 4000000 in
theorem c_hour_n {c far : Int32} (h : ¬ (q_in c 0 6 ∧ q_in far 0 23)) : q_Ct C l FX7_hour 2 142 142 [.ref (q_a C 0), .int c, .int far] μ (q_ρ b) (q_is 0 μ (q_ρ b)) := by
  refine q_entry rfl (by decide) (Nat.le_of_ble_eq_true rfl) ?_
  refine g_lv [(0, _), (1, _), (2, _)] rfl ?_
  refine g_iload_n 1 dX7_hour_0 rfl rfl ?_
  refine g_Si 4 [_] _ dX7_hour_1 rfl m_X7_isStage l_X7_84 rfl (c_isStage _) rfl (Nat.le_of_ble_eq_true rfl) (by decide) (fun v1 μ1 ρ1 hc9 => ?_)
  obtain ⟨rfl, rfl, rfl⟩ := hc9
  refine g_if_eq 17 7 dX7_hour_4 rfl (by decide) (fun h4 => ?_) (fun h4 => ?_)
  · refine g_iconst 18 0 dX7_hour_17 rfl (by decide) ?_
    exact g_rz dX7_hour_18 rfl (by first | exact Or.inl rfl | exact Or.inr rfl | assumption) rfl ⟨rfl, rfl, rfl⟩
  · refine g_iload_n 8 dX7_hour_7 rfl rfl ?_
    refine g_iconst 9 0 dX7_hour_8 rfl (by decide) ?_
    refine g_bipush 11 23 dX7_hour_9 rfl (by decide) ?_
    refine g_Si 14 [_, _, _] _ dX7_hour_11 rfl m_X7_within l_X7_73 rfl (c_within _ _ _) rfl (Nat.le_of_ble_eq_true rfl) (by decide) (fun v11 μ11 ρ11 hc9 => ?_)
    obtain ⟨rfl, rfl, rfl⟩ := hc9
    refine g_if_ne 19 17 dX7_hour_14 rfl (by decide) (fun h14 => ?_) (fun h14 => ?_)
    · exact (h ⟨q_b_n.mp h4, q_b_n.mp h14⟩).elim
    · refine g_iconst 18 0 dX7_hour_17 rfl (by decide) ?_
      exact g_rz dX7_hour_18 rfl (by first | exact Or.inl rfl | exact Or.inr rfl | assumption) rfl ⟨rfl, rfl, rfl⟩
set_option maxRecDepth 100000 in
set_option maxHeartbeats 4000000 in
theorem c_add_y {m : Nat} (s : Int32) (hm : m < 10) (hc : μ 4 3 = nI m) : q_Ct C l FX4_add 0 142 142 [.ref (q_a C 4), .int s] μ (q_ρ b) (q_is (nI m) (q_up (q_up (q_up μ 5 m s) 6 m (-1)) 4 3 (nI (m + 1))) (q_ρ b)) := by
  refine q_entry rfl (by decide) (Nat.le_of_ble_eq_true rfl) ?_
  refine g_lv [(0, _), (1, _)] rfl ?_
  refine g_aload_n 1 dX4_add_0 rfl rfl ?_
  refine g_getI 4 dX4_add_1 rfl f_X4_21 (by decide) rfl rfl ?_
  rw [hc]
  refine g_bipush 6 10 dX4_add_4 rfl (by decide) ?_
  refine g_icmp_lt 11 9 dX4_add_6 rfl (by decide) (fun h6 => ?_) (fun h6 => ?_)
  · refine g_aload_n 12 dX4_add_11 rfl rfl ?_
    refine g_getR 15 _ dX4_add_12 rfl f_X4_9 (by decide) rfl rfl rfl ?_
    refine g_aload_n 16 dX4_add_15 rfl rfl ?_
    refine g_getI 19 dX4_add_16 rfl f_X4_21 (by decide) rfl rfl ?_
    rw [hc]
    refine g_iload_n 20 dX4_add_19 rfl rfl ?_
    refine g_iast 21 dX4_add_20 rfl (by decide) rfl (vp_in_nI hm (by omega)) ?_
    rw [nI_clamp (show m < 2 ^ 31 by omega)]
    refine g_aload_n 22 dX4_add_21 rfl rfl ?_
    refine g_getR 25 _ dX4_add_22 rfl f_X4_15 (by decide) rfl rfl rfl ?_
    refine g_aload_n 26 dX4_add_25 rfl rfl ?_
    refine g_getI 29 dX4_add_26 rfl f_X4_21 (by decide) rfl rfl ?_
    rw [q_upc (by decide), hc]
    refine g_iconst 30 (-1) dX4_add_29 rfl (by decide) ?_
    refine g_iast 31 dX4_add_30 rfl (by decide) rfl (vp_in_nI hm (by omega)) ?_
    rw [nI_clamp (show m < 2 ^ 31 by omega)]
    refine g_aload_n 32 dX4_add_31 rfl rfl ?_
    refine g_dup 33 dX4_add_32 rfl rfl ?_
    refine g_getI 36 dX4_add_33 rfl f_X4_21 (by decide) rfl rfl ?_
    rw [q_upc (by decide), q_upc (by decide), hc]
    refine g_iconst 37 1 dX4_add_36 rfl (by decide) ?_
    refine g_iadd 38 dX4_add_37 rfl ?_
    rw [nI_1]
    refine g_putI 41 dX4_add_38 rfl f_X4_21 (by decide) rfl rfl (Or.inl rfl) ?_
    refine g_aload_n 42 dX4_add_41 rfl rfl ?_
    refine g_getI 45 dX4_add_42 rfl f_X4_21 (by decide) rfl rfl ?_
    rw [q_ups]
    refine g_iconst 46 1 dX4_add_45 rfl (by decide) ?_
    refine g_isub 47 dX4_add_46 rfl ?_
    rw [nI_pred]
    exact g_ri dX4_add_47 rfl rfl ⟨rfl, rfl, rfl⟩
  · exact absurd (nI_lt (a := m) (b := 10) hm (by omega)) h6
set_option maxRecDepth 100000 in
set_option maxHeartbeats 4000000 in
theorem c_add_n (s : Int32) (hc : μ 4 3 = nI 10) : q_Ct C l FX4_add 0 142 142 [.ref (q_a C 4), .int s] μ (q_ρ b) (q_is (-1) μ (q_ρ b)) := by
  refine q_entry rfl (by decide) (Nat.le_of_ble_eq_true rfl) ?_
  refine g_lv [(0, _), (1, _)] rfl ?_
  refine g_aload_n 1 dX4_add_0 rfl rfl ?_
  refine g_getI 4 dX4_add_1 rfl f_X4_21 (by decide) rfl rfl ?_
  rw [hc]
  refine g_bipush 6 10 dX4_add_4 rfl (by decide) ?_
  refine g_icmp_lt 11 9 dX4_add_6 rfl (by decide) (fun h6 => ?_) (fun h6 => ?_)
  · exact absurd h6 (by decide)
  · refine g_iconst 10 (-1) dX4_add_9 rfl (by decide) ?_
    exact g_ri dX4_add_10 rfl rfl ⟨rfl, rfl, rfl⟩
set_option maxRecDepth 100000 in
set_option maxHeartbeats 4000000 in
theorem c_racer_y {m : Nat} {s : Int32} (hs : q_in s 10 120) (hm : m < 10) (hc : μ 4 3 = nI m) : q_Ct C l FX7_racer 2 142 142 [.ref (q_a C 0), .int s] μ (q_ρ b) (q_is (nI m) (q_up (q_up (q_up (q_up μ 0 9 1) 5 m s) 6 m (-1)) 4 3 (nI (m + 1))) (q_ρ b)) := by
  refine q_entry rfl (by decide) (Nat.le_of_ble_eq_true rfl) ?_
  refine g_lv [(0, _), (1, _)] rfl ?_
  refine g_iload_n 1 dX7_racer_0 rfl rfl ?_
  refine g_bipush 3 10 dX7_racer_1 rfl (by decide) ?_
  refine g_bipush 5 120 dX7_racer_3 rfl (by decide) ?_
  refine g_Si 8 [_, _, _] _ dX7_racer_5 rfl m_X7_within l_X7_73 rfl (c_within _ _ _) rfl (Nat.le_of_ble_eq_true rfl) (by decide) (fun v5 μ5 ρ5 hc9 => ?_)
  obtain ⟨rfl, rfl, rfl⟩ := hc9
  refine g_if_ne 13 11 dX7_racer_8 rfl (by decide) (fun h8 => ?_) (fun h8 => ?_)
  · refine g_aload_n 14 dX7_racer_13 rfl rfl ?_
    refine g_iconst 15 1 dX7_racer_14 rfl (by decide) ?_
    refine g_putZ 18 dX7_racer_15 rfl f_X7_65 (by decide) rfl rfl (by decide) ?_
    refine g_aload_n 19 dX7_racer_18 rfl rfl ?_
    refine g_getR 22 _ dX7_racer_19 rfl f_X7_19 (by decide) rfl rfl rfl ?_
    refine g_iload_n 23 dX7_racer_22 rfl rfl ?_
    refine g_Vi 26 [_] _ dX7_racer_23 rfl m_X4_add l_X7_90 rfl rfl rfl (by decide) (c_add_y _ hm (by rw [q_upc (by decide)]; exact hc)) rfl (Nat.le_of_ble_eq_true rfl) (by decide) (fun v23 μ23 ρ23 hc9 => ?_)
    obtain ⟨rfl, rfl, rfl⟩ := hc9
    exact g_ri dX7_racer_26 rfl rfl ⟨rfl, rfl, rfl⟩
  · exact (q_b_0.mp h8 hs).elim
set_option maxRecDepth 100000 in
set_option maxHeartbeats 4000000 in
theorem c_racer_f {s : Int32} (hs : q_in s 10 120) (hc : μ 4 3 = nI 10) : q_Ct C l FX7_racer 2 142 142 [.ref (q_a C 0), .int s] μ (q_ρ b) (q_is (-1) (q_up μ 0 9 1) (q_ρ b)) := by
  refine q_entry rfl (by decide) (Nat.le_of_ble_eq_true rfl) ?_
  refine g_lv [(0, _), (1, _)] rfl ?_
  refine g_iload_n 1 dX7_racer_0 rfl rfl ?_
  refine g_bipush 3 10 dX7_racer_1 rfl (by decide) ?_
  refine g_bipush 5 120 dX7_racer_3 rfl (by decide) ?_
  refine g_Si 8 [_, _, _] _ dX7_racer_5 rfl m_X7_within l_X7_73 rfl (c_within _ _ _) rfl (Nat.le_of_ble_eq_true rfl) (by decide) (fun v5 μ5 ρ5 hc9 => ?_)
  obtain ⟨rfl, rfl, rfl⟩ := hc9
  refine g_if_ne 13 11 dX7_racer_8 rfl (by decide) (fun h8 => ?_) (fun h8 => ?_)
  · refine g_aload_n 14 dX7_racer_13 rfl rfl ?_
    refine g_iconst 15 1 dX7_racer_14 rfl (by decide) ?_
    refine g_putZ 18 dX7_racer_15 rfl f_X7_65 (by decide) rfl rfl (by decide) ?_
    refine g_aload_n 19 dX7_racer_18 rfl rfl ?_
    refine g_getR 22 _ dX7_racer_19 rfl f_X7_19 (by decide) rfl rfl rfl ?_
    refine g_iload_n 23 dX7_racer_22 rfl rfl ?_
    refine g_Vi 26 [_] _ dX7_racer_23 rfl m_X4_add l_X7_90 rfl rfl rfl (by decide) (c_add_n _ (by rw [q_upc (by decide)]; exact hc)) rfl (Nat.le_of_ble_eq_true rfl) (by decide) (fun v23 μ23 ρ23 hc9 => ?_)
    obtain ⟨rfl, rfl, rfl⟩ := hc9
    exact g_ri dX7_racer_26 rfl rfl ⟨rfl, rfl, rfl⟩
  · exact (q_b_0.mp h8 hs).elim
set_option maxRecDepth 100000 in
set_option maxHeartbeats 4000000 in
theorem c_racer_n {s : Int32} (hs : ¬ q_in s 10 120) : q_Ct C l FX7_racer 2 142 142 [.ref (q_a C 0), .int s] μ (q_ρ b) (q_is (-1) μ (q_ρ b)) := by
  refine q_entry rfl (by decide) (Nat.le_of_ble_eq_true rfl) ?_
  refine g_lv [(0, _), (1, _)] rfl ?_
  refine g_iload_n 1 dX7_racer_0 rfl rfl ?_
  refine g_bipush 3 10 dX7_racer_1 rfl (by decide) ?_
  refine g_bipush 5 120 dX7_racer_3 rfl (by decide) ?_
  refine g_Si 8 [_, _, _] _ dX7_racer_5 rfl m_X7_within l_X7_73 rfl (c_within _ _ _) rfl (Nat.le_of_ble_eq_true rfl) (by decide) (fun v5 μ5 ρ5 hc9 => ?_)
  obtain ⟨rfl, rfl, rfl⟩ := hc9
  refine g_if_ne 13 11 dX7_racer_8 rfl (by decide) (fun h8 => ?_) (fun h8 => ?_)
  · exact (hs (q_b_n.mp h8)).elim
  · refine g_iconst 12 (-1) dX7_racer_11 rfl (by decide) ?_
    exact g_ri dX7_racer_12 rfl rfl ⟨rfl, rfl, rfl⟩
set_option maxRecDepth 100000 in
set_option maxHeartbeats 4000000 in
theorem c_breaks_0 {r m : Nat} {a : Int32} (hr : r < m) (hm : m ≤ 10) (hc : μ 4 3 = nI m) : q_Ct C l FX7_breaks 2 142 142 [.ref (q_a C 0), .int (nI r), .int (-1), .int a] μ (q_ρ b) (q_is 1 (q_up (q_up (q_up μ 6 r (-1)) 7 r a) 0 9 1) (q_ρ b)) := by
  refine q_entry rfl (by decide) (Nat.le_of_ble_eq_true rfl) ?_
  refine g_lv [(0, _), (1, _), (2, _), (3, _)] rfl ?_
  refine g_aload_n 1 dX7_breaks_0 rfl rfl ?_
  refine g_getR 4 _ dX7_breaks_1 rfl f_X7_19 (by decide) rfl rfl rfl ?_
  refine g_iload_n 5 dX7_breaks_4 rfl rfl ?_
  refine g_Vi 8 [_] _ dX7_breaks_5 rfl m_X4_has l_X7_94 rfl rfl rfl (by decide) (c_has _) rfl (Nat.le_of_ble_eq_true rfl) (by decide) (fun v5 μ5 ρ5 hc9 => ?_)
  obtain ⟨rfl, rfl, rfl⟩ := hc9
  refine g_if_ne 13 11 dX7_breaks_8 rfl (by decide) (fun h8 => ?_) (fun h8 => ?_)
  · refine g_iload_n 14 dX7_breaks_13 rfl rfl ?_
    refine g_iconst 15 (-1) dX7_breaks_14 rfl (by decide) ?_
    refine g_icmp_eq 46 18 dX7_breaks_15 rfl (by decide) (fun h15 => ?_) (fun h15 => ?_)
    · refine g_aload_n 47 dX7_breaks_46 rfl rfl ?_
      refine g_getR 50 _ dX7_breaks_47 rfl f_X7_19 (by decide) rfl rfl rfl ?_
      refine g_getR 53 _ dX7_breaks_50 rfl f_X7_97 (by decide) rfl rfl rfl ?_
      refine g_iload_n 54 dX7_breaks_53 rfl rfl ?_
      refine g_iload_n 55 dX7_breaks_54 rfl rfl ?_
      refine g_iast 56 dX7_breaks_55 rfl (by decide) rfl (vp_in_nI (show r < 10 by omega) (by omega)) ?_
      rw [nI_clamp (show r < 2 ^ 31 by omega)]
      refine g_aload_n 57 dX7_breaks_56 rfl rfl ?_
      refine g_getR 60 _ dX7_breaks_57 rfl f_X7_19 (by decide) rfl rfl rfl ?_
      refine g_getR 63 _ dX7_breaks_60 rfl f_X7_100 (by decide) rfl rfl rfl ?_
      refine g_iload_n 64 dX7_breaks_63 rfl rfl ?_
      refine g_iload_n 65 dX7_breaks_64 rfl rfl ?_
      refine g_iast 66 dX7_breaks_65 rfl (by decide) rfl (vp_in_nI (show r < 10 by omega) (by omega)) ?_
      rw [nI_clamp (show r < 2 ^ 31 by omega)]
      refine g_aload_n 67 dX7_breaks_66 rfl rfl ?_
      refine g_iconst 68 1 dX7_breaks_67 rfl (by decide) ?_
      refine g_putZ 71 dX7_breaks_68 rfl f_X7_65 (by decide) rfl rfl (by decide) ?_
      refine g_iconst 72 1 dX7_breaks_71 rfl (by decide) ?_
      exact g_rz dX7_breaks_72 rfl (by first | exact Or.inl rfl | exact Or.inr rfl | assumption) rfl ⟨rfl, rfl, rfl⟩
    · exact absurd rfl h15
  · exact (q_b_0.mp h8 (by rw [hc]; exact q_rin hr hm)).elim
set_option maxRecDepth 100000 in
set_option maxHeartbeats 4000000 in
theorem c_breaks_y {r m j : Nat} {a : Int32} (hr : r < m) (hm : m ≤ 10) (hc : μ 4 3 = nI m) (hj : j < 7) (ha : q_in a 0 (μ 2 j - 1)) : q_Ct C l FX7_breaks 2 142 142 [.ref (q_a C 0), .int (nI r), .int (nI j), .int a] μ (q_ρ b) (q_is 1 (q_up (q_up (q_up μ 6 r (nI j)) 7 r a) 0 9 1) (q_ρ b)) := by
  refine q_entry rfl (by decide) (Nat.le_of_ble_eq_true rfl) ?_
  refine g_lv [(0, _), (1, _), (2, _), (3, _)] rfl ?_
  refine g_aload_n 1 dX7_breaks_0 rfl rfl ?_
  refine g_getR 4 _ dX7_breaks_1 rfl f_X7_19 (by decide) rfl rfl rfl ?_
  refine g_iload_n 5 dX7_breaks_4 rfl rfl ?_
  refine g_Vi 8 [_] _ dX7_breaks_5 rfl m_X4_has l_X7_94 rfl rfl rfl (by decide) (c_has _) rfl (Nat.le_of_ble_eq_true rfl) (by decide) (fun v5 μ5 ρ5 hc9 => ?_)
  obtain ⟨rfl, rfl, rfl⟩ := hc9
  refine g_if_ne 13 11 dX7_breaks_8 rfl (by decide) (fun h8 => ?_) (fun h8 => ?_)
  · refine g_iload_n 14 dX7_breaks_13 rfl rfl ?_
    refine g_iconst 15 (-1) dX7_breaks_14 rfl (by decide) ?_
    refine g_icmp_eq 46 18 dX7_breaks_15 rfl (by decide) (fun h15 => ?_) (fun h15 => ?_)
    · exact absurd (nI_pos' (show j < 2 ^ 31 by omega)) (by rw [h15]; decide)
    · refine g_iload_n 19 dX7_breaks_18 rfl rfl ?_
      refine g_Si 22 [_] _ dX7_breaks_19 rfl m_X7_isStage l_X7_84 rfl (c_isStage _) rfl (Nat.le_of_ble_eq_true rfl) (by decide) (fun v19 μ19 ρ19 hc9 => ?_)
      obtain ⟨rfl, rfl, rfl⟩ := hc9
      refine g_if_eq 44 25 dX7_breaks_22 rfl (by decide) (fun h22 => ?_) (fun h22 => ?_)
      · exact (q_b_0.mp h22 (q_stageI hj)).elim
      · refine g_iload_n 26 dX7_breaks_25 rfl rfl ?_
        refine g_iconst 27 0 dX7_breaks_26 rfl (by decide) ?_
        refine g_aload_n 28 dX7_breaks_27 rfl rfl ?_
        refine g_getR 31 _ dX7_breaks_28 rfl f_X7_12 (by decide) rfl rfl rfl ?_
        refine g_getR 34 _ dX7_breaks_31 rfl f_X7_77 (by decide) rfl rfl rfl ?_
        refine g_iload_n 35 dX7_breaks_34 rfl rfl ?_
        refine g_iald 36 dX7_breaks_35 rfl (by decide) rfl (vp_in_nI hj (by omega)) ?_
        rw [nI_clamp (show j < 2 ^ 31 by omega)]
        refine g_iconst 37 1 dX7_breaks_36 rfl (by decide) ?_
        refine g_isub 38 dX7_breaks_37 rfl ?_
        refine g_Si 41 [_, _, _] _ dX7_breaks_38 rfl m_X7_within l_X7_73 rfl (c_within _ _ _) rfl (Nat.le_of_ble_eq_true rfl) (by decide) (fun v38 μ38 ρ38 hc9 => ?_)
        obtain ⟨rfl, rfl, rfl⟩ := hc9
        refine g_if_ne 46 44 dX7_breaks_41 rfl (by decide) (fun h41 => ?_) (fun h41 => ?_)
        · refine g_aload_n 47 dX7_breaks_46 rfl rfl ?_
          refine g_getR 50 _ dX7_breaks_47 rfl f_X7_19 (by decide) rfl rfl rfl ?_
          refine g_getR 53 _ dX7_breaks_50 rfl f_X7_97 (by decide) rfl rfl rfl ?_
          refine g_iload_n 54 dX7_breaks_53 rfl rfl ?_
          refine g_iload_n 55 dX7_breaks_54 rfl rfl ?_
          refine g_iast 56 dX7_breaks_55 rfl (by decide) rfl (vp_in_nI (show r < 10 by omega) (by omega)) ?_
          rw [nI_clamp (show r < 2 ^ 31 by omega)]
          refine g_aload_n 57 dX7_breaks_56 rfl rfl ?_
          refine g_getR 60 _ dX7_breaks_57 rfl f_X7_19 (by decide) rfl rfl rfl ?_
          refine g_getR 63 _ dX7_breaks_60 rfl f_X7_100 (by decide) rfl rfl rfl ?_
          refine g_iload_n 64 dX7_breaks_63 rfl rfl ?_
          refine g_iload_n 65 dX7_breaks_64 rfl rfl ?_
          refine g_iast 66 dX7_breaks_65 rfl (by decide) rfl (vp_in_nI (show r < 10 by omega) (by omega)) ?_
          rw [nI_clamp (show r < 2 ^ 31 by omega)]
          refine g_aload_n 67 dX7_breaks_66 rfl rfl ?_
          refine g_iconst 68 1 dX7_breaks_67 rfl (by decide) ?_
          refine g_putZ 71 dX7_breaks_68 rfl f_X7_65 (by decide) rfl rfl (by decide) ?_
          refine g_iconst 72 1 dX7_breaks_71 rfl (by decide) ?_
          exact g_rz dX7_breaks_72 rfl (by first | exact Or.inl rfl | exact Or.inr rfl | assumption) rfl ⟨rfl, rfl, rfl⟩
        · exact (q_b_0.mp h41 ha).elim
  · exact (q_b_0.mp h8 (by rw [hc]; exact q_rin hr hm)).elim
set_option maxRecDepth 100000 in
set_option maxHeartbeats 4000000 in
theorem c_breaks_n {r i a : Int32} (h : ¬ (q_in r 0 (μ 4 3 - 1) ∧ (i = -1 ∨ (q_in i 0 6 ∧ q_in a 0 (μ 2 i.toNatClampNeg - 1))))) : q_Ct C l FX7_breaks 2 142 142 [.ref (q_a C 0), .int r, .int i, .int a] μ (q_ρ b) (q_is 0 μ (q_ρ b)) := by
  refine q_entry rfl (by decide) (Nat.le_of_ble_eq_true rfl) ?_
  refine g_lv [(0, _), (1, _), (2, _), (3, _)] rfl ?_
  refine g_aload_n 1 dX7_breaks_0 rfl rfl ?_
  refine g_getR 4 _ dX7_breaks_1 rfl f_X7_19 (by decide) rfl rfl rfl ?_
  refine g_iload_n 5 dX7_breaks_4 rfl rfl ?_
  refine g_Vi 8 [_] _ dX7_breaks_5 rfl m_X4_has l_X7_94 rfl rfl rfl (by decide) (c_has _) rfl (Nat.le_of_ble_eq_true rfl) (by decide) (fun v5 μ5 ρ5 hc9 => ?_)
  obtain ⟨rfl, rfl, rfl⟩ := hc9
  refine g_if_ne 13 11 dX7_breaks_8 rfl (by decide) (fun h8 => ?_) (fun h8 => ?_)
  · refine g_iload_n 14 dX7_breaks_13 rfl rfl ?_
    refine g_iconst 15 (-1) dX7_breaks_14 rfl (by decide) ?_
    refine g_icmp_eq 46 18 dX7_breaks_15 rfl (by decide) (fun h15 => ?_) (fun h15 => ?_)
    · exact (h ⟨q_b_n.mp h8, Or.inl h15⟩).elim
    · refine g_iload_n 19 dX7_breaks_18 rfl rfl ?_
      refine g_Si 22 [_] _ dX7_breaks_19 rfl m_X7_isStage l_X7_84 rfl (c_isStage _) rfl (Nat.le_of_ble_eq_true rfl) (by decide) (fun v19 μ19 ρ19 hc9 => ?_)
      obtain ⟨rfl, rfl, rfl⟩ := hc9
      refine g_if_eq 44 25 dX7_breaks_22 rfl (by decide) (fun h22 => ?_) (fun h22 => ?_)
      · refine g_iconst 45 0 dX7_breaks_44 rfl (by decide) ?_
        exact g_rz dX7_breaks_45 rfl (by first | exact Or.inl rfl | exact Or.inr rfl | assumption) rfl ⟨rfl, rfl, rfl⟩
      · refine g_iload_n 26 dX7_breaks_25 rfl rfl ?_
        refine g_iconst 27 0 dX7_breaks_26 rfl (by decide) ?_
        refine g_aload_n 28 dX7_breaks_27 rfl rfl ?_
        refine g_getR 31 _ dX7_breaks_28 rfl f_X7_12 (by decide) rfl rfl rfl ?_
        refine g_getR 34 _ dX7_breaks_31 rfl f_X7_77 (by decide) rfl rfl rfl ?_
        refine g_iload_n 35 dX7_breaks_34 rfl rfl ?_
        refine g_iald 36 dX7_breaks_35 rfl (by decide) rfl (q_vp (q_b_n.mp h22).1 (q_b_n.mp h22).2 (by decide)) ?_
        refine g_iconst 37 1 dX7_breaks_36 rfl (by decide) ?_
        refine g_isub 38 dX7_breaks_37 rfl ?_
        refine g_Si 41 [_, _, _] _ dX7_breaks_38 rfl m_X7_within l_X7_73 rfl (c_within _ _ _) rfl (Nat.le_of_ble_eq_true rfl) (by decide) (fun v38 μ38 ρ38 hc9 => ?_)
        obtain ⟨rfl, rfl, rfl⟩ := hc9
        refine g_if_ne 46 44 dX7_breaks_41 rfl (by decide) (fun h41 => ?_) (fun h41 => ?_)
        · exact (h ⟨q_b_n.mp h8, Or.inr ⟨q_b_n.mp h22, q_b_n.mp h41⟩⟩).elim
        · refine g_iconst 45 0 dX7_breaks_44 rfl (by decide) ?_
          exact g_rz dX7_breaks_45 rfl (by first | exact Or.inl rfl | exact Or.inr rfl | assumption) rfl ⟨rfl, rfl, rfl⟩
  · refine g_iconst 12 0 dX7_breaks_11 rfl (by decide) ?_
    exact g_rz dX7_breaks_12 rfl (by first | exact Or.inl rfl | exact Or.inr rfl | assumption) rfl ⟨rfl, rfl, rfl⟩
set_option maxRecDepth 100000 in
set_option maxHeartbeats 4000000 in
theorem c_set_y {k : Nat} {v : Int32} (hk : k < 5) (hv : q_in v (q_lo k) (q_hi k)) : q_Ct C l FX7_set 1 142 142 [.ref (q_a C 0), .int (nI k), .int v] μ (q_ρ b) (q_is 1 (q_up (q_up μ 69 k v) 0 9 1) (q_ρ b)) := by
  refine q_entry rfl (by decide) (Nat.le_of_ble_eq_true rfl) ?_
  refine g_lv [(0, _), (1, _), (2, _)] rfl ?_
  refine g_iload_n 1 dX7_set_0 rfl rfl ?_
  refine g_iconst 2 0 dX7_set_1 rfl (by decide) ?_
  refine g_iconst 3 4 dX7_set_2 rfl (by decide) ?_
  refine g_Si 6 [_, _, _] _ dX7_set_3 rfl m_X7_within l_X7_73 rfl (c_within _ _ _) rfl (Nat.le_of_ble_eq_true rfl) (by decide) (fun v3 μ3 ρ3 hc9 => ?_)
  obtain ⟨rfl, rfl, rfl⟩ := hc9
  refine g_if_eq 26 9 dX7_set_6 rfl (by decide) (fun h6 => ?_) (fun h6 => ?_)
  · exact (q_b_0.mp h6 ⟨nI_pos' (by omega), (nI_leI (a := k) (b := 4) (by omega) (by omega)).mpr (by omega)⟩).elim
  · refine g_iload_n 10 dX7_set_9 rfl rfl ?_
    refine g_getL 13 dX7_set_10 rfl s_X7_103 ?_
    refine g_iload_n 14 dX7_set_13 rfl rfl ?_
    refine g_ldL 15 dX7_set_14 rfl (vp_in_nI hk (by omega)) ?_
    rw [nI_clamp (show k < 2 ^ 31 by omega)]
    refine g_getH 18 dX7_set_15 rfl s_X7_106 ?_
    refine g_iload_n 19 dX7_set_18 rfl rfl ?_
    refine g_ldH 20 dX7_set_19 rfl (vp_in_nI hk (by omega)) ?_
    rw [nI_clamp (show k < 2 ^ 31 by omega)]
    refine g_Si 23 [_, _, _] _ dX7_set_20 rfl m_X7_within l_X7_73 rfl (c_within _ _ _) rfl (Nat.le_of_ble_eq_true rfl) (by decide) (fun v20 μ20 ρ20 hc9 => ?_)
    obtain ⟨rfl, rfl, rfl⟩ := hc9
    refine g_if_ne 28 26 dX7_set_23 rfl (by decide) (fun h23 => ?_) (fun h23 => ?_)
    · refine g_aload_n 29 dX7_set_28 rfl rfl ?_
      refine g_getR 32 _ dX7_set_29 rfl f_X7_51 (by decide) rfl rfl rfl ?_
      refine g_iload_n 33 dX7_set_32 rfl rfl ?_
      refine g_iload_n 34 dX7_set_33 rfl rfl ?_
      refine g_iast 35 dX7_set_34 rfl (by decide) rfl (vp_in_nI hk (by omega)) ?_
      rw [nI_clamp (show k < 2 ^ 31 by omega)]
      refine g_aload_n 36 dX7_set_35 rfl rfl ?_
      refine g_iconst 37 1 dX7_set_36 rfl (by decide) ?_
      refine g_putZ 40 dX7_set_37 rfl f_X7_65 (by decide) rfl rfl (by decide) ?_
      refine g_iconst 41 1 dX7_set_40 rfl (by decide) ?_
      exact g_rz dX7_set_41 rfl (by first | exact Or.inl rfl | exact Or.inr rfl | assumption) rfl ⟨rfl, rfl, rfl⟩
    · exact (q_b_0.mp h23 hv).elim
set_option maxRecDepth 100000 in
set_option maxHeartbeats 4000000 in
theorem c_set_n {k v : Int32} (h : ¬ (q_in k 0 4 ∧ q_in v (q_lo k.toNatClampNeg) (q_hi k.toNatClampNeg))) : q_Ct C l FX7_set 1 142 142 [.ref (q_a C 0), .int k, .int v] μ (q_ρ b) (q_is 0 μ (q_ρ b)) := by
  refine q_entry rfl (by decide) (Nat.le_of_ble_eq_true rfl) ?_
  refine g_lv [(0, _), (1, _), (2, _)] rfl ?_
  refine g_iload_n 1 dX7_set_0 rfl rfl ?_
  refine g_iconst 2 0 dX7_set_1 rfl (by decide) ?_
  refine g_iconst 3 4 dX7_set_2 rfl (by decide) ?_
  refine g_Si 6 [_, _, _] _ dX7_set_3 rfl m_X7_within l_X7_73 rfl (c_within _ _ _) rfl (Nat.le_of_ble_eq_true rfl) (by decide) (fun v3 μ3 ρ3 hc9 => ?_)
  obtain ⟨rfl, rfl, rfl⟩ := hc9
  refine g_if_eq 26 9 dX7_set_6 rfl (by decide) (fun h6 => ?_) (fun h6 => ?_)
  · refine g_iconst 27 0 dX7_set_26 rfl (by decide) ?_
    exact g_rz dX7_set_27 rfl (by first | exact Or.inl rfl | exact Or.inr rfl | assumption) rfl ⟨rfl, rfl, rfl⟩
  · refine g_iload_n 10 dX7_set_9 rfl rfl ?_
    refine g_getL 13 dX7_set_10 rfl s_X7_103 ?_
    refine g_iload_n 14 dX7_set_13 rfl rfl ?_
    refine g_ldL 15 dX7_set_14 rfl (q_vp (q_b_n.mp h6).1 (q_b_n.mp h6).2 (by decide)) ?_
    refine g_getH 18 dX7_set_15 rfl s_X7_106 ?_
    refine g_iload_n 19 dX7_set_18 rfl rfl ?_
    refine g_ldH 20 dX7_set_19 rfl (q_vp (q_b_n.mp h6).1 (q_b_n.mp h6).2 (by decide)) ?_
    refine g_Si 23 [_, _, _] _ dX7_set_20 rfl m_X7_within l_X7_73 rfl (c_within _ _ _) rfl (Nat.le_of_ble_eq_true rfl) (by decide) (fun v20 μ20 ρ20 hc9 => ?_)
    obtain ⟨rfl, rfl, rfl⟩ := hc9
    refine g_if_ne 28 26 dX7_set_23 rfl (by decide) (fun h23 => ?_) (fun h23 => ?_)
    · exact (h ⟨q_b_n.mp h6, q_b_n.mp h23⟩).elim
    · refine g_iconst 27 0 dX7_set_26 rfl (by decide) ?_
      exact g_rz dX7_set_27 rfl (by first | exact Or.inl rfl | exact Or.inr rfl | assumption) rfl ⟨rfl, rfl, rfl⟩
set_option maxRecDepth 100000 in
set_option maxHeartbeats 4000000 in
theorem c_end_y {k : Int32} (h : q_in k 0 (μ 8 1)) : q_Ct C l FX7_end 1 142 142 [.ref (q_a C 0), .int k] μ (q_ρ b) (q_is 1 (q_up μ 8 1 k) (q_ρ b)) := by
  refine q_entry rfl (by decide) (Nat.le_of_ble_eq_true rfl) ?_
  refine g_lv [(0, _), (1, _)] rfl ?_
  refine g_iload_n 1 dX7_end_0 rfl rfl ?_
  refine g_iconst 2 0 dX7_end_1 rfl (by decide) ?_
  refine g_aload_n 3 dX7_end_2 rfl rfl ?_
  refine g_getR 6 _ dX7_end_3 rfl f_X7_26 (by decide) rfl rfl rfl ?_
  refine g_getI 9 dX7_end_6 rfl f_X7_109 (by decide) rfl rfl ?_
  refine g_Si 12 [_, _, _] _ dX7_end_9 rfl m_X7_within l_X7_73 rfl (c_within _ _ _) rfl (Nat.le_of_ble_eq_true rfl) (by decide) (fun v9 μ9 ρ9 hc9 => ?_)
  obtain ⟨rfl, rfl, rfl⟩ := hc9
  refine g_if_ne 17 15 dX7_end_12 rfl (by decide) (fun h12 => ?_) (fun h12 => ?_)
  · refine g_aload_n 18 dX7_end_17 rfl rfl ?_
    refine g_getR 21 _ dX7_end_18 rfl f_X7_26 (by decide) rfl rfl rfl ?_
    refine g_iload_n 22 dX7_end_21 rfl rfl ?_
    refine g_putI 25 dX7_end_22 rfl f_X7_109 (by decide) rfl rfl (Or.inl rfl) ?_
    refine g_iconst 26 1 dX7_end_25 rfl (by decide) ?_
    exact g_rz dX7_end_26 rfl (by first | exact Or.inl rfl | exact Or.inr rfl | assumption) rfl ⟨rfl, rfl, rfl⟩
  · exact (q_b_0.mp h12 h).elim
set_option maxRecDepth 100000 in
set_option maxHeartbeats 4000000 in
theorem c_end_n {k : Int32} (h : ¬ q_in k 0 (μ 8 1)) : q_Ct C l FX7_end 1 142 142 [.ref (q_a C 0), .int k] μ (q_ρ b) (q_is 0 μ (q_ρ b)) := by
  refine q_entry rfl (by decide) (Nat.le_of_ble_eq_true rfl) ?_
  refine g_lv [(0, _), (1, _)] rfl ?_
  refine g_iload_n 1 dX7_end_0 rfl rfl ?_
  refine g_iconst 2 0 dX7_end_1 rfl (by decide) ?_
  refine g_aload_n 3 dX7_end_2 rfl rfl ?_
  refine g_getR 6 _ dX7_end_3 rfl f_X7_26 (by decide) rfl rfl rfl ?_
  refine g_getI 9 dX7_end_6 rfl f_X7_109 (by decide) rfl rfl ?_
  refine g_Si 12 [_, _, _] _ dX7_end_9 rfl m_X7_within l_X7_73 rfl (c_within _ _ _) rfl (Nat.le_of_ble_eq_true rfl) (by decide) (fun v9 μ9 ρ9 hc9 => ?_)
  obtain ⟨rfl, rfl, rfl⟩ := hc9
  refine g_if_ne 17 15 dX7_end_12 rfl (by decide) (fun h12 => ?_) (fun h12 => ?_)
  · exact (h (q_b_n.mp h12)).elim
  · refine g_iconst 16 0 dX7_end_15 rfl (by decide) ?_
    exact g_rz dX7_end_16 rfl (by first | exact Or.inl rfl | exact Or.inr rfl | assumption) rfl ⟨rfl, rfl, rfl⟩
set_option maxRecDepth 100000 in
set_option maxHeartbeats 4000000 in
theorem c_fault_0  : q_Ct C l FX7_fault 0 142 142 [.ref (q_a C 0), .int 0] μ (q_ρ b) (q_is (μ 10 0) μ (q_ρ b)) := by
  refine q_entry rfl (by decide) (Nat.le_of_ble_eq_true rfl) ?_
  refine g_lv [(0, _), (1, _)] rfl ?_
  refine g_iload_n 1 dX7_fault_0 rfl rfl ?_
  refine g_look 28 dX7_fault_1 (by decide) rfl (by decide) ?_
  refine g_aload_n 29 dX7_fault_28 rfl rfl ?_
  refine g_getR 32 _ dX7_fault_29 rfl f_X7_33 (by decide) rfl rfl rfl ?_
  refine g_getI 35 dX7_fault_32 rfl f_X7_124 (by decide) rfl rfl ?_
  exact g_ri dX7_fault_35 rfl rfl ⟨rfl, rfl, rfl⟩
set_option maxRecDepth 100000 in
set_option maxHeartbeats 4000000 in
theorem c_fault_1  : q_Ct C l FX7_fault 0 142 142 [.ref (q_a C 0), .int 1] μ (q_ρ b) (q_is (μ 10 1) μ (q_ρ b)) := by
  refine q_entry rfl (by decide) (Nat.le_of_ble_eq_true rfl) ?_
  refine g_lv [(0, _), (1, _)] rfl ?_
  refine g_iload_n 1 dX7_fault_0 rfl rfl ?_
  refine g_look 36 dX7_fault_1 (by decide) rfl (by decide) ?_
  refine g_aload_n 37 dX7_fault_36 rfl rfl ?_
  refine g_getR 40 _ dX7_fault_37 rfl f_X7_33 (by decide) rfl rfl rfl ?_
  refine g_getI 43 dX7_fault_40 rfl f_X7_127 (by decide) rfl rfl ?_
  exact g_ri dX7_fault_43 rfl rfl ⟨rfl, rfl, rfl⟩
set_option maxRecDepth 100000 in
set_option maxHeartbeats 4000000 in
theorem c_fault_n {k : Int32} (h0 : k ≠ 0) (h1 : k ≠ 1) : q_Ct C l FX7_fault 0 142 142 [.ref (q_a C 0), .int k] μ (q_ρ b) (q_is (-1) μ (q_ρ b)) := by
  refine q_entry rfl (by decide) (Nat.le_of_ble_eq_true rfl) ?_
  refine g_lv [(0, _), (1, _)] rfl ?_
  refine g_iload_n 1 dX7_fault_0 rfl rfl ?_
  have e0 : k.toInt ≠ 0 := fun e => h0 (Int32.toInt_inj.mp e)
  have e1 : k.toInt ≠ 1 := fun e => h1 (Int32.toInt_inj.mp e)
  refine g_look (off := 43) 44 dX7_fault_1 (by decide) (by simp [Op.lookupswitch.offset, Ne.symm e0, Ne.symm e1, e0, e1]) (by decide) ?_
  refine g_iconst 45 (-1) dX7_fault_44 rfl (by decide) ?_
  exact g_ri dX7_fault_45 rfl rfl ⟨rfl, rfl, rfl⟩
set_option maxRecDepth 100000 in
set_option maxHeartbeats 4000000 in
theorem c_look_0  : q_Ct C l FX7_look 1 142 142 [.ref (q_a C 0), .int 0] μ (q_ρ b) (q_is (μ 4 3) μ (q_ρ b)) := by
  refine q_entry rfl (by decide) (Nat.le_of_ble_eq_true rfl) ?_
  refine g_lv [(0, _), (1, _)] rfl ?_
  refine g_iload_n 1 dX7_look_0 rfl rfl ?_
  refine g_tabIn 28 dX7_look_1 (by decide) (by decide) rfl (by decide) ?_
  refine g_aload_n 29 dX7_look_28 rfl rfl ?_
  refine g_getR 32 _ dX7_look_29 rfl f_X7_19 (by decide) rfl rfl rfl ?_
  refine g_getI 35 dX7_look_32 rfl f_X7_130 (by decide) rfl rfl ?_
  exact g_ri dX7_look_35 rfl rfl ⟨rfl, rfl, rfl⟩
set_option maxRecDepth 100000 in
set_option maxHeartbeats 4000000 in
theorem c_look_2  : q_Ct C l FX7_look 1 142 142 [.ref (q_a C 0), .int 2] μ (q_ρ b) (q_is (q_sum (μ 2) 7) μ (q_ρ b)) := by
  refine q_entry rfl (by decide) (Nat.le_of_ble_eq_true rfl) ?_
  refine g_lv [(0, _), (1, _)] rfl ?_
  refine g_iload_n 1 dX7_look_0 rfl rfl ?_
  refine g_tabIn 44 dX7_look_1 (by decide) (by decide) rfl (by decide) ?_
  refine g_aload_n 45 dX7_look_44 rfl rfl ?_
  refine g_getR 48 _ dX7_look_45 rfl f_X7_12 (by decide) rfl rfl rfl ?_
  refine g_bipush 50 7 dX7_look_48 rfl (by decide) ?_
  refine g_Vi 53 [_] _ dX7_look_50 rfl m_X1_kilometerOf l_X7_133 rfl rfl rfl (by decide) (c_km 7 (by decide)) rfl (Nat.le_of_ble_eq_true rfl) (by decide) (fun v50 μ50 ρ50 hc9 => ?_)
  obtain ⟨rfl, rfl, rfl⟩ := hc9
  exact g_ri dX7_look_53 rfl rfl ⟨rfl, rfl, rfl⟩
set_option maxRecDepth 100000 in
set_option maxHeartbeats 4000000 in
theorem c_look_s {k : Nat} (hk : k < 5) : q_Ct C l FX7_look 1 142 142 [.ref (q_a C 0), .int (nI (k + 3))] μ (q_ρ b) (q_is (μ 69 k) μ (q_ρ b)) := by
  refine q_entry rfl (by decide) (Nat.le_of_ble_eq_true rfl) ?_
  refine g_lv [(0, _), (1, _)] rfl ?_
  refine g_iload_n 1 dX7_look_0 rfl rfl ?_
  refine g_tabOut 54 dX7_look_1 (Or.inr (by rw [nI_toInt (by omega)]; omega)) (by decide) ?_
  refine g_iload_n 55 dX7_look_54 rfl rfl ?_
  refine g_iconst 56 3 dX7_look_55 rfl (by decide) ?_
  refine g_bipush 58 7 dX7_look_56 rfl (by decide) ?_
  refine g_Si 61 [_, _, _] _ dX7_look_58 rfl m_X7_within l_X7_73 rfl (c_within _ _ _) rfl (Nat.le_of_ble_eq_true rfl) (by decide) (fun v58 μ58 ρ58 hc9 => ?_)
  obtain ⟨rfl, rfl, rfl⟩ := hc9
  refine g_if_eq 75 64 dX7_look_61 rfl (by decide) (fun h61 => ?_) (fun h61 => ?_)
  · exact (q_b_0.mp h61 ⟨(nI_leI (a := 3) (b := k + 3) (by omega) (by omega)).mpr (by omega), (nI_leI (a := k + 3) (b := 7) (by omega) (by omega)).mpr (by omega)⟩).elim
  · refine g_aload_n 65 dX7_look_64 rfl rfl ?_
    refine g_getR 68 _ dX7_look_65 rfl f_X7_51 (by decide) rfl rfl rfl ?_
    refine g_iload_n 69 dX7_look_68 rfl rfl ?_
    refine g_iconst 70 3 dX7_look_69 rfl (by decide) ?_
    refine g_isub 71 dX7_look_70 rfl ?_
    refine g_iald 72 dX7_look_71 rfl (by decide) rfl (by rw [show nI (k + 3) - 3 = nI k from pk_sub (a := k + 3) (b := 3) (by omega)]; exact vp_in_nI hk (by omega)) ?_
    rw [show nI (k + 3) - 3 = nI k from pk_sub (a := k + 3) (b := 3) (by omega), nI_clamp (show k < 2 ^ 31 by omega)]
    refine g_goto 76 dX7_look_72 (by decide) ?_
    exact g_ri dX7_look_76 rfl rfl ⟨rfl, rfl, rfl⟩
set_option maxRecDepth 100000 in
set_option maxHeartbeats 4000000 in
theorem c_look_n {k : Int32} (h : ¬ q_in k 0 7) : q_Ct C l FX7_look 1 142 142 [.ref (q_a C 0), .int k] μ (q_ρ b) (q_is (-1) μ (q_ρ b)) := by
  refine q_entry rfl (by decide) (Nat.le_of_ble_eq_true rfl) ?_
  refine g_lv [(0, _), (1, _)] rfl ?_
  refine g_iload_n 1 dX7_look_0 rfl rfl ?_
  have h9 : k.toInt < 0 ∨ 2 < k.toInt := by
    have e1 : q_in k 0 7 ↔ ((0 : Int32).toInt ≤ k.toInt ∧ k.toInt ≤ (7 : Int32).toInt) := by simp only [q_in, Int32.le_iff_toInt_le]
    rw [e1] at h
    have e2 : (0 : Int32).toInt = 0 := rfl
    have e3 : (7 : Int32).toInt = 7 := rfl
    omega
  refine g_tabOut 54 dX7_look_1 h9 (by decide) ?_
  refine g_iload_n 55 dX7_look_54 rfl rfl ?_
  refine g_iconst 56 3 dX7_look_55 rfl (by decide) ?_
  refine g_bipush 58 7 dX7_look_56 rfl (by decide) ?_
  refine g_Si 61 [_, _, _] _ dX7_look_58 rfl m_X7_within l_X7_73 rfl (c_within _ _ _) rfl (Nat.le_of_ble_eq_true rfl) (by decide) (fun v58 μ58 ρ58 hc9 => ?_)
  obtain ⟨rfl, rfl, rfl⟩ := hc9
  refine g_if_eq 75 64 dX7_look_61 rfl (by decide) (fun h61 => ?_) (fun h61 => ?_)
  · refine g_iconst 76 (-1) dX7_look_75 rfl (by decide) ?_
    exact g_ri dX7_look_76 rfl rfl ⟨rfl, rfl, rfl⟩
  · exact (h ⟨Int32.le_trans (by decide) (q_b_n.mp h61).1, (q_b_n.mp h61).2⟩).elim
set_option maxRecDepth 100000 in
set_option maxHeartbeats 4000000 in
theorem c_look_1t  : q_Ct C l FX7_look 1 142 142 [.ref (q_a C 0), .int 1] μ (q_ρ true) (q_is (μ 96 4) μ (q_ρ true)) := by
  refine q_entry rfl (by decide) (Nat.le_of_ble_eq_true rfl) ?_
  refine g_lv [(0, _), (1, _)] rfl ?_
  refine g_iload_n 1 dX7_look_0 rfl rfl ?_
  refine g_tabIn 36 dX7_look_1 (by decide) (by decide) rfl (by decide) ?_
  refine g_aload_n 37 dX7_look_36 rfl rfl ?_
  refine g_getR 40 96 dX7_look_37 rfl f_X7_58 (by decide) rfl rfl rfl ?_
  refine g_getI 43 dX7_look_40 rfl f_X7_121 (by decide) rfl rfl ?_
  exact g_ri dX7_look_43 rfl rfl ⟨rfl, rfl, rfl⟩
set_option maxRecDepth 100000 in
set_option maxHeartbeats 4000000 in
theorem c_look_1f  : q_Ct C l FX7_look 1 142 142 [.ref (q_a C 0), .int 1] μ (q_ρ false) (q_is (μ 70 4) μ (q_ρ false)) := by
  refine q_entry rfl (by decide) (Nat.le_of_ble_eq_true rfl) ?_
  refine g_lv [(0, _), (1, _)] rfl ?_
  refine g_iload_n 1 dX7_look_0 rfl rfl ?_
  refine g_tabIn 36 dX7_look_1 (by decide) (by decide) rfl (by decide) ?_
  refine g_aload_n 37 dX7_look_36 rfl rfl ?_
  refine g_getR 40 70 dX7_look_37 rfl f_X7_58 (by decide) rfl rfl rfl ?_
  refine g_getI 43 dX7_look_40 rfl f_X7_121 (by decide) rfl rfl ?_
  exact g_ri dX7_look_43 rfl rfl ⟨rfl, rfl, rfl⟩
end TL
