/-! ===== what is told: the reference ===== -/
section MT
variable {C : q_C} {l : Launch} {μ : q_M} {b : Bool}
set_option maxRecDepth 100000 in
set_option maxHeartbeats 4000000 in
theorem lp_Mcamp {j m : Nat} {far : Int32} (hm : m ≤ 10) (hc : μ 122 0 = nI m) : ∀ k i, i + k = m → q_G C l FX8_camp 2 142 142 (q_is 1 (q_fg μ 126 127 (nI j) far m) (q_ρ b)) 142 (q_fg μ 126 127 (nI j) far i) (q_ρ b) [(0, .ref (q_a C 122)), (1, .int (nI (j + 1))), (2, .int far), (3, .int (nI i))] [] 29 := by
  intro k
  induction k with
  | zero =>
    intro i hi
    refine g_iload_n 30 dX8_camp_29 rfl rfl ?_
    refine g_aload_n 31 dX8_camp_30 rfl rfl ?_
    refine g_getI 34 dX8_camp_31 rfl f_X8_75 (by decide) rfl rfl ?_
    rw [q_fg_o (by decide), hc]
    refine g_icmp_ge 72 37 dX8_camp_34 rfl (by decide) (fun h34 => ?_) (fun h34 => ?_)
    · refine g_iconst 73 1 dX8_camp_72 rfl (by decide) ?_
      exact g_rz dX8_camp_73 rfl (by first | exact Or.inl rfl | exact Or.inr rfl | assumption) rfl ⟨rfl, by rw [show i = m by omega], rfl⟩
    · exact absurd (nI_le (by omega) (by omega)) h34
  | succ k ih =>
    intro i hi
    refine g_iload_n 30 dX8_camp_29 rfl rfl ?_
    refine g_aload_n 31 dX8_camp_30 rfl rfl ?_
    refine g_getI 34 dX8_camp_31 rfl f_X8_75 (by decide) rfl rfl ?_
    rw [q_fg_o (by decide), hc]
    refine g_icmp_ge 72 37 dX8_camp_34 rfl (by decide) (fun h34 => ?_) (fun h34 => ?_)
    · exact absurd h34 (nI_ge (by omega) (by omega))
    · refine g_aload_n 38 dX8_camp_37 rfl rfl ?_
      refine g_getR 41 _ dX8_camp_38 rfl f_X8_19 (by decide) rfl rfl rfl ?_
      refine g_iload_n 42 dX8_camp_41 rfl rfl ?_
      refine g_iald 43 dX8_camp_42 rfl (by decide) rfl (vp_in_nI (by omega) (by omega)) ?_
      rw [nI_clamp (show i < 2 ^ 31 by omega)]
      refine g_iload_n 44 dX8_camp_43 rfl rfl ?_
      refine g_iconst 45 1 dX8_camp_44 rfl (by decide) ?_
      refine g_isub 46 dX8_camp_45 rfl ?_
      rw [nI_pred]
      refine g_icmp_ne 66 49 dX8_camp_46 rfl (by decide) (fun h46 => ?_) (fun h46 => ?_)
      · refine g_iinc 69 (_ + 1) dX8_camp_66 rfl rfl rfl (by decide) ?_
        refine g_goto 29 dX8_camp_69 (by decide) ?_
        rw [q_fg_n (i := i) (fun q => h46 (by rw [q_fg_at]; exact q.1))]
        rw [nI_1]
        refine g_lv [(0, _), (1, _), (2, _), (3, _)] rfl ?_
        exact ih (i + 1) (by omega)
      · refine g_aload_n 50 dX8_camp_49 rfl rfl ?_
        refine g_getR 53 _ dX8_camp_50 rfl f_X8_22 (by decide) rfl rfl rfl ?_
        refine g_iload_n 54 dX8_camp_53 rfl rfl ?_
        refine g_iald 55 dX8_camp_54 rfl (by decide) rfl (vp_in_nI (by omega) (by omega)) ?_
        rw [nI_clamp (show i < 2 ^ 31 by omega)]
        refine g_iload_n 56 dX8_camp_55 rfl rfl ?_
        refine g_icmp_lt 66 59 dX8_camp_56 rfl (by decide) (fun h56 => ?_) (fun h56 => ?_)
        · refine g_iinc 69 (_ + 1) dX8_camp_66 rfl rfl rfl (by decide) ?_
          refine g_goto 29 dX8_camp_69 (by decide) ?_
          rw [q_fg_n (i := i) (fun q => absurd h56 (Int32.not_lt.mpr (by rw [q_fg_o (by decide)]; exact q.2)))]
          rw [nI_1]
          refine g_lv [(0, _), (1, _), (2, _), (3, _)] rfl ?_
          exact ih (i + 1) (by omega)
        · refine g_aload_n 60 dX8_camp_59 rfl rfl ?_
          refine g_getR 63 _ dX8_camp_60 rfl f_X8_19 (by decide) rfl rfl rfl ?_
          refine g_iload_n 64 dX8_camp_63 rfl rfl ?_
          refine g_iconst 65 (-1) dX8_camp_64 rfl (by decide) ?_
          refine g_iast 66 dX8_camp_65 rfl (by decide) rfl (vp_in_nI (by omega) (by omega)) ?_
          rw [nI_clamp (show i < 2 ^ 31 by omega)]
          refine g_iinc 69 (_ + 1) dX8_camp_66 rfl rfl rfl (by decide) ?_
          refine g_goto 29 dX8_camp_69 (by decide) ?_
          rw [q_fg_y (by rw [q_fg_at] at h46; exact h46) (by rw [q_fg_o (by decide)] at h56; exact Int32.not_lt.mp h56)]
          rw [nI_1]
          refine g_lv [(0, _), (1, _), (2, _), (3, _)] rfl ?_
          exact ih (i + 1) (by omega)
set_option maxRecDepth 100000 in
set_option maxHeartbeats 4000000 in
theorem c_Mcamp_y {j m : Nat} {far : Int32} (hj : j < 7) (hf : q_in far 1 900) (hm : m ≤ 10) (hc : μ 122 0 = nI m) : q_Ct C l FX8_camp 2 142 142 [.ref (q_a C 122), .int (nI (j + 1)), .int far] μ (q_ρ b) (q_is 1 (q_fg (q_up μ 123 (j + 1) far) 126 127 (nI j) far m) (q_ρ b)) := by
  refine q_entry rfl (by decide) (Nat.le_of_ble_eq_true rfl) ?_
  refine g_lv [(0, _), (1, _), (2, _)] rfl ?_
  refine g_iload_n 1 dX8_camp_0 rfl rfl ?_
  refine g_Si 4 [_] _ dX8_camp_1 rfl m_X8_isCamp l_X8_78 rfl (c_MisCamp _) rfl (Nat.le_of_ble_eq_true rfl) (by decide) (fun v1 μ1 ρ1 hc9 => ?_)
  obtain ⟨rfl, rfl, rfl⟩ := hc9
  refine g_if_eq 18 7 dX8_camp_4 rfl (by decide) (fun h4 => ?_) (fun h4 => ?_)
  · exact (q_b_0.mp h4 (q_campI hj)).elim
  · refine g_iload_n 8 dX8_camp_7 rfl rfl ?_
    refine g_iconst 9 1 dX8_camp_8 rfl (by decide) ?_
    refine g_sipush 12 900 dX8_camp_9 rfl (by decide) ?_
    refine g_Si 15 [_, _, _] _ dX8_camp_12 rfl m_X8_isIn l_X8_71 rfl (c_isIn _ _ _) rfl (Nat.le_of_ble_eq_true rfl) (by decide) (fun v12 μ12 ρ12 hc9 => ?_)
    obtain ⟨rfl, rfl, rfl⟩ := hc9
    refine g_if_ne 20 18 dX8_camp_15 rfl (by decide) (fun h15 => ?_) (fun h15 => ?_)
    · refine g_aload_n 21 dX8_camp_20 rfl rfl ?_
      refine g_getR 24 _ dX8_camp_21 rfl f_X8_7 (by decide) rfl rfl rfl ?_
      refine g_iload_n 25 dX8_camp_24 rfl rfl ?_
      refine g_iload_n 26 dX8_camp_25 rfl rfl ?_
      refine g_iast 27 dX8_camp_26 rfl (by decide) rfl (vp_in_nI (show j + 1 < 8 by omega) (by omega)) ?_
      rw [nI_clamp (show j + 1 < 2 ^ 31 by omega)]
      refine g_iconst 28 0 dX8_camp_27 rfl (by decide) ?_
      refine g_istore_n 29 dX8_camp_28 rfl (by decide) ?_
      refine g_lv [(0, _), (1, _), (2, _), (3, .int 0)] rfl ?_
      have h9 := lp_Mcamp (C := C) (l := l) (b := b) (μ := q_up μ 123 (j + 1) far) (j := j) (far := far) hm (by rw [q_upc (by decide)]; exact hc) m 0 (by omega)
      rw [q_fg_0] at h9
      exact h9
    · exact (q_b_0.mp h15 hf).elim
set_option maxRecDepth 100000 in
set_option maxHeartbeats 4000000 in
theorem c_Mcamp_n {c far : Int32} (h : ¬ (q_in c 1 7 ∧ q_in far 1 900)) : q_Ct C l FX8_camp 2 142 142 [.ref (q_a C 122), .int c, .int far] μ (q_ρ b) (q_is 0 μ (q_ρ b)) := by
  refine q_entry rfl (by decide) (Nat.le_of_ble_eq_true rfl) ?_
  refine g_lv [(0, _), (1, _), (2, _)] rfl ?_
  refine g_iload_n 1 dX8_camp_0 rfl rfl ?_
  refine g_Si 4 [_] _ dX8_camp_1 rfl m_X8_isCamp l_X8_78 rfl (c_MisCamp _) rfl (Nat.le_of_ble_eq_true rfl) (by decide) (fun v1 μ1 ρ1 hc9 => ?_)
  obtain ⟨rfl, rfl, rfl⟩ := hc9
  refine g_if_eq 18 7 dX8_camp_4 rfl (by decide) (fun h4 => ?_) (fun h4 => ?_)
  · refine g_iconst 19 0 dX8_camp_18 rfl (by decide) ?_
    exact g_rz dX8_camp_19 rfl (by first | exact Or.inl rfl | exact Or.inr rfl | assumption) rfl ⟨rfl, rfl, rfl⟩
  · refine g_iload_n 8 dX8_camp_7 rfl rfl ?_
    refine g_iconst 9 1 dX8_camp_8 rfl (by decide) ?_
    refine g_sipush 12 900 dX8_camp_9 rfl (by decide) ?_
    refine g_Si 15 [_, _, _] _ dX8_camp_12 rfl m_X8_isIn l_X8_71 rfl (c_isIn _ _ _) rfl (Nat.le_of_ble_eq_true rfl) (by decide) (fun v12 μ12 ρ12 hc9 => ?_)
    obtain ⟨rfl, rfl, rfl⟩ := hc9
    refine g_if_ne 20 18 dX8_camp_15 rfl (by decide) (fun h15 => ?_) (fun h15 => ?_)
    · exact (h ⟨q_b_n.mp h4, q_b_n.mp h15⟩).elim
    · refine g_iconst 19 0 dX8_camp_18 rfl (by decide) ?_
      exact g_rz dX8_camp_19 rfl (by first | exact Or.inl rfl | exact Or.inr rfl | assumption) rfl ⟨rfl, rfl, rfl⟩
set_option maxRecDepth 100000 in
set_option maxHeartbeats 4000000 in
theorem c_Mhour_y {j : Nat} {h : Int32} (hj : j < 7) (hf : q_in h 0 23) : q_Ct C l FX8_hour 2 142 142 [.ref (q_a C 122), .int (nI j), .int h] μ (q_ρ b) (q_is 1 (q_up μ 124 j h) (q_ρ b)) := by
  refine q_entry rfl (by decide) (Nat.le_of_ble_eq_true rfl) ?_
  refine g_lv [(0, _), (1, _), (2, _)] rfl ?_
  refine g_iload_n 1 dX8_hour_0 rfl rfl ?_
  refine g_Si 4 [_] _ dX8_hour_1 rfl m_X8_isStage l_X8_82 rfl (c_MisStage _) rfl (Nat.le_of_ble_eq_true rfl) (by decide) (fun v1 μ1 ρ1 hc9 => ?_)
  obtain ⟨rfl, rfl, rfl⟩ := hc9
  refine g_if_eq 17 7 dX8_hour_4 rfl (by decide) (fun h4 => ?_) (fun h4 => ?_)
  · exact (q_b_0.mp h4 (q_stageI hj)).elim
  · refine g_iload_n 8 dX8_hour_7 rfl rfl ?_
    refine g_iconst 9 0 dX8_hour_8 rfl (by decide) ?_
    refine g_bipush 11 23 dX8_hour_9 rfl (by decide) ?_
    refine g_Si 14 [_, _, _] _ dX8_hour_11 rfl m_X8_isIn l_X8_71 rfl (c_isIn _ _ _) rfl (Nat.le_of_ble_eq_true rfl) (by decide) (fun v11 μ11 ρ11 hc9 => ?_)
    obtain ⟨rfl, rfl, rfl⟩ := hc9
    refine g_if_ne 19 17 dX8_hour_14 rfl (by decide) (fun h14 => ?_) (fun h14 => ?_)
    · refine g_aload_n 20 dX8_hour_19 rfl rfl ?_
      refine g_getR 23 _ dX8_hour_20 rfl f_X8_13 (by decide) rfl rfl rfl ?_
      refine g_iload_n 24 dX8_hour_23 rfl rfl ?_
      refine g_iload_n 25 dX8_hour_24 rfl rfl ?_
      refine g_iast 26 dX8_hour_25 rfl (by decide) rfl (vp_in_nI hj (by omega)) ?_
      rw [nI_clamp (show j < 2 ^ 31 by omega)]
      refine g_iconst 27 1 dX8_hour_26 rfl (by decide) ?_
      exact g_rz dX8_hour_27 rfl (by first | exact Or.inl rfl | exact Or.inr rfl | assumption) rfl ⟨rfl, rfl, rfl⟩
    · exact (q_b_0.mp h14 hf).elim
set_option maxRecDepth 100000 in
set_option maxHeartbeats 4000000 in
theorem c_Mhour_n {c far : Int32} (h : ¬ (q_in c 0 6 ∧ q_in far 0 23)) : q_Ct C l FX8_hour 2 142 142 [.ref (q_a C 122), .int c, .int far] μ (q_ρ b) (q_is 0 μ (q_ρ b)) := by
  refine q_entry rfl (by decide) (Nat.le_of_ble_eq_true rfl) ?_
  refine g_lv [(0, _), (1, _), (2, _)] rfl ?_
  refine g_iload_n 1 dX8_hour_0 rfl rfl ?_
  refine g_Si 4 [_] _ dX8_hour_1 rfl m_X8_isStage l_X8_82 rfl (c_MisStage _) rfl (Nat.le_of_ble_eq_true rfl) (by decide) (fun v1 μ1 ρ1 hc9 => ?_)
  obtain ⟨rfl, rfl, rfl⟩ := hc9
  refine g_if_eq 17 7 dX8_hour_4 rfl (by decide) (fun h4 => ?_) (fun h4 => ?_)
  · refine g_iconst 18 0 dX8_hour_17 rfl (by decide) ?_
    exact g_rz dX8_hour_18 rfl (by first | exact Or.inl rfl | exact Or.inr rfl | assumption) rfl ⟨rfl, rfl, rfl⟩
  · refine g_iload_n 8 dX8_hour_7 rfl rfl ?_
    refine g_iconst 9 0 dX8_hour_8 rfl (by decide) ?_
    refine g_bipush 11 23 dX8_hour_9 rfl (by decide) ?_
    refine g_Si 14 [_, _, _] _ dX8_hour_11 rfl m_X8_isIn l_X8_71 rfl (c_isIn _ _ _) rfl (Nat.le_of_ble_eq_true rfl) (by decide) (fun v11 μ11 ρ11 hc9 => ?_)
    obtain ⟨rfl, rfl, rfl⟩ := hc9
    refine g_if_ne 19 17 dX8_hour_14 rfl (by decide) (fun h14 => ?_) (fun h14 => ?_)
    · exact (h ⟨q_b_n.mp h4, q_b_n.mp h14⟩).elim
    · refine g_iconst 18 0 dX8_hour_17 rfl (by decide) ?_
      exact g_rz dX8_hour_18 rfl (by first | exact Or.inl rfl | exact Or.inr rfl | assumption) rfl ⟨rfl, rfl, rfl⟩
set_option maxRecDepth 100000 in
set_option maxHeartbeats 4000000 in
theorem c_Mracer_y {m : Nat} {s : Int32} (hs : q_in s 10 120) (hm : m < 10) (hc : μ 122 0 = nI m) : q_Ct C l FX8_racer 1 142 142 [.ref (q_a C 122), .int s] μ (q_ρ b) (q_is (nI m) (q_up (q_up (q_up μ 125 m s) 126 m (-1)) 122 0 (nI (m + 1))) (q_ρ b)) := by
  refine q_entry rfl (by decide) (Nat.le_of_ble_eq_true rfl) ?_
  refine g_lv [(0, _), (1, _)] rfl ?_
  refine g_iload_n 1 dX8_racer_0 rfl rfl ?_
  refine g_bipush 3 10 dX8_racer_1 rfl (by decide) ?_
  refine g_bipush 5 120 dX8_racer_3 rfl (by decide) ?_
  refine g_Si 8 [_, _, _] _ dX8_racer_5 rfl m_X8_isIn l_X8_71 rfl (c_isIn _ _ _) rfl (Nat.le_of_ble_eq_true rfl) (by decide) (fun v5 μ5 ρ5 hc9 => ?_)
  obtain ⟨rfl, rfl, rfl⟩ := hc9
  refine g_if_eq 20 11 dX8_racer_8 rfl (by decide) (fun h8 => ?_) (fun h8 => ?_)
  · exact (q_b_0.mp h8 hs).elim
  · refine g_aload_n 12 dX8_racer_11 rfl rfl ?_
    refine g_getI 15 dX8_racer_12 rfl f_X8_75 (by decide) rfl rfl ?_
    rw [hc]
    refine g_bipush 17 10 dX8_racer_15 rfl (by decide) ?_
    refine g_icmp_ne 22 20 dX8_racer_17 rfl (by decide) (fun h17 => ?_) (fun h17 => ?_)
    · refine g_aload_n 23 dX8_racer_22 rfl rfl ?_
      refine g_getR 26 _ dX8_racer_23 rfl f_X8_16 (by decide) rfl rfl rfl ?_
      refine g_aload_n 27 dX8_racer_26 rfl rfl ?_
      refine g_getI 30 dX8_racer_27 rfl f_X8_75 (by decide) rfl rfl ?_
      rw [hc]
      refine g_iload_n 31 dX8_racer_30 rfl rfl ?_
      refine g_iast 32 dX8_racer_31 rfl (by decide) rfl (vp_in_nI hm (by omega)) ?_
      rw [nI_clamp (show m < 2 ^ 31 by omega)]
      refine g_aload_n 33 dX8_racer_32 rfl rfl ?_
      refine g_getR 36 _ dX8_racer_33 rfl f_X8_19 (by decide) rfl rfl rfl ?_
      refine g_aload_n 37 dX8_racer_36 rfl rfl ?_
      refine g_getI 40 dX8_racer_37 rfl f_X8_75 (by decide) rfl rfl ?_
      rw [q_upc (by decide), hc]
      refine g_iconst 41 (-1) dX8_racer_40 rfl (by decide) ?_
      refine g_iast 42 dX8_racer_41 rfl (by decide) rfl (vp_in_nI hm (by omega)) ?_
      rw [nI_clamp (show m < 2 ^ 31 by omega)]
      refine g_aload_n 43 dX8_racer_42 rfl rfl ?_
      refine g_dup 44 dX8_racer_43 rfl rfl ?_
      refine g_getI 47 dX8_racer_44 rfl f_X8_75 (by decide) rfl rfl ?_
      rw [q_upc (by decide), q_upc (by decide), hc]
      refine g_iconst 48 1 dX8_racer_47 rfl (by decide) ?_
      refine g_iadd 49 dX8_racer_48 rfl ?_
      rw [nI_1]
      refine g_putI 52 dX8_racer_49 rfl f_X8_75 (by decide) rfl rfl (Or.inl rfl) ?_
      refine g_aload_n 53 dX8_racer_52 rfl rfl ?_
      refine g_getI 56 dX8_racer_53 rfl f_X8_75 (by decide) rfl rfl ?_
      rw [q_ups]
      refine g_iconst 57 1 dX8_racer_56 rfl (by decide) ?_
      refine g_isub 58 dX8_racer_57 rfl ?_
      rw [nI_pred]
      exact g_ri dX8_racer_58 rfl rfl ⟨rfl, rfl, rfl⟩
    · exact absurd ((nI_eq (a := m) (b := 10) (by omega) (by omega)).mp h17) (by omega)
set_option maxRecDepth 100000 in
set_option maxHeartbeats 4000000 in
theorem c_Mracer_f {s : Int32} (hs : q_in s 10 120) (hc : μ 122 0 = nI 10) : q_Ct C l FX8_racer 1 142 142 [.ref (q_a C 122), .int s] μ (q_ρ b) (q_is (-1) μ (q_ρ b)) := by
  refine q_entry rfl (by decide) (Nat.le_of_ble_eq_true rfl) ?_
  refine g_lv [(0, _), (1, _)] rfl ?_
  refine g_iload_n 1 dX8_racer_0 rfl rfl ?_
  refine g_bipush 3 10 dX8_racer_1 rfl (by decide) ?_
  refine g_bipush 5 120 dX8_racer_3 rfl (by decide) ?_
  refine g_Si 8 [_, _, _] _ dX8_racer_5 rfl m_X8_isIn l_X8_71 rfl (c_isIn _ _ _) rfl (Nat.le_of_ble_eq_true rfl) (by decide) (fun v5 μ5 ρ5 hc9 => ?_)
  obtain ⟨rfl, rfl, rfl⟩ := hc9
  refine g_if_eq 20 11 dX8_racer_8 rfl (by decide) (fun h8 => ?_) (fun h8 => ?_)
  · exact (q_b_0.mp h8 hs).elim
  · refine g_aload_n 12 dX8_racer_11 rfl rfl ?_
    refine g_getI 15 dX8_racer_12 rfl f_X8_75 (by decide) rfl rfl ?_
    rw [hc]
    refine g_bipush 17 10 dX8_racer_15 rfl (by decide) ?_
    refine g_icmp_ne 22 20 dX8_racer_17 rfl (by decide) (fun h17 => ?_) (fun h17 => ?_)
    · exact absurd rfl h17
    · refine g_iconst 21 (-1) dX8_racer_20 rfl (by decide) ?_
      exact g_ri dX8_racer_21 rfl rfl ⟨rfl, rfl, rfl⟩
set_option maxRecDepth 100000 in
set_option maxHeartbeats 4000000 in
theorem c_Mracer_n {s : Int32} (hs : ¬ q_in s 10 120) : q_Ct C l FX8_racer 1 142 142 [.ref (q_a C 122), .int s] μ (q_ρ b) (q_is (-1) μ (q_ρ b)) := by
  refine q_entry rfl (by decide) (Nat.le_of_ble_eq_true rfl) ?_
  refine g_lv [(0, _), (1, _)] rfl ?_
  refine g_iload_n 1 dX8_racer_0 rfl rfl ?_
  refine g_bipush 3 10 dX8_racer_1 rfl (by decide) ?_
  refine g_bipush 5 120 dX8_racer_3 rfl (by decide) ?_
  refine g_Si 8 [_, _, _] _ dX8_racer_5 rfl m_X8_isIn l_X8_71 rfl (c_isIn _ _ _) rfl (Nat.le_of_ble_eq_true rfl) (by decide) (fun v5 μ5 ρ5 hc9 => ?_)
  obtain ⟨rfl, rfl, rfl⟩ := hc9
  refine g_if_eq 20 11 dX8_racer_8 rfl (by decide) (fun h8 => ?_) (fun h8 => ?_)
  · refine g_iconst 21 (-1) dX8_racer_20 rfl (by decide) ?_
    exact g_ri dX8_racer_21 rfl rfl ⟨rfl, rfl, rfl⟩
  · exact (hs (q_b_n.mp h8)).elim
set_option maxRecDepth 100000 in
set_option maxHeartbeats 4000000 in
theorem c_Mbreaks_0 {r m : Nat} {a : Int32} (hr : r < m) (hm : m ≤ 10) (hc : μ 122 0 = nI m) : q_Ct C l FX8_breaks 2 142 142 [.ref (q_a C 122), .int (nI r), .int (-1), .int a] μ (q_ρ b) (q_is 1 (q_up (q_up μ 126 r (-1)) 127 r a) (q_ρ b)) := by
  refine q_entry rfl (by decide) (Nat.le_of_ble_eq_true rfl) ?_
  refine g_lv [(0, _), (1, _), (2, _), (3, _)] rfl ?_
  refine g_aload_n 1 dX8_breaks_0 rfl rfl ?_
  refine g_iload_n 2 dX8_breaks_1 rfl rfl ?_
  refine g_Vi 5 [_] _ dX8_breaks_2 rfl m_X8_isRacer l_X8_85 rfl rfl rfl (by decide) (c_MisRacer _) rfl (Nat.le_of_ble_eq_true rfl) (by decide) (fun v2 μ2 ρ2 hc9 => ?_)
  obtain ⟨rfl, rfl, rfl⟩ := hc9
  refine g_if_eq 35 8 dX8_breaks_5 rfl (by decide) (fun h5 => ?_) (fun h5 => ?_)
  · exact (q_b_0.mp h5 (by rw [hc]; exact q_rin hr hm)).elim
  · refine g_iload_n 9 dX8_breaks_8 rfl rfl ?_
    refine g_iconst 10 (-1) dX8_breaks_9 rfl (by decide) ?_
    refine g_icmp_eq 37 13 dX8_breaks_10 rfl (by decide) (fun h10 => ?_) (fun h10 => ?_)
    · refine g_aload_n 38 dX8_breaks_37 rfl rfl ?_
      refine g_getR 41 _ dX8_breaks_38 rfl f_X8_19 (by decide) rfl rfl rfl ?_
      refine g_iload_n 42 dX8_breaks_41 rfl rfl ?_
      refine g_iload_n 43 dX8_breaks_42 rfl rfl ?_
      refine g_iast 44 dX8_breaks_43 rfl (by decide) rfl (vp_in_nI (show r < 10 by omega) (by omega)) ?_
      rw [nI_clamp (show r < 2 ^ 31 by omega)]
      refine g_aload_n 45 dX8_breaks_44 rfl rfl ?_
      refine g_getR 48 _ dX8_breaks_45 rfl f_X8_22 (by decide) rfl rfl rfl ?_
      refine g_iload_n 49 dX8_breaks_48 rfl rfl ?_
      refine g_iload_n 50 dX8_breaks_49 rfl rfl ?_
      refine g_iast 51 dX8_breaks_50 rfl (by decide) rfl (vp_in_nI (show r < 10 by omega) (by omega)) ?_
      rw [nI_clamp (show r < 2 ^ 31 by omega)]
      refine g_iconst 52 1 dX8_breaks_51 rfl (by decide) ?_
      exact g_rz dX8_breaks_52 rfl (by first | exact Or.inl rfl | exact Or.inr rfl | assumption) rfl ⟨rfl, rfl, rfl⟩
    · exact absurd rfl h10
set_option maxRecDepth 100000 in
set_option maxHeartbeats 4000000 in
theorem c_Mbreaks_y {r m j : Nat} {a : Int32} (hr : r < m) (hm : m ≤ 10) (hc : μ 122 0 = nI m) (hj : j < 7) (ha : q_in a 0 (μ 123 (j + 1) - 1)) : q_Ct C l FX8_breaks 2 142 142 [.ref (q_a C 122), .int (nI r), .int (nI j), .int a] μ (q_ρ b) (q_is 1 (q_up (q_up μ 126 r (nI j)) 127 r a) (q_ρ b)) := by
  refine q_entry rfl (by decide) (Nat.le_of_ble_eq_true rfl) ?_
  refine g_lv [(0, _), (1, _), (2, _), (3, _)] rfl ?_
  refine g_aload_n 1 dX8_breaks_0 rfl rfl ?_
  refine g_iload_n 2 dX8_breaks_1 rfl rfl ?_
  refine g_Vi 5 [_] _ dX8_breaks_2 rfl m_X8_isRacer l_X8_85 rfl rfl rfl (by decide) (c_MisRacer _) rfl (Nat.le_of_ble_eq_true rfl) (by decide) (fun v2 μ2 ρ2 hc9 => ?_)
  obtain ⟨rfl, rfl, rfl⟩ := hc9
  refine g_if_eq 35 8 dX8_breaks_5 rfl (by decide) (fun h5 => ?_) (fun h5 => ?_)
  · exact (q_b_0.mp h5 (by rw [hc]; exact q_rin hr hm)).elim
  · refine g_iload_n 9 dX8_breaks_8 rfl rfl ?_
    refine g_iconst 10 (-1) dX8_breaks_9 rfl (by decide) ?_
    refine g_icmp_eq 37 13 dX8_breaks_10 rfl (by decide) (fun h10 => ?_) (fun h10 => ?_)
    · exact absurd (nI_pos' (show j < 2 ^ 31 by omega)) (by rw [h10]; decide)
    · refine g_iload_n 14 dX8_breaks_13 rfl rfl ?_
      refine g_Si 17 [_] _ dX8_breaks_14 rfl m_X8_isStage l_X8_82 rfl (c_MisStage _) rfl (Nat.le_of_ble_eq_true rfl) (by decide) (fun v14 μ14 ρ14 hc9 => ?_)
      obtain ⟨rfl, rfl, rfl⟩ := hc9
      refine g_if_eq 35 20 dX8_breaks_17 rfl (by decide) (fun h17 => ?_) (fun h17 => ?_)
      · exact (q_b_0.mp h17 (q_stageI hj)).elim
      · refine g_iload_n 21 dX8_breaks_20 rfl rfl ?_
        refine g_iconst 22 0 dX8_breaks_21 rfl (by decide) ?_
        refine g_aload_n 23 dX8_breaks_22 rfl rfl ?_
        refine g_iload_n 24 dX8_breaks_23 rfl rfl ?_
        refine g_Vi 27 [_] _ dX8_breaks_24 rfl m_X8_length l_X8_88 rfl rfl rfl (by decide) (c_Mlength _ (by rw [nI_1]; exact vp_in_nI (by omega) (by omega))) rfl (Nat.le_of_ble_eq_true rfl) (by decide) (fun v24 μ24 ρ24 hc9 => ?_)
        obtain ⟨rfl, rfl, rfl⟩ := hc9
        rw [nI_1, nI_clamp (show j + 1 < 2 ^ 31 by omega)]
        refine g_iconst 28 1 dX8_breaks_27 rfl (by decide) ?_
        refine g_isub 29 dX8_breaks_28 rfl ?_
        refine g_Si 32 [_, _, _] _ dX8_breaks_29 rfl m_X8_isIn l_X8_71 rfl (c_isIn _ _ _) rfl (Nat.le_of_ble_eq_true rfl) (by decide) (fun v29 μ29 ρ29 hc9 => ?_)
        obtain ⟨rfl, rfl, rfl⟩ := hc9
        refine g_if_ne 37 35 dX8_breaks_32 rfl (by decide) (fun h32 => ?_) (fun h32 => ?_)
        · refine g_aload_n 38 dX8_breaks_37 rfl rfl ?_
          refine g_getR 41 _ dX8_breaks_38 rfl f_X8_19 (by decide) rfl rfl rfl ?_
          refine g_iload_n 42 dX8_breaks_41 rfl rfl ?_
          refine g_iload_n 43 dX8_breaks_42 rfl rfl ?_
          refine g_iast 44 dX8_breaks_43 rfl (by decide) rfl (vp_in_nI (show r < 10 by omega) (by omega)) ?_
          rw [nI_clamp (show r < 2 ^ 31 by omega)]
          refine g_aload_n 45 dX8_breaks_44 rfl rfl ?_
          refine g_getR 48 _ dX8_breaks_45 rfl f_X8_22 (by decide) rfl rfl rfl ?_
          refine g_iload_n 49 dX8_breaks_48 rfl rfl ?_
          refine g_iload_n 50 dX8_breaks_49 rfl rfl ?_
          refine g_iast 51 dX8_breaks_50 rfl (by decide) rfl (vp_in_nI (show r < 10 by omega) (by omega)) ?_
          rw [nI_clamp (show r < 2 ^ 31 by omega)]
          refine g_iconst 52 1 dX8_breaks_51 rfl (by decide) ?_
          exact g_rz dX8_breaks_52 rfl (by first | exact Or.inl rfl | exact Or.inr rfl | assumption) rfl ⟨rfl, rfl, rfl⟩
        · exact (q_b_0.mp h32 ha).elim
theorem q_st1 {i : Int32} (h : q_in i 0 6) : vp_in (i + 1) 8 := by
  obtain ⟨j, hj, rfl⟩ := q_stage h
  rw [nI_1]
  exact vp_in_nI (by omega) (by omega)
set_option maxRecDepth 100000 in
set_option maxHeartbeats 4000000 in
theorem c_Mbreaks_n {r i a : Int32} (h : ¬ (q_in r 0 (μ 122 0 - 1) ∧ (i = -1 ∨ (q_in i 0 6 ∧ q_in a 0 (μ 123 (i + 1).toNatClampNeg - 1))))) : q_Ct C l FX8_breaks 2 142 142 [.ref (q_a C 122), .int r, .int i, .int a] μ (q_ρ b) (q_is 0 μ (q_ρ b)) := by
  refine q_entry rfl (by decide) (Nat.le_of_ble_eq_true rfl) ?_
  refine g_lv [(0, _), (1, _), (2, _), (3, _)] rfl ?_
  refine g_aload_n 1 dX8_breaks_0 rfl rfl ?_
  refine g_iload_n 2 dX8_breaks_1 rfl rfl ?_
  refine g_Vi 5 [_] _ dX8_breaks_2 rfl m_X8_isRacer l_X8_85 rfl rfl rfl (by decide) (c_MisRacer _) rfl (Nat.le_of_ble_eq_true rfl) (by decide) (fun v2 μ2 ρ2 hc9 => ?_)
  obtain ⟨rfl, rfl, rfl⟩ := hc9
  refine g_if_eq 35 8 dX8_breaks_5 rfl (by decide) (fun h5 => ?_) (fun h5 => ?_)
  · refine g_iconst 36 0 dX8_breaks_35 rfl (by decide) ?_
    exact g_rz dX8_breaks_36 rfl (by first | exact Or.inl rfl | exact Or.inr rfl | assumption) rfl ⟨rfl, rfl, rfl⟩
  · refine g_iload_n 9 dX8_breaks_8 rfl rfl ?_
    refine g_iconst 10 (-1) dX8_breaks_9 rfl (by decide) ?_
    refine g_icmp_eq 37 13 dX8_breaks_10 rfl (by decide) (fun h10 => ?_) (fun h10 => ?_)
    · exact (h ⟨q_b_n.mp h5, Or.inl h10⟩).elim
    · refine g_iload_n 14 dX8_breaks_13 rfl rfl ?_
      refine g_Si 17 [_] _ dX8_breaks_14 rfl m_X8_isStage l_X8_82 rfl (c_MisStage _) rfl (Nat.le_of_ble_eq_true rfl) (by decide) (fun v14 μ14 ρ14 hc9 => ?_)
      obtain ⟨rfl, rfl, rfl⟩ := hc9
      refine g_if_eq 35 20 dX8_breaks_17 rfl (by decide) (fun h17 => ?_) (fun h17 => ?_)
      · refine g_iconst 36 0 dX8_breaks_35 rfl (by decide) ?_
        exact g_rz dX8_breaks_36 rfl (by first | exact Or.inl rfl | exact Or.inr rfl | assumption) rfl ⟨rfl, rfl, rfl⟩
      · refine g_iload_n 21 dX8_breaks_20 rfl rfl ?_
        refine g_iconst 22 0 dX8_breaks_21 rfl (by decide) ?_
        refine g_aload_n 23 dX8_breaks_22 rfl rfl ?_
        refine g_iload_n 24 dX8_breaks_23 rfl rfl ?_
        refine g_Vi 27 [_] _ dX8_breaks_24 rfl m_X8_length l_X8_88 rfl rfl rfl (by decide) (c_Mlength _ (q_st1 (q_b_n.mp h17))) rfl (Nat.le_of_ble_eq_true rfl) (by decide) (fun v24 μ24 ρ24 hc9 => ?_)
        obtain ⟨rfl, rfl, rfl⟩ := hc9
        refine g_iconst 28 1 dX8_breaks_27 rfl (by decide) ?_
        refine g_isub 29 dX8_breaks_28 rfl ?_
        refine g_Si 32 [_, _, _] _ dX8_breaks_29 rfl m_X8_isIn l_X8_71 rfl (c_isIn _ _ _) rfl (Nat.le_of_ble_eq_true rfl) (by decide) (fun v29 μ29 ρ29 hc9 => ?_)
        obtain ⟨rfl, rfl, rfl⟩ := hc9
        refine g_if_ne 37 35 dX8_breaks_32 rfl (by decide) (fun h32 => ?_) (fun h32 => ?_)
        · exact (h ⟨q_b_n.mp h5, Or.inr ⟨q_b_n.mp h17, q_b_n.mp h32⟩⟩).elim
        · refine g_iconst 36 0 dX8_breaks_35 rfl (by decide) ?_
          exact g_rz dX8_breaks_36 rfl (by first | exact Or.inl rfl | exact Or.inr rfl | assumption) rfl ⟨rfl, rfl, rfl⟩
set_option maxRecDepth 100000 in
set_option maxHeartbeats 4000000 in
theorem c_Mset_y0 {v : Int32} (hv : q_in v 0 600) : q_Ct C l FX8_set 1 142 142 [.ref (q_a C 122), .int 0, .int v] μ (q_ρ b) (q_is 1 (q_up μ 128 0 v) (q_ρ b)) := by
  refine q_entry rfl (by decide) (Nat.le_of_ble_eq_true rfl) ?_
  refine g_lv [(0, _), (1, _), (2, _)] rfl ?_
  refine g_iload_n 1 dX8_set_0 rfl rfl ?_
  refine g_if_eq 9 4 dX8_set_1 rfl (by decide) (fun h1 => ?_) (fun h1 => ?_)
  · refine g_iload_n 10 dX8_set_9 rfl rfl ?_
    refine g_iconst 11 0 dX8_set_10 rfl (by decide) ?_
    refine g_sipush 14 600 dX8_set_11 rfl (by decide) ?_
    refine g_Si 17 [_, _, _] _ dX8_set_14 rfl m_X8_isIn l_X8_71 rfl (c_isIn _ _ _) rfl (Nat.le_of_ble_eq_true rfl) (by decide) (fun v14 μ14 ρ14 hc9 => ?_)
    obtain ⟨rfl, rfl, rfl⟩ := hc9
    refine g_goto 72 dX8_set_17 (by decide) ?_
    refine g_istore_n 73 dX8_set_72 rfl (by decide) ?_
    refine g_iload_n 74 dX8_set_73 rfl rfl ?_
    refine g_if_eq 84 77 dX8_set_74 rfl (by decide) (fun h74 => ?_) (fun h74 => ?_)
    · exact (q_b_0.mp h74 hv).elim
    · refine g_aload_n 78 dX8_set_77 rfl rfl ?_
      refine g_getR 81 _ dX8_set_78 rfl f_X8_25 (by decide) rfl rfl rfl ?_
      refine g_iload_n 82 dX8_set_81 rfl rfl ?_
      refine g_iload_n 83 dX8_set_82 rfl rfl ?_
      refine g_iast 84 dX8_set_83 rfl (by decide) rfl (vp_in_nI (n := 0) (N := 5) (by decide) (by decide)) ?_
      refine g_iload_n 85 dX8_set_84 rfl rfl ?_
      exact g_rz dX8_set_85 rfl q_b_01 rfl ⟨(q_b_t hv).symm, rfl, rfl⟩
  · exact absurd rfl h1
set_option maxRecDepth 100000 in
set_option maxHeartbeats 4000000 in
theorem c_Mset_n0 {v : Int32} (hv : ¬ q_in v 0 600) : q_Ct C l FX8_set 1 142 142 [.ref (q_a C 122), .int 0, .int v] μ (q_ρ b) (q_is 0 μ (q_ρ b)) := by
  refine q_entry rfl (by decide) (Nat.le_of_ble_eq_true rfl) ?_
  refine g_lv [(0, _), (1, _), (2, _)] rfl ?_
  refine g_iload_n 1 dX8_set_0 rfl rfl ?_
  refine g_if_eq 9 4 dX8_set_1 rfl (by decide) (fun h1 => ?_) (fun h1 => ?_)
  · refine g_iload_n 10 dX8_set_9 rfl rfl ?_
    refine g_iconst 11 0 dX8_set_10 rfl (by decide) ?_
    refine g_sipush 14 600 dX8_set_11 rfl (by decide) ?_
    refine g_Si 17 [_, _, _] _ dX8_set_14 rfl m_X8_isIn l_X8_71 rfl (c_isIn _ _ _) rfl (Nat.le_of_ble_eq_true rfl) (by decide) (fun v14 μ14 ρ14 hc9 => ?_)
    obtain ⟨rfl, rfl, rfl⟩ := hc9
    refine g_goto 72 dX8_set_17 (by decide) ?_
    refine g_istore_n 73 dX8_set_72 rfl (by decide) ?_
    refine g_iload_n 74 dX8_set_73 rfl rfl ?_
    refine g_if_eq 84 77 dX8_set_74 rfl (by decide) (fun h74 => ?_) (fun h74 => ?_)
    · refine g_iload_n 85 dX8_set_84 rfl rfl ?_
      exact g_rz dX8_set_85 rfl q_b_01 rfl ⟨(q_b_f hv).symm, rfl, rfl⟩
    · exact (hv (q_b_n.mp h74)).elim
  · exact absurd rfl h1
set_option maxRecDepth 100000 in
set_option maxHeartbeats 4000000 in
theorem c_Mset_y1 {v : Int32} (hv : q_in v 0 600) : q_Ct C l FX8_set 1 142 142 [.ref (q_a C 122), .int 1, .int v] μ (q_ρ b) (q_is 1 (q_up μ 128 1 v) (q_ρ b)) := by
  refine q_entry rfl (by decide) (Nat.le_of_ble_eq_true rfl) ?_
  refine g_lv [(0, _), (1, _), (2, _)] rfl ?_
  refine g_iload_n 1 dX8_set_0 rfl rfl ?_
  refine g_if_eq 9 4 dX8_set_1 rfl (by decide) (fun h1 => ?_) (fun h1 => ?_)
  · exact absurd h1 (by decide)
  · refine g_iload_n 5 dX8_set_4 rfl rfl ?_
    refine g_iconst 6 1 dX8_set_5 rfl (by decide) ?_
    refine g_icmp_ne 20 9 dX8_set_6 rfl (by decide) (fun h6 => ?_) (fun h6 => ?_)
    · exact absurd rfl h6
    · refine g_iload_n 10 dX8_set_9 rfl rfl ?_
      refine g_iconst 11 0 dX8_set_10 rfl (by decide) ?_
      refine g_sipush 14 600 dX8_set_11 rfl (by decide) ?_
      refine g_Si 17 [_, _, _] _ dX8_set_14 rfl m_X8_isIn l_X8_71 rfl (c_isIn _ _ _) rfl (Nat.le_of_ble_eq_true rfl) (by decide) (fun v14 μ14 ρ14 hc9 => ?_)
      obtain ⟨rfl, rfl, rfl⟩ := hc9
      refine g_goto 72 dX8_set_17 (by decide) ?_
      refine g_istore_n 73 dX8_set_72 rfl (by decide) ?_
      refine g_iload_n 74 dX8_set_73 rfl rfl ?_
      refine g_if_eq 84 77 dX8_set_74 rfl (by decide) (fun h74 => ?_) (fun h74 => ?_)
      · exact (q_b_0.mp h74 hv).elim
      · refine g_aload_n 78 dX8_set_77 rfl rfl ?_
        refine g_getR 81 _ dX8_set_78 rfl f_X8_25 (by decide) rfl rfl rfl ?_
        refine g_iload_n 82 dX8_set_81 rfl rfl ?_
        refine g_iload_n 83 dX8_set_82 rfl rfl ?_
        refine g_iast 84 dX8_set_83 rfl (by decide) rfl (vp_in_nI (n := 1) (N := 5) (by decide) (by decide)) ?_
        refine g_iload_n 85 dX8_set_84 rfl rfl ?_
        exact g_rz dX8_set_85 rfl q_b_01 rfl ⟨(q_b_t hv).symm, rfl, rfl⟩
set_option maxRecDepth 100000 in
set_option maxHeartbeats 4000000 in
theorem c_Mset_n1 {v : Int32} (hv : ¬ q_in v 0 600) : q_Ct C l FX8_set 1 142 142 [.ref (q_a C 122), .int 1, .int v] μ (q_ρ b) (q_is 0 μ (q_ρ b)) := by
  refine q_entry rfl (by decide) (Nat.le_of_ble_eq_true rfl) ?_
  refine g_lv [(0, _), (1, _), (2, _)] rfl ?_
  refine g_iload_n 1 dX8_set_0 rfl rfl ?_
  refine g_if_eq 9 4 dX8_set_1 rfl (by decide) (fun h1 => ?_) (fun h1 => ?_)
  · exact absurd h1 (by decide)
  · refine g_iload_n 5 dX8_set_4 rfl rfl ?_
    refine g_iconst 6 1 dX8_set_5 rfl (by decide) ?_
    refine g_icmp_ne 20 9 dX8_set_6 rfl (by decide) (fun h6 => ?_) (fun h6 => ?_)
    · exact absurd rfl h6
    · refine g_iload_n 10 dX8_set_9 rfl rfl ?_
      refine g_iconst 11 0 dX8_set_10 rfl (by decide) ?_
      refine g_sipush 14 600 dX8_set_11 rfl (by decide) ?_
      refine g_Si 17 [_, _, _] _ dX8_set_14 rfl m_X8_isIn l_X8_71 rfl (c_isIn _ _ _) rfl (Nat.le_of_ble_eq_true rfl) (by decide) (fun v14 μ14 ρ14 hc9 => ?_)
      obtain ⟨rfl, rfl, rfl⟩ := hc9
      refine g_goto 72 dX8_set_17 (by decide) ?_
      refine g_istore_n 73 dX8_set_72 rfl (by decide) ?_
      refine g_iload_n 74 dX8_set_73 rfl rfl ?_
      refine g_if_eq 84 77 dX8_set_74 rfl (by decide) (fun h74 => ?_) (fun h74 => ?_)
      · refine g_iload_n 85 dX8_set_84 rfl rfl ?_
        exact g_rz dX8_set_85 rfl q_b_01 rfl ⟨(q_b_f hv).symm, rfl, rfl⟩
      · exact (hv (q_b_n.mp h74)).elim
set_option maxRecDepth 100000 in
set_option maxHeartbeats 4000000 in
theorem c_Mset_y2 {v : Int32} (hv : q_in v 10 120) : q_Ct C l FX8_set 1 142 142 [.ref (q_a C 122), .int 2, .int v] μ (q_ρ b) (q_is 1 (q_up μ 128 2 v) (q_ρ b)) := by
  refine q_entry rfl (by decide) (Nat.le_of_ble_eq_true rfl) ?_
  refine g_lv [(0, _), (1, _), (2, _)] rfl ?_
  refine g_iload_n 1 dX8_set_0 rfl rfl ?_
  refine g_if_eq 9 4 dX8_set_1 rfl (by decide) (fun h1 => ?_) (fun h1 => ?_)
  · exact absurd h1 (by decide)
  · refine g_iload_n 5 dX8_set_4 rfl rfl ?_
    refine g_iconst 6 1 dX8_set_5 rfl (by decide) ?_
    refine g_icmp_ne 20 9 dX8_set_6 rfl (by decide) (fun h6 => ?_) (fun h6 => ?_)
    · refine g_iload_n 21 dX8_set_20 rfl rfl ?_
      refine g_iconst 22 2 dX8_set_21 rfl (by decide) ?_
      refine g_icmp_ne 36 25 dX8_set_22 rfl (by decide) (fun h22 => ?_) (fun h22 => ?_)
      · exact absurd rfl h22
      · refine g_iload_n 26 dX8_set_25 rfl rfl ?_
        refine g_bipush 28 10 dX8_set_26 rfl (by decide) ?_
        refine g_bipush 30 120 dX8_set_28 rfl (by decide) ?_
        refine g_Si 33 [_, _, _] _ dX8_set_30 rfl m_X8_isIn l_X8_71 rfl (c_isIn _ _ _) rfl (Nat.le_of_ble_eq_true rfl) (by decide) (fun v30 μ30 ρ30 hc9 => ?_)
        obtain ⟨rfl, rfl, rfl⟩ := hc9
        refine g_goto 72 dX8_set_33 (by decide) ?_
        refine g_istore_n 73 dX8_set_72 rfl (by decide) ?_
        refine g_iload_n 74 dX8_set_73 rfl rfl ?_
        refine g_if_eq 84 77 dX8_set_74 rfl (by decide) (fun h74 => ?_) (fun h74 => ?_)
        · exact (q_b_0.mp h74 hv).elim
        · refine g_aload_n 78 dX8_set_77 rfl rfl ?_
          refine g_getR 81 _ dX8_set_78 rfl f_X8_25 (by decide) rfl rfl rfl ?_
          refine g_iload_n 82 dX8_set_81 rfl rfl ?_
          refine g_iload_n 83 dX8_set_82 rfl rfl ?_
          refine g_iast 84 dX8_set_83 rfl (by decide) rfl (vp_in_nI (n := 2) (N := 5) (by decide) (by decide)) ?_
          refine g_iload_n 85 dX8_set_84 rfl rfl ?_
          exact g_rz dX8_set_85 rfl q_b_01 rfl ⟨(q_b_t hv).symm, rfl, rfl⟩
    · exact absurd h6 (by decide)
set_option maxRecDepth 100000 in
set_option maxHeartbeats 4000000 in
theorem c_Mset_n2 {v : Int32} (hv : ¬ q_in v 10 120) : q_Ct C l FX8_set 1 142 142 [.ref (q_a C 122), .int 2, .int v] μ (q_ρ b) (q_is 0 μ (q_ρ b)) := by
  refine q_entry rfl (by decide) (Nat.le_of_ble_eq_true rfl) ?_
  refine g_lv [(0, _), (1, _), (2, _)] rfl ?_
  refine g_iload_n 1 dX8_set_0 rfl rfl ?_
  refine g_if_eq 9 4 dX8_set_1 rfl (by decide) (fun h1 => ?_) (fun h1 => ?_)
  · exact absurd h1 (by decide)
  · refine g_iload_n 5 dX8_set_4 rfl rfl ?_
    refine g_iconst 6 1 dX8_set_5 rfl (by decide) ?_
    refine g_icmp_ne 20 9 dX8_set_6 rfl (by decide) (fun h6 => ?_) (fun h6 => ?_)
    · refine g_iload_n 21 dX8_set_20 rfl rfl ?_
      refine g_iconst 22 2 dX8_set_21 rfl (by decide) ?_
      refine g_icmp_ne 36 25 dX8_set_22 rfl (by decide) (fun h22 => ?_) (fun h22 => ?_)
      · exact absurd rfl h22
      · refine g_iload_n 26 dX8_set_25 rfl rfl ?_
        refine g_bipush 28 10 dX8_set_26 rfl (by decide) ?_
        refine g_bipush 30 120 dX8_set_28 rfl (by decide) ?_
        refine g_Si 33 [_, _, _] _ dX8_set_30 rfl m_X8_isIn l_X8_71 rfl (c_isIn _ _ _) rfl (Nat.le_of_ble_eq_true rfl) (by decide) (fun v30 μ30 ρ30 hc9 => ?_)
        obtain ⟨rfl, rfl, rfl⟩ := hc9
        refine g_goto 72 dX8_set_33 (by decide) ?_
        refine g_istore_n 73 dX8_set_72 rfl (by decide) ?_
        refine g_iload_n 74 dX8_set_73 rfl rfl ?_
        refine g_if_eq 84 77 dX8_set_74 rfl (by decide) (fun h74 => ?_) (fun h74 => ?_)
        · refine g_iload_n 85 dX8_set_84 rfl rfl ?_
          exact g_rz dX8_set_85 rfl q_b_01 rfl ⟨(q_b_f hv).symm, rfl, rfl⟩
        · exact (hv (q_b_n.mp h74)).elim
    · exact absurd h6 (by decide)
set_option maxRecDepth 100000 in
set_option maxHeartbeats 4000000 in
theorem c_Mset_y3 {v : Int32} (hv : q_in v 0 5000) : q_Ct C l FX8_set 1 142 142 [.ref (q_a C 122), .int 3, .int v] μ (q_ρ b) (q_is 1 (q_up μ 128 3 v) (q_ρ b)) := by
  refine q_entry rfl (by decide) (Nat.le_of_ble_eq_true rfl) ?_
  refine g_lv [(0, _), (1, _), (2, _)] rfl ?_
  refine g_iload_n 1 dX8_set_0 rfl rfl ?_
  refine g_if_eq 9 4 dX8_set_1 rfl (by decide) (fun h1 => ?_) (fun h1 => ?_)
  · exact absurd h1 (by decide)
  · refine g_iload_n 5 dX8_set_4 rfl rfl ?_
    refine g_iconst 6 1 dX8_set_5 rfl (by decide) ?_
    refine g_icmp_ne 20 9 dX8_set_6 rfl (by decide) (fun h6 => ?_) (fun h6 => ?_)
    · refine g_iload_n 21 dX8_set_20 rfl rfl ?_
      refine g_iconst 22 2 dX8_set_21 rfl (by decide) ?_
      refine g_icmp_ne 36 25 dX8_set_22 rfl (by decide) (fun h22 => ?_) (fun h22 => ?_)
      · refine g_iload_n 37 dX8_set_36 rfl rfl ?_
        refine g_iconst 38 3 dX8_set_37 rfl (by decide) ?_
        refine g_icmp_ne 52 41 dX8_set_38 rfl (by decide) (fun h38 => ?_) (fun h38 => ?_)
        · exact absurd rfl h38
        · refine g_iload_n 42 dX8_set_41 rfl rfl ?_
          refine g_iconst 43 0 dX8_set_42 rfl (by decide) ?_
          refine g_sipush 46 5000 dX8_set_43 rfl (by decide) ?_
          refine g_Si 49 [_, _, _] _ dX8_set_46 rfl m_X8_isIn l_X8_71 rfl (c_isIn _ _ _) rfl (Nat.le_of_ble_eq_true rfl) (by decide) (fun v46 μ46 ρ46 hc9 => ?_)
          obtain ⟨rfl, rfl, rfl⟩ := hc9
          refine g_goto 72 dX8_set_49 (by decide) ?_
          refine g_istore_n 73 dX8_set_72 rfl (by decide) ?_
          refine g_iload_n 74 dX8_set_73 rfl rfl ?_
          refine g_if_eq 84 77 dX8_set_74 rfl (by decide) (fun h74 => ?_) (fun h74 => ?_)
          · exact (q_b_0.mp h74 hv).elim
          · refine g_aload_n 78 dX8_set_77 rfl rfl ?_
            refine g_getR 81 _ dX8_set_78 rfl f_X8_25 (by decide) rfl rfl rfl ?_
            refine g_iload_n 82 dX8_set_81 rfl rfl ?_
            refine g_iload_n 83 dX8_set_82 rfl rfl ?_
            refine g_iast 84 dX8_set_83 rfl (by decide) rfl (vp_in_nI (n := 3) (N := 5) (by decide) (by decide)) ?_
            refine g_iload_n 85 dX8_set_84 rfl rfl ?_
            exact g_rz dX8_set_85 rfl q_b_01 rfl ⟨(q_b_t hv).symm, rfl, rfl⟩
      · exact absurd h22 (by decide)
    · exact absurd h6 (by decide)
set_option maxRecDepth 100000 in
set_option maxHeartbeats 4000000 in
theorem c_Mset_n3 {v : Int32} (hv : ¬ q_in v 0 5000) : q_Ct C l FX8_set 1 142 142 [.ref (q_a C 122), .int 3, .int v] μ (q_ρ b) (q_is 0 μ (q_ρ b)) := by
  refine q_entry rfl (by decide) (Nat.le_of_ble_eq_true rfl) ?_
  refine g_lv [(0, _), (1, _), (2, _)] rfl ?_
  refine g_iload_n 1 dX8_set_0 rfl rfl ?_
  refine g_if_eq 9 4 dX8_set_1 rfl (by decide) (fun h1 => ?_) (fun h1 => ?_)
  · exact absurd h1 (by decide)
  · refine g_iload_n 5 dX8_set_4 rfl rfl ?_
    refine g_iconst 6 1 dX8_set_5 rfl (by decide) ?_
    refine g_icmp_ne 20 9 dX8_set_6 rfl (by decide) (fun h6 => ?_) (fun h6 => ?_)
    · refine g_iload_n 21 dX8_set_20 rfl rfl ?_
      refine g_iconst 22 2 dX8_set_21 rfl (by decide) ?_
      refine g_icmp_ne 36 25 dX8_set_22 rfl (by decide) (fun h22 => ?_) (fun h22 => ?_)
      · refine g_iload_n 37 dX8_set_36 rfl rfl ?_
        refine g_iconst 38 3 dX8_set_37 rfl (by decide) ?_
        refine g_icmp_ne 52 41 dX8_set_38 rfl (by decide) (fun h38 => ?_) (fun h38 => ?_)
        · exact absurd rfl h38
        · refine g_iload_n 42 dX8_set_41 rfl rfl ?_
          refine g_iconst 43 0 dX8_set_42 rfl (by decide) ?_
          refine g_sipush 46 5000 dX8_set_43 rfl (by decide) ?_
          refine g_Si 49 [_, _, _] _ dX8_set_46 rfl m_X8_isIn l_X8_71 rfl (c_isIn _ _ _) rfl (Nat.le_of_ble_eq_true rfl) (by decide) (fun v46 μ46 ρ46 hc9 => ?_)
          obtain ⟨rfl, rfl, rfl⟩ := hc9
          refine g_goto 72 dX8_set_49 (by decide) ?_
          refine g_istore_n 73 dX8_set_72 rfl (by decide) ?_
          refine g_iload_n 74 dX8_set_73 rfl rfl ?_
          refine g_if_eq 84 77 dX8_set_74 rfl (by decide) (fun h74 => ?_) (fun h74 => ?_)
          · refine g_iload_n 85 dX8_set_84 rfl rfl ?_
            exact g_rz dX8_set_85 rfl q_b_01 rfl ⟨(q_b_f hv).symm, rfl, rfl⟩
          · exact (hv (q_b_n.mp h74)).elim
      · exact absurd h22 (by decide)
    · exact absurd h6 (by decide)
set_option maxRecDepth 100000 in
set_option maxHeartbeats 4000000 in
theorem c_Mset_y4 {v : Int32} (hv : q_in v 0 50) : q_Ct C l FX8_set 1 142 142 [.ref (q_a C 122), .int 4, .int v] μ (q_ρ b) (q_is 1 (q_up μ 128 4 v) (q_ρ b)) := by
  refine q_entry rfl (by decide) (Nat.le_of_ble_eq_true rfl) ?_
  refine g_lv [(0, _), (1, _), (2, _)] rfl ?_
  refine g_iload_n 1 dX8_set_0 rfl rfl ?_
  refine g_if_eq 9 4 dX8_set_1 rfl (by decide) (fun h1 => ?_) (fun h1 => ?_)
  · exact absurd h1 (by decide)
  · refine g_iload_n 5 dX8_set_4 rfl rfl ?_
    refine g_iconst 6 1 dX8_set_5 rfl (by decide) ?_
    refine g_icmp_ne 20 9 dX8_set_6 rfl (by decide) (fun h6 => ?_) (fun h6 => ?_)
    · refine g_iload_n 21 dX8_set_20 rfl rfl ?_
      refine g_iconst 22 2 dX8_set_21 rfl (by decide) ?_
      refine g_icmp_ne 36 25 dX8_set_22 rfl (by decide) (fun h22 => ?_) (fun h22 => ?_)
      · refine g_iload_n 37 dX8_set_36 rfl rfl ?_
        refine g_iconst 38 3 dX8_set_37 rfl (by decide) ?_
        refine g_icmp_ne 52 41 dX8_set_38 rfl (by decide) (fun h38 => ?_) (fun h38 => ?_)
        · refine g_iload_n 53 dX8_set_52 rfl rfl ?_
          refine g_iconst 54 4 dX8_set_53 rfl (by decide) ?_
          refine g_icmp_ne 71 57 dX8_set_54 rfl (by decide) (fun h54 => ?_) (fun h54 => ?_)
          · exact absurd rfl h54
          · refine g_iload_n 58 dX8_set_57 rfl rfl ?_
            refine g_iconst 59 0 dX8_set_58 rfl (by decide) ?_
            refine g_bipush 61 50 dX8_set_59 rfl (by decide) ?_
            refine g_Si 64 [_, _, _] _ dX8_set_61 rfl m_X8_isIn l_X8_71 rfl (c_isIn _ _ _) rfl (Nat.le_of_ble_eq_true rfl) (by decide) (fun v61 μ61 ρ61 hc9 => ?_)
            obtain ⟨rfl, rfl, rfl⟩ := hc9
            refine g_if_eq 71 67 dX8_set_64 rfl (by decide) (fun h64 => ?_) (fun h64 => ?_)
            · exact (q_b_0.mp h64 hv).elim
            · refine g_iconst 68 1 dX8_set_67 rfl (by decide) ?_
              refine g_goto 72 dX8_set_68 (by decide) ?_
              refine g_istore_n 73 dX8_set_72 rfl (by decide) ?_
              refine g_iload_n 74 dX8_set_73 rfl rfl ?_
              refine g_if_eq 84 77 dX8_set_74 rfl (by decide) (fun h74 => ?_) (fun h74 => ?_)
              · exact absurd h74 (by decide)
              · refine g_aload_n 78 dX8_set_77 rfl rfl ?_
                refine g_getR 81 _ dX8_set_78 rfl f_X8_25 (by decide) rfl rfl rfl ?_
                refine g_iload_n 82 dX8_set_81 rfl rfl ?_
                refine g_iload_n 83 dX8_set_82 rfl rfl ?_
                refine g_iast 84 dX8_set_83 rfl (by decide) rfl (vp_in_nI (n := 4) (N := 5) (by decide) (by decide)) ?_
                refine g_iload_n 85 dX8_set_84 rfl rfl ?_
                exact g_rz dX8_set_85 rfl (Or.inr rfl) rfl ⟨rfl, rfl, rfl⟩
        · exact absurd h38 (by decide)
      · exact absurd h22 (by decide)
    · exact absurd h6 (by decide)
set_option maxRecDepth 100000 in
set_option maxHeartbeats 4000000 in
theorem c_Mset_n4 {v : Int32} (hv : ¬ q_in v 0 50) : q_Ct C l FX8_set 1 142 142 [.ref (q_a C 122), .int 4, .int v] μ (q_ρ b) (q_is 0 μ (q_ρ b)) := by
  refine q_entry rfl (by decide) (Nat.le_of_ble_eq_true rfl) ?_
  refine g_lv [(0, _), (1, _), (2, _)] rfl ?_
  refine g_iload_n 1 dX8_set_0 rfl rfl ?_
  refine g_if_eq 9 4 dX8_set_1 rfl (by decide) (fun h1 => ?_) (fun h1 => ?_)
  · exact absurd h1 (by decide)
  · refine g_iload_n 5 dX8_set_4 rfl rfl ?_
    refine g_iconst 6 1 dX8_set_5 rfl (by decide) ?_
    refine g_icmp_ne 20 9 dX8_set_6 rfl (by decide) (fun h6 => ?_) (fun h6 => ?_)
    · refine g_iload_n 21 dX8_set_20 rfl rfl ?_
      refine g_iconst 22 2 dX8_set_21 rfl (by decide) ?_
      refine g_icmp_ne 36 25 dX8_set_22 rfl (by decide) (fun h22 => ?_) (fun h22 => ?_)
      · refine g_iload_n 37 dX8_set_36 rfl rfl ?_
        refine g_iconst 38 3 dX8_set_37 rfl (by decide) ?_
        refine g_icmp_ne 52 41 dX8_set_38 rfl (by decide) (fun h38 => ?_) (fun h38 => ?_)
        · refine g_iload_n 53 dX8_set_52 rfl rfl ?_
          refine g_iconst 54 4 dX8_set_53 rfl (by decide) ?_
          refine g_icmp_ne 71 57 dX8_set_54 rfl (by decide) (fun h54 => ?_) (fun h54 => ?_)
          · exact absurd rfl h54
          · refine g_iload_n 58 dX8_set_57 rfl rfl ?_
            refine g_iconst 59 0 dX8_set_58 rfl (by decide) ?_
            refine g_bipush 61 50 dX8_set_59 rfl (by decide) ?_
            refine g_Si 64 [_, _, _] _ dX8_set_61 rfl m_X8_isIn l_X8_71 rfl (c_isIn _ _ _) rfl (Nat.le_of_ble_eq_true rfl) (by decide) (fun v61 μ61 ρ61 hc9 => ?_)
            obtain ⟨rfl, rfl, rfl⟩ := hc9
            refine g_if_eq 71 67 dX8_set_64 rfl (by decide) (fun h64 => ?_) (fun h64 => ?_)
            · refine g_iconst 72 0 dX8_set_71 rfl (by decide) ?_
              refine g_istore_n 73 dX8_set_72 rfl (by decide) ?_
              refine g_iload_n 74 dX8_set_73 rfl rfl ?_
              refine g_if_eq 84 77 dX8_set_74 rfl (by decide) (fun h74 => ?_) (fun h74 => ?_)
              · refine g_iload_n 85 dX8_set_84 rfl rfl ?_
                exact g_rz dX8_set_85 rfl (Or.inl rfl) rfl ⟨rfl, rfl, rfl⟩
              · exact absurd rfl h74
            · exact (hv (q_b_n.mp h64)).elim
        · exact absurd h38 (by decide)
      · exact absurd h22 (by decide)
    · exact absurd h6 (by decide)
set_option maxRecDepth 100000 in
set_option maxHeartbeats 4000000 in
theorem c_Mset_o {k v : Int32} (h : ¬ q_in k 0 4) : q_Ct C l FX8_set 1 142 142 [.ref (q_a C 122), .int k, .int v] μ (q_ρ b) (q_is 0 μ (q_ρ b)) := by
  refine q_entry rfl (by decide) (Nat.le_of_ble_eq_true rfl) ?_
  refine g_lv [(0, _), (1, _), (2, _)] rfl ?_
  refine g_iload_n 1 dX8_set_0 rfl rfl ?_
  refine g_if_eq 9 4 dX8_set_1 rfl (by decide) (fun h1 => ?_) (fun h1 => ?_)
  · exact (h ⟨by rw [h1]; decide, by rw [h1]; decide⟩).elim
  · refine g_iload_n 5 dX8_set_4 rfl rfl ?_
    refine g_iconst 6 1 dX8_set_5 rfl (by decide) ?_
    refine g_icmp_ne 20 9 dX8_set_6 rfl (by decide) (fun h6 => ?_) (fun h6 => ?_)
    · refine g_iload_n 21 dX8_set_20 rfl rfl ?_
      refine g_iconst 22 2 dX8_set_21 rfl (by decide) ?_
      refine g_icmp_ne 36 25 dX8_set_22 rfl (by decide) (fun h22 => ?_) (fun h22 => ?_)
      · refine g_iload_n 37 dX8_set_36 rfl rfl ?_
        refine g_iconst 38 3 dX8_set_37 rfl (by decide) ?_
        refine g_icmp_ne 52 41 dX8_set_38 rfl (by decide) (fun h38 => ?_) (fun h38 => ?_)
        · refine g_iload_n 53 dX8_set_52 rfl rfl ?_
          refine g_iconst 54 4 dX8_set_53 rfl (by decide) ?_
          refine g_icmp_ne 71 57 dX8_set_54 rfl (by decide) (fun h54 => ?_) (fun h54 => ?_)
          · refine g_iconst 72 0 dX8_set_71 rfl (by decide) ?_
            refine g_istore_n 73 dX8_set_72 rfl (by decide) ?_
            refine g_iload_n 74 dX8_set_73 rfl rfl ?_
            refine g_if_eq 84 77 dX8_set_74 rfl (by decide) (fun h74 => ?_) (fun h74 => ?_)
            · refine g_iload_n 85 dX8_set_84 rfl rfl ?_
              exact g_rz dX8_set_85 rfl (Or.inl rfl) rfl ⟨rfl, rfl, rfl⟩
            · exact absurd rfl h74
          · exact (h ⟨by rw [h54]; decide, by rw [h54]; decide⟩).elim
        · exact (h ⟨by rw [h38]; decide, by rw [h38]; decide⟩).elim
      · exact (h ⟨by rw [h22]; decide, by rw [h22]; decide⟩).elim
    · exact (h ⟨by rw [h6]; decide, by rw [h6]; decide⟩).elim
set_option maxRecDepth 100000 in
set_option maxHeartbeats 4000000 in
theorem c_Mend_y {k : Int32} (h : q_in k 0 (μ 122 12)) : q_Ct C l FX8_end 1 142 142 [.ref (q_a C 122), .int k] μ (q_ρ b) (q_is 1 (q_up μ 122 12 k) (q_ρ b)) := by
  refine q_entry rfl (by decide) (Nat.le_of_ble_eq_true rfl) ?_
  refine g_lv [(0, _), (1, _)] rfl ?_
  refine g_iload_n 1 dX8_end_0 rfl rfl ?_
  refine g_iconst 2 0 dX8_end_1 rfl (by decide) ?_
  refine g_aload_n 3 dX8_end_2 rfl rfl ?_
  refine g_getI 6 dX8_end_3 rfl f_X8_92 (by decide) rfl rfl ?_
  refine g_Si 9 [_, _, _] _ dX8_end_6 rfl m_X8_isIn l_X8_71 rfl (c_isIn _ _ _) rfl (Nat.le_of_ble_eq_true rfl) (by decide) (fun v6 μ6 ρ6 hc9 => ?_)
  obtain ⟨rfl, rfl, rfl⟩ := hc9
  refine g_if_ne 14 12 dX8_end_9 rfl (by decide) (fun h9 => ?_) (fun h9 => ?_)
  · refine g_aload_n 15 dX8_end_14 rfl rfl ?_
    refine g_iload_n 16 dX8_end_15 rfl rfl ?_
    refine g_putI 19 dX8_end_16 rfl f_X8_92 (by decide) rfl rfl (Or.inl rfl) ?_
    refine g_iconst 20 1 dX8_end_19 rfl (by decide) ?_
    exact g_rz dX8_end_20 rfl (by first | exact Or.inl rfl | exact Or.inr rfl | assumption) rfl ⟨rfl, rfl, rfl⟩
  · exact (q_b_0.mp h9 h).elim
set_option maxRecDepth 100000 in
set_option maxHeartbeats 4000000 in
theorem c_Mend_n {k : Int32} (h : ¬ q_in k 0 (μ 122 12)) : q_Ct C l FX8_end 1 142 142 [.ref (q_a C 122), .int k] μ (q_ρ b) (q_is 0 μ (q_ρ b)) := by
  refine q_entry rfl (by decide) (Nat.le_of_ble_eq_true rfl) ?_
  refine g_lv [(0, _), (1, _)] rfl ?_
  refine g_iload_n 1 dX8_end_0 rfl rfl ?_
  refine g_iconst 2 0 dX8_end_1 rfl (by decide) ?_
  refine g_aload_n 3 dX8_end_2 rfl rfl ?_
  refine g_getI 6 dX8_end_3 rfl f_X8_92 (by decide) rfl rfl ?_
  refine g_Si 9 [_, _, _] _ dX8_end_6 rfl m_X8_isIn l_X8_71 rfl (c_isIn _ _ _) rfl (Nat.le_of_ble_eq_true rfl) (by decide) (fun v6 μ6 ρ6 hc9 => ?_)
  obtain ⟨rfl, rfl, rfl⟩ := hc9
  refine g_if_ne 14 12 dX8_end_9 rfl (by decide) (fun h9 => ?_) (fun h9 => ?_)
  · exact (h (q_b_n.mp h9)).elim
  · refine g_iconst 13 0 dX8_end_12 rfl (by decide) ?_
    exact g_rz dX8_end_13 rfl (by first | exact Or.inl rfl | exact Or.inr rfl | assumption) rfl ⟨rfl, rfl, rfl⟩
set_option maxRecDepth 100000 in
set_option maxHeartbeats 4000000 in
theorem c_Mfault (k : Int32) : q_Ct C l FX8_fault 0 142 142 [.ref (q_a C 122), .int k] μ (q_ρ b) (q_is (if k = 0 then μ 122 19 else if k = 1 then μ 122 21 else -1) μ (q_ρ b)) := by
  refine q_entry rfl (by decide) (Nat.le_of_ble_eq_true rfl) ?_
  refine g_lv [(0, _), (1, _)] rfl ?_
  refine g_iload_n 1 dX8_fault_0 rfl rfl ?_
  refine g_if_ne 11 4 dX8_fault_1 rfl (by decide) (fun h1 => ?_) (fun h1 => ?_)
  · refine g_iload_n 12 dX8_fault_11 rfl rfl ?_
    refine g_iconst 13 1 dX8_fault_12 rfl (by decide) ?_
    refine g_icmp_ne 23 16 dX8_fault_13 rfl (by decide) (fun h13 => ?_) (fun h13 => ?_)
    · refine g_iconst 24 (-1) dX8_fault_23 rfl (by decide) ?_
      exact g_ri dX8_fault_24 rfl rfl ⟨by rw [if_neg h1, if_neg h13], rfl, rfl⟩
    · refine g_aload_n 17 dX8_fault_16 rfl rfl ?_
      refine g_getI 20 dX8_fault_17 rfl f_X8_43 (by decide) rfl rfl ?_
      refine g_goto 24 dX8_fault_20 (by decide) ?_
      exact g_ri dX8_fault_24 rfl rfl ⟨by rw [if_neg h1, if_pos h13], rfl, rfl⟩
  · refine g_aload_n 5 dX8_fault_4 rfl rfl ?_
    refine g_getI 8 dX8_fault_5 rfl f_X8_154 (by decide) rfl rfl ?_
    refine g_goto 24 dX8_fault_8 (by decide) ?_
    exact g_ri dX8_fault_24 rfl rfl ⟨if_pos h1, rfl, rfl⟩
set_option maxRecDepth 100000 in
set_option maxHeartbeats 4000000 in
theorem lp_all  : ∀ k i, i + k = 7 → q_G C l FX8_all 0 142 142 (q_is (q_sum (μ 129) 7) μ (q_ρ b)) 142 μ (q_ρ b) [(0, .ref (q_a C 122)), (1, .int (q_sum (μ 129) i)), (2, .int (nI i))] [] 4 := by
  intro k
  induction k with
  | zero =>
    intro i hi
    refine g_iload_n 5 dX8_all_4 rfl rfl ?_
    refine g_bipush 7 7 dX8_all_5 rfl (by decide) ?_
    refine g_icmp_ge 25 10 dX8_all_7 rfl (by decide) (fun h7 => ?_) (fun h7 => ?_)
    · refine g_iload_n 26 dX8_all_25 rfl rfl ?_
      exact g_ri dX8_all_26 rfl rfl ⟨by rw [show i = 7 by omega], rfl, rfl⟩
    · exact absurd (nI_le (a := 7) (b := i) (by omega) (by omega)) h7
  | succ k ih =>
    intro i hi
    refine g_iload_n 5 dX8_all_4 rfl rfl ?_
    refine g_bipush 7 7 dX8_all_5 rfl (by decide) ?_
    refine g_icmp_ge 25 10 dX8_all_7 rfl (by decide) (fun h7 => ?_) (fun h7 => ?_)
    · exact absurd h7 (nI_ge (a := i) (b := 7) (by omega) (by omega))
    · refine g_iload_n 11 dX8_all_10 rfl rfl ?_
      refine g_aload_n 12 dX8_all_11 rfl rfl ?_
      refine g_getR 15 _ dX8_all_12 rfl f_X8_28 (by decide) rfl rfl rfl ?_
      refine g_iload_n 16 dX8_all_15 rfl rfl ?_
      refine g_iald 17 dX8_all_16 rfl (by decide) rfl (vp_in_nI (by omega) (by omega)) ?_
      refine g_iadd 18 dX8_all_17 rfl ?_
      refine g_istore_n 19 dX8_all_18 rfl (by decide) ?_
      refine g_iinc 22 (_ + 1) dX8_all_19 rfl rfl rfl (by decide) ?_
      refine g_goto 4 dX8_all_22 (by decide) ?_
      rw [nI_clamp (show i < 2 ^ 31 by omega), nI_1]
      refine g_lv [(0, _), (1, _), (2, _)] rfl ?_
      exact ih (i + 1) (by omega)
set_option maxRecDepth 100000 in
set_option maxHeartbeats 4000000 in
theorem c_all  : q_Ct C l FX8_all 0 142 142 [.ref (q_a C 122)] μ (q_ρ b) (q_is (q_sum (μ 129) 7) μ (q_ρ b)) := by
  refine q_entry rfl (by decide) (Nat.le_of_ble_eq_true rfl) ?_
  refine g_lv [(0, _)] rfl ?_
  refine g_iconst 1 0 dX8_all_0 rfl (by decide) ?_
  refine g_istore_n 2 dX8_all_1 rfl (by decide) ?_
  refine g_iconst 3 0 dX8_all_2 rfl (by decide) ?_
  refine g_istore_n 4 dX8_all_3 rfl (by decide) ?_
  refine g_lv [(0, _), (1, .int 0), (2, .int 0)] rfl ?_
  exact lp_all 7 0 (by omega)
set_option maxRecDepth 100000 in
set_option maxHeartbeats 4000000 in
theorem c_Mlook_0  : q_Ct C l FX8_look 1 142 142 [.ref (q_a C 122), .int 0] μ (q_ρ b) (q_is (μ 122 0) μ (q_ρ b)) := by
  refine q_entry rfl (by decide) (Nat.le_of_ble_eq_true rfl) ?_
  refine g_lv [(0, _), (1, _)] rfl ?_
  refine g_iconst 1 0 dX8_look_0 rfl (by decide) ?_
  refine g_istore_n 2 dX8_look_1 rfl (by decide) ?_
  refine g_iload_n 3 dX8_look_2 rfl rfl ?_
  refine g_tabIn 28 dX8_look_3 (by decide) (by decide) rfl (by decide) ?_
  refine g_aload_n 29 dX8_look_28 rfl rfl ?_
  refine g_getI 32 dX8_look_29 rfl f_X8_75 (by decide) rfl rfl ?_
  exact g_ri dX8_look_32 rfl rfl ⟨rfl, rfl, rfl⟩
set_option maxRecDepth 100000 in
set_option maxHeartbeats 4000000 in
theorem c_Mlook_1  : q_Ct C l FX8_look 1 142 142 [.ref (q_a C 122), .int 1] μ (q_ρ b) (q_is (q_sum (μ 129) 7) μ (q_ρ b)) := by
  refine q_entry rfl (by decide) (Nat.le_of_ble_eq_true rfl) ?_
  refine g_lv [(0, _), (1, _)] rfl ?_
  refine g_iconst 1 0 dX8_look_0 rfl (by decide) ?_
  refine g_istore_n 2 dX8_look_1 rfl (by decide) ?_
  refine g_iload_n 3 dX8_look_2 rfl rfl ?_
  refine g_tabIn 33 dX8_look_3 (by decide) (by decide) rfl (by decide) ?_
  refine g_aload_n 34 dX8_look_33 rfl rfl ?_
  refine g_Vi 37 [] _ dX8_look_34 rfl m_X8_all l_X8_157 rfl rfl rfl (by decide) c_all rfl (Nat.le_of_ble_eq_true rfl) (by decide) (fun v34 μ34 ρ34 hc9 => ?_)
  obtain ⟨rfl, rfl, rfl⟩ := hc9
  exact g_ri dX8_look_37 rfl rfl ⟨rfl, rfl, rfl⟩
set_option maxRecDepth 100000 in
set_option maxHeartbeats 4000000 in
theorem lp_Mlook  : ∀ k i, i + k = 7 → q_G C l FX8_look 1 142 142 (q_is (q_sum (fun j => μ 123 (j + 1)) 7) μ (q_ρ b)) 142 μ (q_ρ b) [(0, .ref (q_a C 122)), (2, .int (q_sum (fun j => μ 123 (j + 1)) i)), (3, .int (nI (i + 1)))] [] 40 := by
  intro k
  induction k with
  | zero =>
    intro i hi
    refine g_iload_n 41 dX8_look_40 rfl rfl ?_
    refine g_bipush 43 8 dX8_look_41 rfl (by decide) ?_
    refine g_icmp_ge 61 46 dX8_look_43 rfl (by decide) (fun h43 => ?_) (fun h43 => ?_)
    · refine g_iload_n 62 dX8_look_61 rfl rfl ?_
      exact g_ri dX8_look_62 rfl rfl ⟨by rw [show i = 7 by omega], rfl, rfl⟩
    · exact absurd (nI_le (a := 8) (b := i + 1) (by omega) (by omega)) h43
  | succ k ih =>
    intro i hi
    refine g_iload_n 41 dX8_look_40 rfl rfl ?_
    refine g_bipush 43 8 dX8_look_41 rfl (by decide) ?_
    refine g_icmp_ge 61 46 dX8_look_43 rfl (by decide) (fun h43 => ?_) (fun h43 => ?_)
    · exact absurd h43 (nI_ge (a := i + 1) (b := 8) (by omega) (by omega))
    · refine g_iload_n 47 dX8_look_46 rfl rfl ?_
      refine g_aload_n 48 dX8_look_47 rfl rfl ?_
      refine g_getR 51 _ dX8_look_48 rfl f_X8_7 (by decide) rfl rfl rfl ?_
      refine g_iload_n 52 dX8_look_51 rfl rfl ?_
      refine g_iald 53 dX8_look_52 rfl (by decide) rfl (vp_in_nI (by omega) (by omega)) ?_
      refine g_iadd 54 dX8_look_53 rfl ?_
      refine g_istore_n 55 dX8_look_54 rfl (by decide) ?_
      refine g_iinc 58 (_ + 1) dX8_look_55 rfl rfl rfl (by decide) ?_
      refine g_goto 40 dX8_look_58 (by decide) ?_
      rw [nI_clamp (show i + 1 < 2 ^ 31 by omega), nI_1]
      refine g_lv [(0, _), (2, _), (3, _)] rfl ?_
      exact ih (i + 1) (by omega)
set_option maxRecDepth 100000 in
set_option maxHeartbeats 4000000 in
theorem c_Mlook_2  : q_Ct C l FX8_look 1 142 142 [.ref (q_a C 122), .int 2] μ (q_ρ b) (q_is (q_sum (fun j => μ 123 (j + 1)) 7) μ (q_ρ b)) := by
  refine q_entry rfl (by decide) (Nat.le_of_ble_eq_true rfl) ?_
  refine g_lv [(0, _), (1, _)] rfl ?_
  refine g_iconst 1 0 dX8_look_0 rfl (by decide) ?_
  refine g_istore_n 2 dX8_look_1 rfl (by decide) ?_
  refine g_iload_n 3 dX8_look_2 rfl rfl ?_
  refine g_tabIn 38 dX8_look_3 (by decide) (by decide) rfl (by decide) ?_
  refine g_iconst 39 1 dX8_look_38 rfl (by decide) ?_
  refine g_istore_n 40 dX8_look_39 rfl (by decide) ?_
  refine g_lv [(0, _), (2, .int 0), (3, .int 1)] rfl ?_
  exact lp_Mlook 7 0 (by omega)
set_option maxRecDepth 100000 in
set_option maxHeartbeats 4000000 in
theorem c_Mlook_s {k : Nat} (hk : k < 5) : q_Ct C l FX8_look 1 142 142 [.ref (q_a C 122), .int (nI (k + 3))] μ (q_ρ b) (q_is (μ 128 k) μ (q_ρ b)) := by
  refine q_entry rfl (by decide) (Nat.le_of_ble_eq_true rfl) ?_
  refine g_lv [(0, _), (1, _)] rfl ?_
  refine g_iconst 1 0 dX8_look_0 rfl (by decide) ?_
  refine g_istore_n 2 dX8_look_1 rfl (by decide) ?_
  refine g_iload_n 3 dX8_look_2 rfl rfl ?_
  refine g_tabOut 63 dX8_look_3 (Or.inr (by rw [nI_toInt (by omega)]; omega)) (by decide) ?_
  refine g_iload_n 64 dX8_look_63 rfl rfl ?_
  refine g_iconst 65 3 dX8_look_64 rfl (by decide) ?_
  refine g_bipush 67 7 dX8_look_65 rfl (by decide) ?_
  refine g_Si 70 [_, _, _] _ dX8_look_67 rfl m_X8_isIn l_X8_71 rfl (c_isIn _ _ _) rfl (Nat.le_of_ble_eq_true rfl) (by decide) (fun v67 μ67 ρ67 hc9 => ?_)
  obtain ⟨rfl, rfl, rfl⟩ := hc9
  refine g_if_eq 84 73 dX8_look_70 rfl (by decide) (fun h70 => ?_) (fun h70 => ?_)
  · exact (q_b_0.mp h70 ⟨(nI_leI (a := 3) (b := k + 3) (by omega) (by omega)).mpr (by omega), (nI_leI (a := k + 3) (b := 7) (by omega) (by omega)).mpr (by omega)⟩).elim
  · refine g_aload_n 74 dX8_look_73 rfl rfl ?_
    refine g_getR 77 _ dX8_look_74 rfl f_X8_25 (by decide) rfl rfl rfl ?_
    refine g_iload_n 78 dX8_look_77 rfl rfl ?_
    refine g_iconst 79 3 dX8_look_78 rfl (by decide) ?_
    refine g_isub 80 dX8_look_79 rfl ?_
    refine g_iald 81 dX8_look_80 rfl (by decide) rfl (by rw [show nI (k + 3) - 3 = nI k from pk_sub (a := k + 3) (b := 3) (by omega)]; exact vp_in_nI hk (by omega)) ?_
    rw [show nI (k + 3) - 3 = nI k from pk_sub (a := k + 3) (b := 3) (by omega), nI_clamp (show k < 2 ^ 31 by omega)]
    refine g_goto 85 dX8_look_81 (by decide) ?_
    exact g_ri dX8_look_85 rfl rfl ⟨rfl, rfl, rfl⟩
set_option maxRecDepth 100000 in
set_option maxHeartbeats 4000000 in
theorem c_Mlook_n {k : Int32} (h : ¬ q_in k 0 7) : q_Ct C l FX8_look 1 142 142 [.ref (q_a C 122), .int k] μ (q_ρ b) (q_is (-1) μ (q_ρ b)) := by
  refine q_entry rfl (by decide) (Nat.le_of_ble_eq_true rfl) ?_
  refine g_lv [(0, _), (1, _)] rfl ?_
  refine g_iconst 1 0 dX8_look_0 rfl (by decide) ?_
  refine g_istore_n 2 dX8_look_1 rfl (by decide) ?_
  refine g_iload_n 3 dX8_look_2 rfl rfl ?_
  have h9 : k.toInt < 0 ∨ 2 < k.toInt := by
    have e1 : q_in k 0 7 ↔ ((0 : Int32).toInt ≤ k.toInt ∧ k.toInt ≤ (7 : Int32).toInt) := by simp only [q_in, Int32.le_iff_toInt_le]
    rw [e1] at h
    have e2 : (0 : Int32).toInt = 0 := rfl
    have e3 : (7 : Int32).toInt = 7 := rfl
    omega
  refine g_tabOut 63 dX8_look_3 h9 (by decide) ?_
  refine g_iload_n 64 dX8_look_63 rfl rfl ?_
  refine g_iconst 65 3 dX8_look_64 rfl (by decide) ?_
  refine g_bipush 67 7 dX8_look_65 rfl (by decide) ?_
  refine g_Si 70 [_, _, _] _ dX8_look_67 rfl m_X8_isIn l_X8_71 rfl (c_isIn _ _ _) rfl (Nat.le_of_ble_eq_true rfl) (by decide) (fun v67 μ67 ρ67 hc9 => ?_)
  obtain ⟨rfl, rfl, rfl⟩ := hc9
  refine g_if_eq 84 73 dX8_look_70 rfl (by decide) (fun h70 => ?_) (fun h70 => ?_)
  · refine g_iconst 85 (-1) dX8_look_84 rfl (by decide) ?_
    exact g_ri dX8_look_85 rfl rfl ⟨rfl, rfl, rfl⟩
  · exact (h ⟨Int32.le_trans (by decide) (q_b_n.mp h70).1, (q_b_n.mp h70).2⟩).elim
end MT
