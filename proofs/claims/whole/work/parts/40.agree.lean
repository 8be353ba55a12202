/-! ===== questions ===== -/
section AG
variable {C : q_C} {l : Launch} {b : Bool} {μ : q_M}
theorem q_Sim.cnt (hS : q_Sim b μ) : μ 4 3 = nI (i_cnt (q_Iof μ (q_rb b))) ∧ μ 122 0 = nI (i_cnt (q_Iof μ (q_rb b))) ∧ i_cnt (q_Iof μ (q_rb b)) ≤ 10 := by
  have h := hS.iv.1
  obtain ⟨_, _, ⟨m, h3⟩, _⟩ := hS
  have ec : i_cnt (q_Iof μ (q_rb b)) = m := by
    show (μ 4 3).toNatClampNeg = m
    rw [h3.2.1, nI_clamp (by have := h3.1; omega)]
  rw [ec]
  exact ⟨h3.2.1, h3.2.2.1, h3.1⟩
theorem q_cmle (hS : q_Sim b μ) (i : Nat) : i_cm (q_Iof μ (q_rb b)) i ≤ 10 := Nat.le_trans (q_od_le _ _ _ _) hS.cnt.2.2
theorem a_time (hS : q_Sim b μ) (x y : Int32) : q_Ag C l b μ FX7_time FX8_time [.int x, .int y] := by
  obtain ⟨hV, hst⟩ := hS.iv
  obtain ⟨c1, c2, c3⟩ := hS.cnt
  by_cases h : q_in x 0 (μ 4 3 - 1) ∧ q_in y 0 6
  · have hx := h.1
    rw [c1] at hx
    obtain ⟨r, hr, rfl⟩ := q_inm hx (by omega)
    obtain ⟨i, _, i2, rfl⟩ := s_in (a := 0) (c := 6) h.2 (by decide) (by decide)
    exact ag_ask (by decide) (by decide) hS (c_ask_time hV hst hr (by omega)) (fun μ' hm _ => m_is (c_Mask_time hm hr (by omega))) rfl
  · exact ag_is (by decide) (by decide) (c_ask_time_n h) (c_Mask_time_n (by rw [c2, ← c1]; exact h)) hS
theorem a_ran (hS : q_Sim b μ) (x y z : Int32) : q_Ag C l b μ FX7_ran FX8_ran [.int x, .int y, .int z] := by
  obtain ⟨hV, hst⟩ := hS.iv
  have hB := hS.bd
  obtain ⟨c1, c2, c3⟩ := hS.cnt
  by_cases h : q_in x 0 (μ 4 3 - 1) ∧ q_in y 0 6
  · have hx := h.1
    rw [c1] at hx
    obtain ⟨r, hr, rfl⟩ := q_inm hx (by omega)
    obtain ⟨i, _, i2, rfl⟩ := s_in (a := 0) (c := 6) h.2 (by decide) (by decide)
    have hi : i < 7 := by omega
    by_cases hz : q_in z 0 3
    · obtain ⟨k, _, k2, rfl⟩ := s_in (a := 0) (c := 3) hz (by decide) (by decide)
      have hp := p_ran hB (i := i) (r := r) hi
      match k, k2 with
      | 0, _ => exact ag_ask (by decide) (by decide) hS (c_ran_0 hV hst hr hi) (fun μ' hm _ => c_Mran_0 hm hr hi) rfl
      | 1, _ => exact ag_ask (by decide) (by decide) hS (c_ran_1 hV hst hr hi) (fun μ' hm _ => c_Mran_1 hm hr hi) rfl
      | 2, _ =>
        rcases hp with ⟨p1, p2, p3⟩ | ⟨j, p1, p2, p3, p4, p5, p6⟩
        · exact ag_ask (by decide) (by decide) hS (c_ran_2 hV hst hr hi) (fun μ' hm _ => c_Mran_2z hm hr hi p1) p2
        · exact ag_ask (by decide) (by decide) hS (c_ran_2 hV hst hr hi) (fun μ' hm _ => c_Mran_2 hm hr hi p1 p2 p3 p4) p5
      | 3, _ =>
        rcases hp with ⟨p1, p2, p3⟩ | ⟨j, p1, p2, p3, p4, p5, p6⟩
        · exact ag_ask (by decide) (by decide) hS (c_ran_3 hV hst hr hi) (fun μ' hm _ => c_Mran_3z hm hr hi p1) p3
        · exact ag_ask (by decide) (by decide) hS (c_ran_3 hV hst hr hi) (fun μ' hm _ => c_Mran_3 hm hr hi p1 p2 p4) p6
    · exact ag_ask (by decide) (by decide) hS (c_ran_o hV hst hr hi hz) (fun μ' _ _ => m_is (c_Mran_n (fun q => hz q.2.2))) rfl
  · exact ag_is (by decide) (by decide) (c_ran_n h) (c_Mran_n (fun q => h (by rw [c1, ← c2]; exact ⟨q.1, q.2.1⟩))) hS
theorem a_standing (hS : q_Sim b μ) (x y : Int32) : q_Ag C l b μ FX7_standing FX8_standing [.int x, .int y] := by
  obtain ⟨hV, hst⟩ := hS.iv
  by_cases h : q_in x 0 6
  · obtain ⟨i, _, i2, rfl⟩ := s_in (a := 0) (c := 6) h (by decide) (by decide)
    have hi : i < 7 := by omega
    by_cases hy : q_in y 0 (nI (i_cm (q_Iof μ (q_rb b)) i) - 1)
    · obtain ⟨p, hp, rfl⟩ := q_inm hy (by have := q_cmle hS i; omega)
      exact ag_ask (by decide) (by decide) hS (c_std hV hst hi hp) (fun μ' hm _ => c_Mstd hm hi hp) rfl
    · exact ag_ask (by decide) (by decide) hS (c_std_o hV hst hi hy) (fun μ' hm _ => c_Mstd_o hm hi hy) rfl
  · exact ag_is (by decide) (by decide) (c_std_n h) (c_Mstd_n h) hS
theorem a_of (hS : q_Sim b μ) (x y : Int32) : q_Ag C l b μ FX7_of FX8_of [.int x, .int y] := by
  obtain ⟨hV, hst⟩ := hS.iv
  have hB := hS.bd
  have hT := p_SE hB
  by_cases h : q_in x 1 7
  · obtain ⟨n, n1, n2, rfl⟩ := s_in (a := 1) (c := 7) h (by decide) (by decide)
    obtain ⟨i, rfl⟩ : ∃ i, n = i + 1 := ⟨n - 1, by omega⟩
    have hi : i < 7 := by omega
    by_cases hy : q_in y 0 5
    · obtain ⟨k, _, k2, rfl⟩ := s_in (a := 0) (c := 5) hy (by decide) (by decide)
      match k, k2 with
      | 0, _ => exact ag_ask (by decide) (by decide) hS (c_of_0 hV hst hi) (fun μ' hm _ => c_Mof_0 hm hT hi) rfl
      | 1, _ => exact ag_ask (by decide) (by decide) hS (c_of_1 hV hst hi) (fun μ' hm _ => c_Mof_1 hm hT hi) rfl
      | 2, _ => exact ag_ask (by decide) (by decide) hS (c_of_2 hV hst hi) (fun μ' hm _ => c_Mof_2 hm hT hi) rfl
      | 3, _ => exact ag_ask (by decide) (by decide) hS (c_of_3 hV hst hi) (fun μ' hm _ => c_Mof_3 hm hT hi) rfl
      | 4, _ => exact ag_ask (by decide) (by decide) hS (c_of_4 hV hst hi) (fun μ' hm _ => c_Mof_4 hm hT hi) rfl
      | 5, _ => exact ag_ask (by decide) (by decide) hS (c_of_5 hV hst hi) (fun μ' hm _ => c_Mof_5 hm hT hi) (p_of5 hB i)
    · exact ag_ask (by decide) (by decide) hS (c_of_o hV hst hi hy) (fun μ' hm _ => c_Mof_o hm hT hi hy) rfl
  · exact ag_is (by decide) (by decide) (c_of_n h) (c_Mof_n h) hS
theorem a_sets (hS : q_Sim b μ) : q_Ag C l b μ FX7_sets FX8_sets [] := by
  obtain ⟨hV, hst⟩ := hS.iv
  have hT := p_SE hS.bd
  exact ag_ask (by decide) (by decide) hS (c_sets hV hst) (fun μ' hm _ => c_Msets hm hT) rfl
theorem a_goes (hS : q_Sim b μ) (x : Int32) : q_Ag C l b μ FX7_goes FX8_goes [.int x] := by
  obtain ⟨hV, hst⟩ := hS.iv
  have hB := hS.bd
  have hT := p_SE hB
  by_cases h : q_in x 0 (nI (i_n0 (q_Iof μ (q_rb b))) - 1)
  · obtain ⟨s, hs, rfl⟩ := q_inm h (by have := (i_n0_s (q_Iof μ (q_rb b))).1; have := i_N_le (q_Iof μ (q_rb b)); omega)
    exact ag_ask (by decide) (by decide) hS (c_goes hV hst hs) (fun μ' hm _ => c_Mgoes hm hT hs) (p_goes hB s)
  · exact ag_ask (by decide) (by decide) hS (c_goes_n hV hst h) (fun μ' hm _ => c_Mgoes_n hm hT h) rfl
theorem a_sweep (hS : q_Sim b μ) (x y : Int32) : q_Ag C l b μ FX7_sweep FX8_sweep [.int x, .int y] := by
  obtain ⟨hV, hst⟩ := hS.iv
  have hB := hS.bd
  by_cases h : q_in x 0 6
  · obtain ⟨i, _, i2, rfl⟩ := s_in (a := 0) (c := 6) h (by decide) (by decide)
    have hi : i < 7 := by omega
    by_cases hy : q_in y 0 2
    · obtain ⟨k, _, k2, rfl⟩ := s_in (a := 0) (c := 2) hy (by decide) (by decide)
      match k, k2 with
      | 0, _ => exact ag_ask (by decide) (by decide) hS (c_swp_0 hV hst hi) (fun μ' hm _ => c_Mswp_0 hm hi) (p_swp0 _ hB i)
      | 1, _ => exact ag_ask (by decide) (by decide) hS (c_swp_1 hV hst hi) (fun μ' hm _ => c_Mswp_1 hm hi) rfl
      | 2, _ => exact ag_ask (by decide) (by decide) hS (c_swp_2 hV hst hi) (fun μ' hm _ => c_Mswp_2 hm hi) (p_swp2 hB hi)
    · exact ag_ask (by decide) (by decide) hS (c_swp_o hV hst hi hy) (fun μ' _ _ => m_is (c_Mswp_n (fun q => hy q.2))) rfl
  · exact ag_is (by decide) (by decide) (c_swp_n h) (c_Mswp_n (fun q => h q.1)) hS
end AG
