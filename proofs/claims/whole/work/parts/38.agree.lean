/-! ===== class and reference answer alike ===== -/
def q_Ag (C : q_C) (l : Launch) (b : Bool) (μ : q_M) (F1 F2 : q_F) (as : List Value) : Prop := ∃ (d1 : Nat) (K : Int32 → Bool → q_M → Prop), d1 ≤ 100 ∧ q_Ct C l F1 d1 142 142 (.ref (q_a C 0) :: as) μ (q_ρ b) (q_PI fun v μ' ρ' => ∃ b', q_ρ b' = ρ' ∧ K v b' μ') ∧ ∀ v b' μ', K v b' μ' → ∃ d2, d2 ≤ 100 ∧ q_Ct C l F2 d2 142 142 (.ref (q_a C 122) :: as) μ' (q_ρ b') (q_PI fun w μ'' ρ'' => v = w ∧ ∃ b'', q_ρ b'' = ρ'' ∧ q_Sim b'' μ'')
section AG
variable {C : q_C} {l : Launch} {b : Bool} {μ : q_M} {F1 F2 : q_F} {as : List Value}
theorem ag_is {d1 d2 : Nat} {v : Int32} {μ1 μ2 : q_M} (hd1 : d1 ≤ 100) (hd2 : d2 ≤ 100) (h1 : q_Ct C l F1 d1 142 142 (.ref (q_a C 0) :: as) μ (q_ρ b) (q_is v μ1 (q_ρ b))) (h2 : q_Ct C l F2 d2 142 142 (.ref (q_a C 122) :: as) μ1 (q_ρ b) (q_is v μ2 (q_ρ b))) (hS : q_Sim b μ2) : q_Ag C l b μ F1 F2 as := by
  refine ⟨d1, fun w b' μ' => w = v ∧ b' = b ∧ μ' = μ1, hd1, h1.weak (fun r μ' ρ' h => ?_), fun w b' μ' h => ⟨d2, hd2, ?_⟩⟩
  · obtain ⟨w, e, g1, g2, g3⟩ := h
    exact ⟨w, e, b, g3, g1.symm, rfl, g2.symm⟩
  · obtain ⟨rfl, rfl, rfl⟩ := h
    refine h2.weak (fun r μ' ρ' h => ?_)
    obtain ⟨w, e, g1, g2, g3⟩ := h
    exact ⟨w, e, g1, b', g3, by rw [← g2]; exact hS⟩
theorem q_Iof_ask {μ' : q_M} (hf : ∀ c j, (c < 13 ∨ 68 < c) → ¬ (c = 0 ∧ j = 9) → μ' c j = μ c j) : q_Iof μ' (q_rb b) = q_Iof μ (q_rb b) := by
  have hb := q_rb_or b
  have e : ∀ c, (c < 13 ∨ 68 < c) → c ≠ 0 → μ' c = μ c := fun c g1 g2 => funext fun j => hf c j g1 (by omega)
  unfold q_Iof
  rw [e 2 (by decide) (by decide), e 3 (by decide) (by decide), e 4 (by decide) (by decide), e 5 (by decide) (by decide), e 6 (by decide) (by decide), e 69 (by decide) (by decide), e (q_rb b + 1) (by omega) (by omega)]
  have e3 : (fun i => μ' (q_rb b + 3 + i)) = fun i => μ (q_rb b + 3 + i) := funext fun i => e _ (by omega) (by omega)
  have e4 : (fun i => μ' (q_rb b + 11 + i)) = fun i => μ (q_rb b + 11 + i) := funext fun i => e _ (by omega) (by omega)
  have e5 : (fun i => μ' (q_rb b + 19 + i)) = fun i => μ (q_rb b + 19 + i) := funext fun i => e _ (by omega) (by omega)
  rw [e3, e4, e5]
theorem ag_ask {d1 d2 : Nat} {v v' : Int32} (hd1 : d1 ≤ 100) (hd2 : d2 ≤ 100) (hS : q_Sim b μ) (h1 : q_Ct C l F1 d1 142 142 (.ref (q_a C 0) :: as) μ (q_ρ b) (q_PI fun w μ' ρ' => v = w ∧ q_ρ b = ρ' ∧ q_OK μ' (q_Iof μ (q_rb b)) ∧ μ' 0 9 = 0 ∧ (∀ c j, (c < 13 ∨ 68 < c) → ¬ (c = 0 ∧ j = 9) → μ' c j = μ c j))) (h2 : ∀ μ', q_MV μ' (q_Iof μ (q_rb b)) → μ' 122 0 = μ 122 0 → q_Ct C l F2 d2 142 142 (.ref (q_a C 122) :: as) μ' (q_ρ b) (q_PI fun w μ'' ρ'' => v' = w ∧ q_ρ b = ρ'' ∧ (∀ c j, (c < 134 ∨ 141 < c) → μ'' c j = μ' c j))) (e : v = v') : q_Ag C l b μ F1 F2 as := by
  refine ⟨d1, fun w b' μ' => w = v ∧ b' = b ∧ q_Sim b μ' ∧ q_MV μ' (q_Iof μ (q_rb b)) ∧ μ' 122 0 = μ 122 0, hd1, h1.weak (fun r μ' ρ' h => ?_), fun w b' μ' h => ⟨d2, hd2, ?_⟩⟩
  · obtain ⟨w, e, g1, g2, g3, g4, g5⟩ := h
    have hs := hS.ask g3 g4 g5
    have hm := hs.mv
    rw [q_Iof_ask g5] at hm
    exact ⟨w, e, b, g2, g1.symm, rfl, hs, hm, g5 _ _ (by decide) (by decide)⟩
  · obtain ⟨rfl, rfl, hs, hm, h0⟩ := h
    refine (h2 μ' hm h0).weak (fun r μ2 ρ2 h => ?_)
    obtain ⟨w', e', g1, g2, g3⟩ := h
    exact ⟨w', e', e.trans g1, b', g2, hs.of (fun c j hc => g3 c j (Or.inl hc))⟩
theorem m_is {d2 : Nat} {v : Int32} (h : q_Ct C l F2 d2 142 142 as μ (q_ρ b) (q_is v μ (q_ρ b))) : q_Ct C l F2 d2 142 142 as μ (q_ρ b) (q_PI fun w μ'' ρ'' => v = w ∧ q_ρ b = ρ'' ∧ (∀ c j, (c < 134 ∨ 141 < c) → μ'' c j = μ c j)) :=
  h.weak (fun r μ2 ρ2 h => by
    obtain ⟨w', e', g1, g2, g3⟩ := h
    exact ⟨w', e', g1, g3, fun c j _ => by rw [g2]⟩)
theorem q_fgc {cs ck i c j : Nat} {s km : Int32} (h : c ≠ cs) : q_fg μ cs ck s km i c j = μ c j := if_neg (fun q => h q.1)
/-! tellings -/
theorem a_camp (hS : q_Sim b μ) (x y : Int32) : q_Ag C l b μ FX7_camp FX8_camp [.int x, .int y] := by
  by_cases h : q_in x 1 7 ∧ q_in y 1 900
  · obtain ⟨k, k1, k2, rfl⟩ := s_in (a := 1) (c := 7) h.1 (by decide) (by decide)
    obtain ⟨j, rfl⟩ : ∃ j, k = j + 1 := ⟨k - 1, by omega⟩
    obtain ⟨n, n1, n2, rfl⟩ := s_in (a := 1) (c := 900) h.2 (by decide) (by decide)
    obtain ⟨h1, h2, ⟨m, h3⟩, h4, ⟨B, h5⟩, ⟨Y, L, h6⟩, h7, h8⟩ := hS
    have hb := q_rb_or b
    refine ag_is (by decide) (by decide) (c_camp_y (j := j) (m := m) (by omega) h.2 h3.1 h3.2.1) (c_Mcamp_y (j := j) (m := m) (by omega) h.2 h3.1 (by rw [q_upc (by decide), q_fgc (by decide), q_upc (by decide)]; exact h3.2.2.1)) ?_
    generalize e2 : q_fg (q_up (q_up (q_fg (q_up μ 2 j (nI n)) 6 7 (nI j) (nI n) m) 0 9 1) 123 (j + 1) (nI n)) 126 127 (nI j) (nI n) m = μ2
    have hf : ∀ c i, c ≠ 2 → c ≠ 6 → c ≠ 0 → c ≠ 123 → c ≠ 126 → μ2 c i = μ c i := fun c i g1 g2 g3 g4 g5 => by
      rw [← e2, q_fgc g5, q_upc g4, q_upc g3, q_fgc g2, q_upc g1]
    refine ⟨fun i hi => ?_, h2.of (fun _ => hf _ _ (by decide) (by decide) (by decide) (by decide) (by decide)) (fun _ => hf _ _ (by decide) (by decide) (by decide) (by decide) (by decide)), ⟨m, h3.1, ?_, ?_, fun r hr => ?_, fun r hr => ?_⟩, h4.of (fun _ => hf _ _ (by decide) (by decide) (by decide) (by decide) (by decide)) (fun _ => hf _ _ (by decide) (by decide) (by decide) (by decide) (by decide)), ⟨B, h5.of (fun c i hc => hf _ _ (by omega) (by omega) (by omega) (by omega) (by omega))⟩, ⟨Y, L, h6.of (hf _ _ (by decide) (by decide) (by decide) (by decide) (by decide)) (fun _ => hf _ _ (by decide) (by decide) (by decide) (by decide) (by decide)) (hf _ _ (by decide) (by decide) (by decide) (by decide) (by decide)) (fun _ => hf _ _ (by decide) (by decide) (by decide) (by decide) (by decide))⟩, h7.of (hf _ _ (by decide) (by decide) (by decide) (by decide) (by decide)) (hf _ _ (by decide) (by decide) (by decide) (by decide) (by decide)) (hf _ _ (by decide) (by decide) (by decide) (by decide) (by decide)) (hf _ _ (by decide) (by decide) (by decide) (by decide) (by decide)), Or.inl ?_⟩
    · by_cases q : i = j
      · subst q
        exact ⟨n, n1, n2, by rw [← e2, q_fgc (by decide), q_upc (by decide), q_upc (by decide), q_fgc (by decide), q_ups], by rw [← e2, q_fgc (by decide), q_ups]⟩
      · rw [← e2, q_fgc (by decide), q_upc (by decide), q_upc (by decide), q_fgc (by decide), q_upo (by omega), q_fgc (by decide), q_upo (by omega), q_upc (by decide), q_fgc (by decide), q_upc (by decide)]
        exact h1 i hi
    · rw [hf _ _ (by decide) (by decide) (by decide) (by decide) (by decide)]; exact h3.2.1
    · rw [hf _ _ (by decide) (by decide) (by decide) (by decide) (by decide)]; exact h3.2.2.1
    · rw [hf _ _ (by decide) (by decide) (by decide) (by decide) (by decide), hf _ _ (by decide) (by decide) (by decide) (by decide) (by decide)]; exact h3.2.2.2.1 r hr
    · obtain ⟨g6, g7⟩ := h3.2.2.2.2 r hr
      refine ⟨?_, by rw [hf _ _ (by decide) (by decide) (by decide) (by decide) (by decide), hf _ _ (by decide) (by decide) (by decide) (by decide) (by decide)]; exact g7⟩
      rw [← e2, q_fgc (by decide), q_upc (by decide), q_upc (by decide)]
      unfold q_fg
      simp only [q_up]
      simp [g6, g7]
    · rw [← e2, q_fgc (by decide), q_upc (by decide), q_ups]
  · exact ag_is (by decide) (by decide) (c_camp_n h) (c_Mcamp_n h) hS
theorem a_hour (hS : q_Sim b μ) (x y : Int32) : q_Ag C l b μ FX7_hour FX8_hour [.int x, .int y] := by
  by_cases h : q_in x 0 6 ∧ q_in y 0 23
  · obtain ⟨j, k1, k2, rfl⟩ := s_in (a := 0) (c := 6) h.1 (by decide) (by decide)
    obtain ⟨n, n1, n2, rfl⟩ := s_in (a := 0) (c := 23) h.2 (by decide) (by decide)
    obtain ⟨h1, h2, ⟨m, h3⟩, h4, ⟨B, h5⟩, ⟨Y, L, h6⟩, h7, h8⟩ := hS
    have hb := q_rb_or b
    refine ag_is (by decide) (by decide) (c_hour_y (j := j) (by omega) h.2) (c_Mhour_y (j := j) (by omega) h.2) ?_
    generalize e2 : q_up (q_up (q_up μ 3 j (nI n)) 0 9 1) 124 j (nI n) = μ2
    have hf : ∀ c i, c ≠ 3 → c ≠ 0 → c ≠ 124 → μ2 c i = μ c i := fun c i g1 g2 g3 => by
      rw [← e2, q_upc g3, q_upc g2, q_upc g1]
    refine ⟨h1.of (fun _ => hf _ _ (by decide) (by decide) (by decide)) (fun _ => hf _ _ (by decide) (by decide) (by decide)), fun i hi => ?_, ⟨m, h3.of (hf _ _ (by decide) (by decide) (by decide)) (hf _ _ (by decide) (by decide) (by decide)) (fun c i hc => hf _ _ (by omega) (by omega) (by omega))⟩, h4.of (fun _ => hf _ _ (by decide) (by decide) (by decide)) (fun _ => hf _ _ (by decide) (by decide) (by decide)), ⟨B, h5.of (fun c i hc => hf _ _ (by omega) (by omega) (by omega))⟩, ⟨Y, L, h6.of (hf _ _ (by decide) (by decide) (by decide)) (fun _ => hf _ _ (by decide) (by decide) (by decide)) (hf _ _ (by decide) (by decide) (by decide)) (fun _ => hf _ _ (by decide) (by decide) (by decide))⟩, h7.of (hf _ _ (by decide) (by decide) (by decide)) (hf _ _ (by decide) (by decide) (by decide)) (hf _ _ (by decide) (by decide) (by decide)) (hf _ _ (by decide) (by decide) (by decide)), Or.inl ?_⟩
    · by_cases q : i = j
      · subst q
        exact ⟨n, n2, by rw [← e2, q_upc (by decide), q_upc (by decide), q_ups], by rw [← e2, q_ups]⟩
      · rw [← e2, q_upc (by decide), q_upc (by decide), q_upo (by omega), q_upo (by omega), q_upc (by decide), q_upc (by decide)]
        exact h2 i hi
    · rw [← e2, q_upc (by decide), q_ups]
  · exact ag_is (by decide) (by decide) (c_hour_n h) (c_Mhour_n h) hS
theorem a_racer (hS : q_Sim b μ) (x : Int32) : q_Ag C l b μ FX7_racer FX8_racer [.int x] := by
  by_cases h : q_in x 10 120
  · obtain ⟨n, n1, n2, rfl⟩ := s_in (a := 10) (c := 120) h (by decide) (by decide)
    obtain ⟨h1, h2, ⟨m, h3⟩, h4, ⟨B, h5⟩, ⟨Y, L, h6⟩, h7, h8⟩ := hS
    have hb := q_rb_or b
    by_cases hm : m < 10
    · refine ag_is (by decide) (by decide) (c_racer_y h hm h3.2.1) (c_Mracer_y h hm (by rw [q_upc (by decide), q_upc (by decide), q_upc (by decide), q_upc (by decide)]; exact h3.2.2.1)) ?_
      generalize e2 : q_up (q_up (q_up (q_up (q_up (q_up (q_up μ 0 9 1) 5 m (nI n)) 6 m (-1)) 4 3 (nI (m + 1))) 125 m (nI n)) 126 m (-1)) 122 0 (nI (m + 1)) = μ2
      have hf : ∀ c i, c ≠ 0 → c ≠ 5 → c ≠ 6 → ¬ (c = 4 ∧ i = 3) → c ≠ 125 → c ≠ 126 → ¬ (c = 122 ∧ i = 0) → μ2 c i = μ c i := fun c i g1 g2 g3 g4 g5 g6 g7 => by
        rw [← e2, q_upo g7, q_upc g6, q_upc g5, q_upo g4, q_upc g3, q_upc g2, q_upc g1]
      have hg : ∀ c i, c ≠ 0 → c ≠ 5 → c ≠ 6 → c ≠ 4 → c ≠ 125 → c ≠ 126 → c ≠ 122 → μ2 c i = μ c i := fun c i g1 g2 g3 g4 g5 g6 g7 => hf c i g1 g2 g3 (by omega) g5 g6 (by omega)
      refine ⟨h1.of (fun _ => hg _ _ (by decide) (by decide) (by decide) (by decide) (by decide) (by decide) (by decide)) (fun _ => hg _ _ (by decide) (by decide) (by decide) (by decide) (by decide) (by decide) (by decide)), h2.of (fun _ => hg _ _ (by decide) (by decide) (by decide) (by decide) (by decide) (by decide) (by decide)) (fun _ => hg _ _ (by decide) (by decide) (by decide) (by decide) (by decide) (by decide) (by decide)), ⟨m + 1, by omega, ?_, ?_, fun r hr => ?_, fun r hr => ?_⟩, h4.of (fun _ => hg _ _ (by decide) (by decide) (by decide) (by decide) (by decide) (by decide) (by decide)) (fun _ => hg _ _ (by decide) (by decide) (by decide) (by decide) (by decide) (by decide) (by decide)), ⟨B, h5.of (fun c i hc => hg _ _ (by omega) (by omega) (by omega) (by omega) (by omega) (by omega) (by omega))⟩, ⟨Y, L, h6.of (hg _ _ (by decide) (by decide) (by decide) (by decide) (by decide) (by decide) (by decide)) (fun _ => hg _ _ (by decide) (by decide) (by decide) (by decide) (by decide) (by decide) (by decide)) (hf _ _ (by decide) (by decide) (by decide) (by decide) (by decide) (by decide) (by decide)) (fun _ => hg _ _ (by decide) (by decide) (by decide) (by decide) (by decide) (by decide) (by decide))⟩, h7.of (hg _ _ (by decide) (by decide) (by decide) (by decide) (by decide) (by decide) (by decide)) (hg _ _ (by decide) (by decide) (by decide) (by decide) (by decide) (by decide) (by decide)) (hf _ _ (by decide) (by decide) (by decide) (by decide) (by decide) (by decide) (by decide)) (hf _ _ (by decide) (by decide) (by decide) (by decide) (by decide) (by decide) (by decide)), Or.inl ?_⟩
      · rw [← e2, q_upc (by decide), q_upc (by decide), q_upc (by decide), q_ups]
      · rw [← e2, q_ups]
      · by_cases q : r = m
        · subst q
          exact ⟨n, n1, n2, by rw [← e2, q_upc (by decide), q_upc (by decide), q_upc (by decide), q_upc (by decide), q_upc (by decide), q_ups], by rw [← e2, q_upc (by decide), q_upc (by decide), q_ups]⟩
        · rw [← e2, q_upc (by decide), q_upc (by decide), q_upc (by decide), q_upc (by decide), q_upc (by decide), q_upo (by omega), q_upc (by decide), q_upc (by decide), q_upc (by decide), q_upo (by omega), q_upc (by decide), q_upc (by decide), q_upc (by decide), q_upc (by decide)]
          exact h3.2.2.2.1 r (by omega)
      · obtain ⟨g6, g7⟩ := h3.2.2.2.2 r hr
        refine ⟨?_, by rw [hg _ _ (by decide) (by decide) (by decide) (by decide) (by decide) (by decide) (by decide), hg _ _ (by decide) (by decide) (by decide) (by decide) (by decide) (by decide) (by decide)]; exact g7⟩
        rw [← e2]
        by_cases q : r = m
        · subst q
          rw [q_upc (by decide), q_upc (by decide), q_upc (by decide), q_upc (by decide), q_ups, q_upc (by decide), q_ups]
        · rw [q_upc (by decide), q_upc (by decide), q_upc (by decide), q_upc (by decide), q_upo (by omega), q_upc (by decide), q_upc (by decide), q_upc (by decide), q_upo (by omega), q_upc (by decide), q_upc (by decide), q_upc (by decide), q_upc (by decide), q_upc (by decide)]
          exact g6
      · rw [← e2, q_upc (by decide), q_upc (by decide), q_upc (by decide), q_upc (by decide), q_upc (by decide), q_upc (by decide), q_ups]
    · have em : m = 10 := by have := h3.1; omega
      subst em
      refine ag_is (by decide) (by decide) (c_racer_f h h3.2.1) (c_Mracer_f h (by rw [q_upc (by decide)]; exact h3.2.2.1)) ?_
      have hf : ∀ c i, c ≠ 0 → q_up μ 0 9 1 c i = μ c i := fun c i g1 => q_upc g1
      refine ⟨h1.of (fun _ => hf _ _ (by decide)) (fun _ => hf _ _ (by decide)), h2.of (fun _ => hf _ _ (by decide)) (fun _ => hf _ _ (by decide)), ⟨10, h3.of (hf _ _ (by decide)) (hf _ _ (by decide)) (fun c i hc => hf _ _ (by omega))⟩, h4.of (fun _ => hf _ _ (by decide)) (fun _ => hf _ _ (by decide)), ⟨B, h5.of (fun c i hc => hf _ _ (by omega))⟩, ⟨Y, L, h6.of (hf _ _ (by decide)) (fun _ => hf _ _ (by decide)) (hf _ _ (by decide)) (fun _ => hf _ _ (by decide))⟩, h7.of (hf _ _ (by decide)) (hf _ _ (by decide)) (hf _ _ (by decide)) (hf _ _ (by decide)), Or.inl q_ups⟩
  · exact ag_is (by decide) (by decide) (c_racer_n h) (c_Mracer_n h) hS
/-- where a racer breaks down has been told -/
theorem s_brk (hS : q_Sim b μ) {r : Nat} (hr : r < 10) (v w : Int32) : q_Sim b (q_up (q_up (q_up (q_up (q_up μ 6 r v) 7 r w) 0 9 1) 126 r v) 127 r w) := by
  obtain ⟨h1, h2, ⟨m, h3⟩, h4, ⟨B, h5⟩, ⟨Y, L, h6⟩, h7, h8⟩ := hS
  have hb := q_rb_or b
  generalize e2 : q_up (q_up (q_up (q_up (q_up μ 6 r v) 7 r w) 0 9 1) 126 r v) 127 r w = μ2
  have hf : ∀ c i, c ≠ 6 → c ≠ 7 → c ≠ 0 → c ≠ 126 → c ≠ 127 → μ2 c i = μ c i := fun c i g1 g2 g3 g4 g5 => by
    rw [← e2, q_upc g5, q_upc g4, q_upc g3, q_upc g2, q_upc g1]
  refine ⟨h1.of (fun _ => hf _ _ (by decide) (by decide) (by decide) (by decide) (by decide)) (fun _ => hf _ _ (by decide) (by decide) (by decide) (by decide) (by decide)), h2.of (fun _ => hf _ _ (by decide) (by decide) (by decide) (by decide) (by decide)) (fun _ => hf _ _ (by decide) (by decide) (by decide) (by decide) (by decide)), ⟨m, h3.1, ?_, ?_, fun x hx => ?_, fun x hx => ?_⟩, h4.of (fun _ => hf _ _ (by decide) (by decide) (by decide) (by decide) (by decide)) (fun _ => hf _ _ (by decide) (by decide) (by decide) (by decide) (by decide)), ⟨B, h5.of (fun c i hc => hf _ _ (by omega) (by omega) (by omega) (by omega) (by omega))⟩, ⟨Y, L, h6.of (hf _ _ (by decide) (by decide) (by decide) (by decide) (by decide)) (fun _ => hf _ _ (by decide) (by decide) (by decide) (by decide) (by decide)) (hf _ _ (by decide) (by decide) (by decide) (by decide) (by decide)) (fun _ => hf _ _ (by decide) (by decide) (by decide) (by decide) (by decide))⟩, h7.of (hf _ _ (by decide) (by decide) (by decide) (by decide) (by decide)) (hf _ _ (by decide) (by decide) (by decide) (by decide) (by decide)) (hf _ _ (by decide) (by decide) (by decide) (by decide) (by decide)) (hf _ _ (by decide) (by decide) (by decide) (by decide) (by decide)), Or.inl ?_⟩
  · rw [hf _ _ (by decide) (by decide) (by decide) (by decide) (by decide)]; exact h3.2.1
  · rw [hf _ _ (by decide) (by decide) (by decide) (by decide) (by decide)]; exact h3.2.2.1
  · rw [hf _ _ (by decide) (by decide) (by decide) (by decide) (by decide), hf _ _ (by decide) (by decide) (by decide) (by decide) (by decide)]; exact h3.2.2.2.1 x hx
  · obtain ⟨g6, g7⟩ := h3.2.2.2.2 x hx
    rw [← e2]
    by_cases q : x = r
    · subst q
      exact ⟨by rw [q_upc (by decide), q_upc (by decide), q_upc (by decide), q_upc (by decide), q_ups, q_upc (by decide), q_ups], by rw [q_upc (by decide), q_upc (by decide), q_upc (by decide), q_ups, q_ups]⟩
    · exact ⟨by rw [q_upc (by decide), q_upc (by decide), q_upc (by decide), q_upc (by decide), q_upo (by omega), q_upc (by decide), q_upo (by omega), q_upc (by decide), q_upc (by decide), q_upc (by decide)]; exact g6, by rw [q_upc (by decide), q_upc (by decide), q_upc (by decide), q_upo (by omega), q_upc (by decide), q_upo (by omega), q_upc (by decide), q_upc (by decide), q_upc (by decide), q_upc (by decide)]; exact g7⟩
  · rw [← e2, q_upc (by decide), q_upc (by decide), q_ups]
theorem a_breaks (hS : q_Sim b μ) (x y z : Int32) : q_Ag C l b μ FX7_breaks FX8_breaks [.int x, .int y, .int z] := by
  obtain ⟨h1, h2, ⟨m, h3⟩, h4, h5⟩ := id hS
  by_cases h : q_in x 0 (μ 4 3 - 1) ∧ (y = -1 ∨ (q_in y 0 6 ∧ q_in z 0 (μ 2 y.toNatClampNeg - 1)))
  · obtain ⟨hx, h⟩ := h
    rw [h3.2.1] at hx
    obtain ⟨r, hr, rfl⟩ := q_inm hx (by have := h3.1; omega)
    rcases h with rfl | ⟨hy, hz⟩
    · exact ag_is (by decide) (by decide) (c_breaks_0 hr h3.1 h3.2.1) (c_Mbreaks_0 hr h3.1 (by rw [q_upc (by decide), q_upc (by decide), q_upc (by decide)]; exact h3.2.2.1)) (s_brk hS (by have := h3.1; omega) _ _)
    · obtain ⟨j, k1, k2, rfl⟩ := s_in (a := 0) (c := 6) hy (by decide) (by decide)
      rw [nI_clamp (by omega)] at hz
      obtain ⟨n, n1, n2, n3, n4⟩ := h1 j (by omega)
      exact ag_is (by decide) (by decide) (c_breaks_y hr h3.1 h3.2.1 (by omega) hz) (c_Mbreaks_y hr h3.1 (by rw [q_upc (by decide), q_upc (by decide), q_upc (by decide)]; exact h3.2.2.1) (by omega) (by rw [q_upc (by decide), q_upc (by decide), q_upc (by decide), n4, ← n3]; exact hz)) (s_brk hS (by have := h3.1; omega) _ _)
  · refine ag_is (by decide) (by decide) (c_breaks_n h) (c_Mbreaks_n (fun q => h ?_)) hS
    rw [h3.2.1]
    rw [h3.2.2.1] at q
    refine ⟨q.1, q.2.imp id (fun g => ⟨g.1, ?_⟩)⟩
    obtain ⟨j, k1, k2, rfl⟩ := s_in (a := 0) (c := 6) g.1 (by decide) (by decide)
    obtain ⟨n, n1, n2, n3, n4⟩ := h1 j (by omega)
    have g2 := g.2
    rw [nI_1, nI_clamp (by omega), n4] at g2
    rw [nI_clamp (by omega), n3]
    exact g2
theorem s_told (hS : q_Sim b μ) {k : Nat} (hk : k < 5) {v : Int32} (hv : q_in v (q_lo k) (q_hi k)) : q_Sim b (q_up (q_up (q_up μ 69 k v) 0 9 1) 128 k v) := by
  obtain ⟨h1, h2, ⟨m, h3⟩, h4, ⟨B, h5⟩, ⟨Y, L, h6⟩, h7, h8⟩ := hS
  have hb := q_rb_or b
  generalize e2 : q_up (q_up (q_up μ 69 k v) 0 9 1) 128 k v = μ2
  have hf : ∀ c i, c ≠ 69 → c ≠ 0 → c ≠ 128 → μ2 c i = μ c i := fun c i g1 g2 g3 => by
    rw [← e2, q_upc g3, q_upc g2, q_upc g1]
  refine ⟨h1.of (fun _ => hf _ _ (by decide) (by decide) (by decide)) (fun _ => hf _ _ (by decide) (by decide) (by decide)), h2.of (fun _ => hf _ _ (by decide) (by decide) (by decide)) (fun _ => hf _ _ (by decide) (by decide) (by decide)), ⟨m, h3.of (hf _ _ (by decide) (by decide) (by decide)) (hf _ _ (by decide) (by decide) (by decide)) (fun c i hc => hf _ _ (by omega) (by omega) (by omega))⟩, fun i hi => ?_, ⟨B, h5.of (fun c i hc => hf _ _ (by omega) (by omega) (by omega))⟩, ⟨Y, L, h6.of (hf _ _ (by decide) (by decide) (by decide)) (fun _ => hf _ _ (by decide) (by decide) (by decide)) (hf _ _ (by decide) (by decide) (by decide)) (fun _ => hf _ _ (by decide) (by decide) (by decide))⟩, h7.of (hf _ _ (by decide) (by decide) (by decide)) (hf _ _ (by decide) (by decide) (by decide)) (hf _ _ (by decide) (by decide) (by decide)) (hf _ _ (by decide) (by decide) (by decide)), Or.inl ?_⟩
  · by_cases q : i = k
    · subst q
      rw [← e2, q_ups, q_upc (by decide), q_upc (by decide), q_ups]
      exact ⟨hv, rfl⟩
    · rw [← e2, q_upo (by omega), q_upc (by decide), q_upo (by omega), q_upo (by omega), q_upc (by decide), q_upc (by decide)]
      exact h4 i hi
  · rw [← e2, q_upc (by decide), q_ups]
theorem a_set (hS : q_Sim b μ) (x y : Int32) : q_Ag C l b μ FX7_set FX8_set [.int x, .int y] := by
  by_cases h0 : q_in x 0 4
  · obtain ⟨k, k1, k2, rfl⟩ := s_in (a := 0) (c := 4) h0 (by decide) (by decide)
    have hk : k < 5 := by omega
    by_cases hv : q_in y (q_lo k) (q_hi k)
    · have c1 := c_set_y (C := C) (l := l) (μ := μ) (b := b) hk hv
      have hs := s_told hS hk hv
      match k, hk with
      | 0, _ => exact ag_is (by decide) (by decide) c1 (c_Mset_y0 hv) hs
      | 1, _ => exact ag_is (by decide) (by decide) c1 (c_Mset_y1 hv) hs
      | 2, _ => exact ag_is (by decide) (by decide) c1 (c_Mset_y2 hv) hs
      | 3, _ => exact ag_is (by decide) (by decide) c1 (c_Mset_y3 hv) hs
      | 4, _ => exact ag_is (by decide) (by decide) c1 (c_Mset_y4 hv) hs
    · have c1 := c_set_n (C := C) (l := l) (μ := μ) (b := b) (k := nI k) (v := y) (fun q => hv (by
        have q2 := q.2
        rw [nI_clamp (by omega)] at q2
        exact q2))
      match k, hk with
      | 0, _ => exact ag_is (by decide) (by decide) c1 (c_Mset_n0 hv) hS
      | 1, _ => exact ag_is (by decide) (by decide) c1 (c_Mset_n1 hv) hS
      | 2, _ => exact ag_is (by decide) (by decide) c1 (c_Mset_n2 hv) hS
      | 3, _ => exact ag_is (by decide) (by decide) c1 (c_Mset_n3 hv) hS
      | 4, _ => exact ag_is (by decide) (by decide) c1 (c_Mset_n4 hv) hS
  · exact ag_is (by decide) (by decide) (c_set_n (fun q => h0 q.1)) (c_Mset_o h0) hS
end AG
