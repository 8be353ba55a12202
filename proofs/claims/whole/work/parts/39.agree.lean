/-! ===== tape, book, looks ===== -/
section AG
variable {C : q_C} {l : Launch} {b : Bool} {μ : q_M}
/-- the tape has changed, nothing else -/
theorem s_tape (hS : q_Sim b μ) {μ2 : q_M} {Y : Nat → Int32} {L : Nat} (h : s_tp Y L μ2) (hf : ∀ c i, c ≠ 9 → ¬ (c = 8 ∧ i = 1) → c ≠ 133 → ¬ (c = 122 ∧ i = 12) → μ2 c i = μ c i) : q_Sim b μ2 := by
  obtain ⟨h1, h2, ⟨m, h3⟩, h4, ⟨B, h5⟩, _, h7, h8⟩ := hS
  have hb := q_rb_or b
  exact ⟨h1.of (fun _ => hf _ _ (by decide) (by omega) (by decide) (by omega)) (fun _ => hf _ _ (by decide) (by omega) (by decide) (by omega)), h2.of (fun _ => hf _ _ (by decide) (by omega) (by decide) (by omega)) (fun _ => hf _ _ (by decide) (by omega) (by decide) (by omega)), ⟨m, h3.of (hf _ _ (by decide) (by omega) (by decide) (by omega)) (hf _ _ (by decide) (by omega) (by decide) (by omega)) (fun c i hc => hf _ _ (by omega) (by omega) (by omega) (by omega))⟩, h4.of (fun _ => hf _ _ (by decide) (by omega) (by decide) (by omega)) (fun _ => hf _ _ (by decide) (by omega) (by decide) (by omega)), ⟨B, h5.of (fun c i hc => hf _ _ (by omega) (by omega) (by omega) (by omega))⟩, ⟨Y, L, h⟩, h7.of (hf _ _ (by decide) (by omega) (by decide) (by omega)) (hf _ _ (by decide) (by omega) (by decide) (by omega)) (hf _ _ (by decide) (by omega) (by decide) (by omega)) (hf _ _ (by decide) (by omega) (by decide) (by omega)), h8.of (fun c i hc => hf _ _ (by omega) (by omega) (by omega) (by omega)) (hf _ _ (by decide) (by omega) (by decide) (by omega)) (fun c i _ _ => hf _ _ (by omega) (by omega) (by omega) (by omega)) (hf _ _ (by decide) (by omega) (by decide) (by omega))⟩
theorem q_ap9 {L : Nat} {x : Int32} {j : Nat} : q_ap μ L x 9 j = if L ≤ j ∧ j < L + 4 then q_byt x (j - L) else μ 9 j := by
  unfold q_ap
  by_cases h : L ≤ j ∧ j < L + 4
  · rw [if_pos ⟨rfl, h⟩, if_pos h]
  · rw [if_neg (fun q => h q.2), if_neg (by omega), if_neg h]
theorem q_apo {L : Nat} {x : Int32} {c j : Nat} (h1 : c ≠ 9) (h2 : ¬ (c = 8 ∧ j = 1)) : q_ap μ L x c j = μ c j := by
  unfold q_ap
  rw [if_neg (fun q => h1 q.1), if_neg h2]
theorem q_ap8 {L : Nat} {x : Int32} : q_ap μ L x 8 1 = nI (L + 4) := by
  unfold q_ap
  rw [if_neg (fun q => absurd q.1 (by decide)), if_pos ⟨rfl, rfl⟩]
theorem q_ap5 {L : Nat} {x1 x2 x3 x4 x5 : Int32} {p : Nat} (h1 : L ≤ p) (h2 : p < L + 20) : q_ap (q_ap (q_ap (q_ap (q_ap μ L x1) (L + 4) x2) (L + 4 + 4) x3) (L + 4 + 4 + 4) x4) (L + 4 + 4 + 4 + 4) x5 9 p = q_byt (q_arg x1 x2 x3 x4 x5 (p - L)) ((p - L) % 4) := by
  rw [q_ap9, q_ap9, q_ap9, q_ap9, q_ap9]
  unfold q_arg
  by_cases g5 : L + 16 ≤ p
  · rw [if_pos (by omega), if_neg (by omega), if_neg (by omega), if_neg (by omega), if_neg (by omega)]
    congr 1
    omega
  · rw [if_neg (by omega)]
    by_cases g4 : L + 12 ≤ p
    · rw [if_pos (by omega), if_neg (by omega), if_neg (by omega), if_neg (by omega), if_pos (by omega)]
      congr 1
      omega
    · rw [if_neg (by omega)]
      by_cases g3 : L + 8 ≤ p
      · rw [if_pos (by omega), if_neg (by omega), if_neg (by omega), if_pos (by omega)]
        congr 1
        omega
      · rw [if_neg (by omega)]
        by_cases g2 : L + 4 ≤ p
        · rw [if_pos (by omega), if_neg (by omega), if_pos (by omega)]
          congr 1
          omega
        · rw [if_neg (by omega), if_pos (by omega), if_pos (by omega)]
          congr 1
          omega
theorem a_feed (hS : q_Sim b μ) (x1 x2 x3 x4 x5 : Int32) : q_Ag C l b μ FX7_feed FX8_feed [.int x1, .int x2, .int x3, .int x4, .int x5] := by
  obtain ⟨_, _, _, _, _, ⟨Y, L, h6⟩, _, _⟩ := id hS
  obtain ⟨⟨y1, y2, y3⟩, ⟨t1, t2⟩, r1, r2⟩ := h6
  by_cases hL : L + 20 ≤ 600
  · refine ag_is (v := nI (L + 20)) (by decide) (by decide) (c_feed_y x1 x2 x3 x4 x5 hL t1) (c_Mfeed_y x1 x2 x3 x4 x5 hL (by rw [q_apo (by decide) (by decide), q_apo (by decide) (by decide), q_apo (by decide) (by decide), q_apo (by decide) (by decide), q_apo (by decide) (by decide)]; exact r1)) ?_
    generalize e1 : q_ap (q_ap (q_ap (q_ap (q_ap μ L x1) (L + 4) x2) (L + 4 + 4) x3) (L + 4 + 4 + 4) x4) (L + 4 + 4 + 4 + 4) x5 = μ1
    have hf1 : ∀ c i, c ≠ 9 → ¬ (c = 8 ∧ i = 1) → μ1 c i = μ c i := fun c i g1 g2 => by
      rw [← e1, q_apo g1 g2, q_apo g1 g2, q_apo g1 g2, q_apo g1 g2, q_apo g1 g2]
    have h81 : μ1 8 1 = nI (L + 20) := by rw [← e1, q_ap8]
    have h9a : ∀ p, p < L → μ1 9 p = μ 9 p := fun p hp => by
      rw [← e1, q_ap9, q_ap9, q_ap9, q_ap9, q_ap9, if_neg (by omega), if_neg (by omega), if_neg (by omega), if_neg (by omega), if_neg (by omega)]
    have h9b : ∀ p, L ≤ p → p < L + 20 → μ1 9 p = q_byt (q_arg x1 x2 x3 x4 x5 (p - L)) ((p - L) % 4) := fun p g1 g2 => by
      rw [← e1]; exact q_ap5 g1 g2
    clear e1
    have hmo : ∀ c i, c ≠ 133 → ¬ (c = 122 ∧ i = 12) → q_mf μ1 L (q_mb x1 x2 x3 x4 x5) 20 c i = μ1 c i := fun c i g1 g2 => by
      unfold q_mf
      rw [if_neg (fun q => g1 q.1), if_neg g2]
    refine s_tape hS (Y := fun p => if p < L then Y p else if p < L + 20 then q_mb x1 x2 x3 x4 x5 (p - L) else -1) (L := L + 20) ⟨⟨hL, fun p hp => ?_, fun p hp => ?_⟩, ⟨?_, fun p hp => ?_⟩, ?_, fun p hp => ?_⟩ (fun c i g1 g2 g3 g4 => by rw [hmo c i g3 g4, hf1 c i g1 g2])
    · dsimp only
      rw [if_neg (by omega), if_neg (by omega)]
    · dsimp only
      by_cases q : p < L
      · rw [if_pos q]; exact y3 p q
      · rw [if_neg q, if_pos hp]
        unfold q_mb
        obtain ⟨a, a1, a2, _⟩ := p_byte (q_arg x1 x2 x3 x4 x5 (p - L) >>> (nI (24 - 8 * ((p - L) % 4)) &&& 31))
        exact ⟨a, a1, a2⟩
    · rw [hmo _ _ (by decide) (by decide)]; exact h81
    · dsimp only
      rw [hmo _ _ (by decide) (by omega)]
      by_cases q : p < L
      · rw [if_pos q, h9a p q]; exact t2 p q
      · rw [if_neg q, if_pos hp, h9b p (by omega) hp]
        unfold q_mb q_byt
        obtain ⟨a, a1, a2, a3⟩ := p_byte (q_arg x1 x2 x3 x4 x5 (p - L) >>> (nI (24 - 8 * ((p - L) % 4)) &&& 31))
        rw [a3, a2]
    · unfold q_mf
      rw [if_neg (fun q => absurd q.1 (by decide)), if_pos ⟨rfl, rfl⟩]
    · dsimp only
      unfold q_mf
      by_cases q : p < L
      · rw [if_neg (by omega), if_neg (by omega), if_pos q, hf1 _ _ (by decide) (by omega)]; exact r2 p q
      · rw [if_pos ⟨rfl, by omega, hp⟩, if_neg q, if_pos hp]
  · exact ag_is (by decide) (by decide) (c_feed_n x1 x2 x3 x4 x5 y1 hL t1) (c_Mfeed_n x1 x2 x3 x4 x5 y1 hL r1) hS
theorem a_end (hS : q_Sim b μ) (x : Int32) : q_Ag C l b μ FX7_end FX8_end [.int x] := by
  obtain ⟨_, _, _, _, _, ⟨Y, L, h6⟩, _, _⟩ := id hS
  obtain ⟨⟨y1, y2, y3⟩, ⟨t1, t2⟩, r1, r2⟩ := h6
  by_cases h : q_in x 0 (nI L)
  · obtain ⟨n, n1, n2, rfl⟩ := s_in (a := 0) (c := L) h (by decide) (by omega)
    refine ag_is (by decide) (by decide) (c_end_y (by rw [t1]; exact h)) (c_Mend_y (by rw [q_upc (by decide), r1]; exact h)) ?_
    refine s_tape hS (Y := fun p => if p < n then Y p else -1) (L := n) ⟨⟨by omega, fun p hp => if_neg (by omega), fun p hp => ?_⟩, ⟨?_, fun p hp => ?_⟩, q_ups, fun p hp => ?_⟩ (fun c i g1 g2 g3 g4 => by rw [q_upo g4, q_upo g2])
    · dsimp only
      rw [if_pos hp]; exact y3 p (by omega)
    · rw [q_upc (by decide), q_ups]
    · dsimp only
      rw [if_pos hp, q_upc (by decide), q_upc (by decide)]; exact t2 p (by omega)
    · dsimp only
      rw [if_pos hp, q_upc (by decide), q_upc (by decide)]; exact r2 p (by omega)
  · exact ag_is (by decide) (by decide) (c_end_n (by rw [t1]; exact h)) (c_Mend_n (by rw [r1]; exact h)) hS
theorem a_fault (hS : q_Sim b μ) (x : Int32) : q_Ag C l b μ FX7_fault FX8_fault [.int x] := by
  obtain ⟨_, _, _, _, _, _, ⟨f1, f2⟩, _⟩ := id hS
  have hm := c_Mfault (C := C) (l := l) (μ := μ) (b := b) x
  by_cases h0 : x = 0
  · subst h0
    rw [if_pos rfl, ← f1] at hm
    exact ag_is (by decide) (by decide) c_fault_0 hm hS
  · by_cases h1 : x = 1
    · subst h1
      rw [if_neg h0, if_pos rfl, ← f2] at hm
      exact ag_is (by decide) (by decide) c_fault_1 hm hS
    · rw [if_neg h0, if_neg h1] at hm
      exact ag_is (by decide) (by decide) (c_fault_n h0 h1) hm hS
theorem a_look (hS : q_Sim b μ) (x : Int32) : q_Ag C l b μ FX7_look FX8_look [.int x] := by
  obtain ⟨h1, h2, ⟨m, h3⟩, h4, ⟨B, h5⟩, ⟨Y, L, h6⟩, h7, h8⟩ := id hS
  by_cases h : q_in x 0 7
  · obtain ⟨n, n1, n2, rfl⟩ := s_in (a := 0) (c := 7) h (by decide) (by decide)
    by_cases g0 : n = 0
    · subst g0
      have hm := c_Mlook_0 (C := C) (l := l) (μ := μ) (b := b)
      rw [h3.2.2.1, ← h3.2.1] at hm
      exact ag_is (by decide) (by decide) c_look_0 hm hS
    · by_cases g1 : n = 1
      · subst g1
        have e1 := h5.2.1.2.2
        have e2 := q_s7 (f := μ 129) (B := B) (fun i hi => (h5.2.2 i hi).1)
        have hm := c_Mlook_1 (C := C) (l := l) (μ := μ) (b := b)
        rw [e2, ← e1] at hm
        cases b with
        | true => exact ag_is (by decide) (by decide) c_look_1t hm hS
        | false => exact ag_is (by decide) (by decide) c_look_1f hm hS
      · by_cases g2 : n = 2
        · subst g2
          have hm := c_Mlook_2 (C := C) (l := l) (μ := μ) (b := b)
          rw [e_sum (g := μ 2) 7 (fun i hi => by obtain ⟨n, _, _, n3, n4⟩ := h1 i hi; show μ 123 (i + 1) = μ 2 i; rw [n3, n4])] at hm
          exact ag_is (by decide) (by decide) c_look_2 hm hS
        · obtain ⟨k, rfl⟩ : ∃ k, n = k + 3 := ⟨n - 3, by omega⟩
          have hm := c_Mlook_s (C := C) (l := l) (μ := μ) (b := b) (show k < 5 by omega)
          rw [(h4 k (by omega)).2] at hm
          exact ag_is (by decide) (by decide) (c_look_s (by omega)) hm hS
  · exact ag_is (by decide) (by decide) (c_look_n h) (c_Mlook_n h) hS
theorem a_book (hS : q_Sim b μ) : q_Ag C l b μ FX7_book FX8_book [] := by
  obtain ⟨h1, h2, ⟨m, h3⟩, h4, ⟨B, h5⟩, ⟨Y, L, h6⟩, h7, h8⟩ := id hS
  have hb := q_rb_or b
  have hwf := q_rd_WF (Y := Y) (L := L) 600 0 (q_sk Y L 0) q_w0 (by decide) q_iv0
  have hc := c_book (C := C) (l := l) (μ := μ) (b := b) h6.1 h6.2.1
  generalize hR : q_rd Y L 600 0 (q_sk Y L 0) q_w0 = R at hc hwf
  obtain ⟨r, hr⟩ : ∃ r, r = (bif b then 70 else 96) := ⟨_, rfl⟩
  rw [← hr] at hc
  have hrr : (r = 70 ∧ q_rb b = 96) ∨ (r = 96 ∧ q_rb b = 70) := by cases b <;> simp_all [q_rb]
  refine ⟨7, fun v b' μ' => (if R.1 = 0 then !b else b) = b' ∧ (if R.1 = 0 then nI (q_tot R.2.2) else -1) = v ∧ μ' 8 1 = 0 ∧ μ' 10 0 = nI R.1 ∧ μ' 10 1 = (if R.1 = 0 then -1 else nI R.2.1) ∧ (R.1 = 0 → q_RB r μ' R.2.2) ∧ μ' 0 9 = (if R.1 = 0 then 1 else μ 0 9) ∧ ∀ c j, c ≠ 10 → ¬ (r ≤ c ∧ c < r + 26) → ¬ (c = 8 ∧ j = 1) → ¬ (c = 0 ∧ j = 9) → μ' c j = μ c j, by decide, hc.weak (fun w μ' ρ' h => ?_), fun v b' μ' h => ⟨5, by decide, ?_⟩⟩
  · obtain ⟨v, e, g1, g2, g3, g4, g5, g6, g7, g8⟩ := h
    refine ⟨v, e, (if R.1 = 0 then !b else b), ?_, rfl, g2, g3, g4, g5, g6, g7, g8⟩
    rw [← g1]
    by_cases q : R.1 = 0
    · rw [if_pos q, if_pos q]
    · rw [if_neg q, if_neg q]
  · obtain ⟨g1, g2, g3, g4, g5, g6, g7, g8⟩ := h
    have hTM : q_TM μ' Y L := ⟨by rw [g8 _ _ (by decide) (by omega) (by decide) (by decide)]; exact h6.2.2.1, fun p hp => by rw [g8 _ _ (by decide) (by omega) (by omega) (by omega)]; exact h6.2.2.2 p hp⟩
    have hm := c_Mbook (C := C) (l := l) (μ := μ') (b := b') h6.1 hTM
    rw [hR] at hm
    refine hm.weak (fun w μ2 ρ2 h => ?_)
    obtain ⟨v2, e, k1, k2, k3, k4, k5, k6, k7, k8⟩ := h
    refine ⟨v2, e, g2.symm.trans k2, b', k1, ?_⟩
    have hf : ∀ c j, c ≠ 10 → ¬ (r ≤ c ∧ c < r + 26) → ¬ (c = 8 ∧ j = 1) → ¬ (c = 0 ∧ j = 9) → (c < 129 ∨ 132 < c) → (c = 122 → j < 12 ∨ 21 < j) → μ2 c j = μ c j := fun c j a1 a2 a3 a4 a5 a6 => by rw [k8 c j a5 a6, g8 c j a1 a2 a3 a4]
    have f1 : s_far μ2 := h1.of (fun _ => hf _ _ (by decide) (by omega) (by omega) (by omega) (by decide) (by omega)) (fun _ => hf _ _ (by decide) (by omega) (by omega) (by omega) (by decide) (by omega))
    have f2 : s_hr μ2 := h2.of (fun _ => hf _ _ (by decide) (by omega) (by omega) (by omega) (by decide) (by omega)) (fun _ => hf _ _ (by decide) (by omega) (by omega) (by omega) (by decide) (by omega))
    have f3 : s_rc m μ2 := h3.of (hf _ _ (by decide) (by omega) (by omega) (by omega) (by decide) (by omega)) (hf _ _ (by decide) (by omega) (by omega) (by omega) (by decide) (by omega)) (fun c i hc => hf _ _ (by omega) (by omega) (by omega) (by omega) (by omega) (by omega))
    have f4 : s_set μ2 := h4.of (fun _ => hf _ _ (by decide) (by omega) (by omega) (by omega) (by decide) (by omega)) (fun _ => hf _ _ (by decide) (by omega) (by omega) (by omega) (by decide) (by omega))
    have f6 : s_tp (fun _ => -1) 0 μ2 := ⟨⟨by decide, fun p _ => rfl, fun p hp => absurd hp (Nat.not_lt_zero _)⟩, ⟨by rw [k8 _ _ (by decide) (by decide), g3]; rfl, fun p hp => absurd hp (Nat.not_lt_zero _)⟩, by rw [k3]; rfl, fun p hp => absurd hp (Nat.not_lt_zero _)⟩
    have f7 : s_ft μ2 := ⟨by rw [k8 _ _ (by decide) (by decide), g4, k4], by rw [k8 _ _ (by decide) (by decide), g5, k5]⟩
    by_cases q : R.1 = 0
    · rw [if_pos q] at g1
      subst g1
      have erb : q_rb (!b) = r := by cases b <;> simp_all [q_rb]
      refine ⟨f1, f2, ⟨m, f3⟩, f4, ⟨R.2.2, hwf, ?_, k6 q⟩, ⟨_, _, f6⟩, f7, Or.inl ?_⟩
      · rw [erb]
        obtain ⟨a1, a2, a3⟩ := g6 q
        refine ⟨fun i hi => ?_, fun i hi j hj => ?_, ?_⟩
        · rw [k8 _ _ (by omega) (by omega)]; exact a1 i hi
        · rw [k8 _ _ (by omega) (by omega), k8 _ _ (by omega) (by omega), k8 _ _ (by omega) (by omega)]; exact a2 i hi j hj
        · rw [k8 _ _ (by omega) (by omega)]; exact a3
      · rw [k8 _ _ (by decide) (by decide), g7, if_pos q]
    · rw [if_neg q] at g1
      subst g1
      refine ⟨f1, f2, ⟨m, f3⟩, f4, ⟨B, h5.of (fun c j hc => ?_)⟩, ⟨_, _, f6⟩, f7, h8.of (fun c j hc => hf _ _ (by omega) (by omega) (by omega) (by omega) (by omega) (by omega)) (hf _ _ (by decide) (by omega) (by omega) (by omega) (by decide) (by omega)) (fun c j _ _ => hf _ _ (by omega) (by omega) (by omega) (by omega) (by omega) (by omega)) (by rw [k8 _ _ (by decide) (by decide), g7, if_neg q])⟩
      rcases hc with hc | hc
      · exact hf _ _ (by omega) (by omega) (by omega) (by omega) (by omega) (by omega)
      · rw [k7 q c j hc, g8 _ _ (by omega) (by omega) (by omega) (by omega)]
end AG
