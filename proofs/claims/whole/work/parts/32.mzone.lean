/-! ===== a zone of the reference ===== -/
def q_AQ (Y : Nat → Int32) (L : Nat) (R : Nat × Nat × q_B) (s : Nat) (b : Bool) (μ0 : q_M) (v : Int32) (μ' : q_M) (ρ' : q_R) : Prop := q_ρ b = ρ' ∧ (v = 0 ∨ v = 1) ∧ (v = 0 → q_ML R μ0 μ') ∧ (¬ v = 0 → ∃ f' s' w', q_MC Y L R f' 0 s' w' μ0 μ' ∧ q_RZ 131 132 μ' w'.2.2.2.2 ∧ s < s')
theorem q_RZ_ad {μ : q_M} {B : q_B} {i x y z : Nat} (h : q_RZ 131 132 μ B) (hW : q_WF B) (hi : i < 7) (h4 : B.1 i < 4) (hx : μ 132 (12 * i + 3 * B.1 i) = nI x) (hy : μ 132 (12 * i + 3 * B.1 i + 1) = nI y) : q_RZ 131 132 (q_up (q_up μ 132 (12 * i + 3 * B.1 i + 2) (nI z)) 131 i (nI (B.1 i + 1))) (q_ad B i x y z) := by
  intro k hk
  have hWk := (hW k).1
  refine ⟨?_, fun j hj => ?_⟩
  · rw [q_ad_n]
    by_cases e : k = i
    · subst e; rw [q_ups, if_pos rfl]
    · rw [q_upo (fun q => e q.2), q_upc (by decide), if_neg e]; exact (h k hk).1
  · rw [q_ad_n] at hj
    unfold q_ad
    dsimp only
    refine ⟨?_, ?_, ?_⟩
    · rw [q_upc (by decide)]
      by_cases e : k = i
      · subst e
        rw [if_pos rfl] at hj
        by_cases ej : j = B.1 k
        · subst ej
          rw [q_upo (by omega), if_pos ⟨rfl, rfl⟩]
          exact hx
        · rw [q_upo (by omega), if_neg (fun q => ej q.2)]
          exact ((h k hk).2 j (by omega)).1
      · rw [if_neg e] at hj
        rw [q_upo (by omega), if_neg (fun q => e q.1)]
        exact ((h k hk).2 j hj).1
    · rw [q_upc (by decide)]
      by_cases e : k = i
      · subst e
        rw [if_pos rfl] at hj
        by_cases ej : j = B.1 k
        · subst ej
          rw [q_upo (by omega), if_pos ⟨rfl, rfl⟩]
          exact hy
        · rw [q_upo (by omega), if_neg (fun q => ej q.2)]
          exact ((h k hk).2 j (by omega)).2.1
      · rw [if_neg e] at hj
        rw [q_upo (by omega), if_neg (fun q => e q.1)]
        exact ((h k hk).2 j hj).2.1
    · rw [q_upc (by decide)]
      by_cases e : k = i
      · subst e
        rw [if_pos rfl] at hj
        by_cases ej : j = B.1 k
        · subst ej
          rw [q_ups, if_pos ⟨rfl, rfl⟩]
        · rw [q_upo (by omega), if_neg (fun q => ej q.2)]
          exact ((h k hk).2 j (by omega)).2.2
      · rw [if_neg e] at hj
        rw [q_upo (by omega), if_neg (fun q => e q.1)]
        exact ((h k hk).2 j hj).2.2
theorem q_RZ_w {μ : q_M} {B : q_B} {i d : Nat} {v : Int32} (h : q_RZ 131 132 μ B) (hW : q_WF B) (hi : i < 7) (h4 : B.1 i < 4) (hd : d < 3) : q_RZ 131 132 (q_up μ 132 (12 * i + 3 * B.1 i + d) v) B := by
  intro k hk
  have hWk := (hW k).1
  refine ⟨by rw [q_upc (by decide)]; exact (h k hk).1, fun j hj => ?_⟩
  by_cases e : k = i
  · subst e
    rw [q_upo (by omega), q_upo (by omega), q_upo (by omega)]
    exact (h k hk).2 j hj
  · rw [q_upo (by omega), q_upo (by omega), q_upo (by omega)]
    exact (h k hk).2 j hj
section MZ
variable {C : q_C} {l : Launch} {μ : q_M} {b : Bool} {Y : Nat → Int32} {L : Nat} {R : Nat × Nat × q_B} {f s s0 : Nat} {w : q_W} {μ0 μ' : q_M}
theorem q_needS {x : Int32} {slot i : Nat} (hY : q_TY Y L) (h : q_MC Y L R f slot s w μ0 μ) (hsl : slot < 8) (hx : q_cd Y L s = x ↔ s < L ∧ q_wd Y s (q_te Y L s) i) (hk : q_stp Y L slot s w = if q_wd Y s (q_te Y L s) i then (0, w) else (1, w)) (he : ¬ s < L → slot ≠ 0) : q_Ct C l FX8_need 3 142 142 [.ref (q_a C 122), .int x] μ (q_ρ b) (q_PI (q_NS Y L R slot s w b μ0 μ)) :=
  (c_needs hY h.1 h.2.1 h.2.2.1 x).weak (fun _ _ _ ⟨v, e, h1⟩ => ⟨v, e, q_NS_of h hsl hx hk he h1⟩)
theorem q_numS {slot lo hi : Nat} {W : Nat → q_W} (hY : q_TY Y L) (h : q_MC Y L R f slot s w μ0 μ) (hsl : slot < 8) (h0 : slot ≠ 0) (hlo : lo < 2 ^ 31) (hhi : hi < 2 ^ 31) (hk1 : q_nu Y s (q_te Y L s) = -1 → q_stp Y L slot s w = (1, w)) (hk2 : ∀ n, s < L → n < 1000 → q_nu Y s (q_te Y L s) = nI n → ∃ w', q_stp Y L slot s w = (if lo ≤ n ∧ n ≤ hi then 0 else 2, w') ∧ w' = W n) : q_Ct C l FX8_aNumber 3 142 142 [.ref (q_a C 122), .int (nI lo), .int (nI hi)] μ (q_ρ b) (q_PI (q_NV Y L R slot s lo hi W b μ0 μ)) :=
  (c_num hY h.1 h.2.1 h.2.2.1 (nI lo) (nI hi)).weak (fun _ _ _ ⟨v, e, h1⟩ => ⟨v, e, q_NV_of h hsl h0 hlo hhi hk1 hk2 h1⟩)
theorem q_nuc {x : Int32} {n : Nat} (h : x = nI n) (hn : n < 1000) : ¬ x = -1 ∧ x.toNatClampNeg = n := by
  subst h
  refine ⟨fun q => ?_, nI_clamp (by omega)⟩
  have := nI_pos (n := n) (by omega)
  rw [q] at this
  exact this (by decide)
theorem q_sL {n : Nat} (hY : q_TY Y L) (e : q_nu Y s (q_te Y L s) = nI n) (hn : n < 1000) : s < L := by
  refine Nat.not_le.mp (fun q => (q_nuc e hn).1 ?_)
  unfold q_nu
  rw [if_neg (fun z => ?_)]
  rw [hY.2.1 s q] at z
  exact absurd z.1 (by decide)
theorem q_k2_3 (n : Nat) (h : n < 1000) (e : q_nu Y s (q_te Y L s) = nI n) : ∃ w', q_stp Y L 3 s w = (if q_re w.2.2.2.2 w.1 ≤ n ∧ n ≤ 899 then 0 else 2, w') ∧ w' = (w.1, n, w.2.2) := by
  rw [q_sp3, if_neg (q_nuc e h).1, (q_nuc e h).2]
  exact ⟨_, rfl, rfl⟩
theorem q_k2_5 (n : Nat) (h : n < 1000) (e : q_nu Y s (q_te Y L s) = nI n) : ∃ w', q_stp Y L 5 s w = (if w.2.1 + 1 ≤ n ∧ n ≤ 900 then 0 else 2, w') ∧ w' = (w.1, w.2.1, n, w.2.2.2) := by
  rw [q_sp5, if_neg (q_nuc e h).1, (q_nuc e h).2]
  exact ⟨_, rfl, rfl⟩
theorem q_k2_7 (n : Nat) (h : n < 1000) (e : q_nu Y s (q_te Y L s) = nI n) : ∃ w', q_stp Y L 7 s w = (if 10 ≤ n ∧ n ≤ 99 then 0 else 2, w') ∧ w' = (w.1, w.2.1, w.2.2.1, n, w.2.2.2.2) := by
  rw [q_sp7, if_neg (q_nuc e h).1, (q_nuc e h).2]
  exact ⟨_, rfl, rfl⟩
theorem q_k2_1 (hok : ∀ n, n ≤ 6 → q_nu Y s (q_te Y L s) = nI n → w.2.2.2.2.1 n < 4) (n : Nat) (h : n < 1000) (e : q_nu Y s (q_te Y L s) = nI n) : ∃ w', q_stp Y L 1 s w = (if 0 ≤ n ∧ n ≤ 6 then 0 else 2, w') ∧ w' = (n, w.2) := by
  rw [q_sp1, if_neg (q_nuc e h).1, (q_nuc e h).2]
  refine ⟨_, ?_, rfl⟩
  unfold q_k1
  by_cases h6 : n ≤ 6
  · rw [if_pos h6, if_neg (by have := hok n h6 e; omega), if_pos ⟨Nat.zero_le _, h6⟩]
  · rw [if_neg h6, if_neg (fun q => h6 q.2)]
theorem q_AQ_f {v : Int32} (h : v = 0) (hl : q_ML R μ0 μ') : q_AQ Y L R s0 b μ0 0 μ' (q_ρ b) := ⟨rfl, Or.inl rfl, fun _ => hl, fun q => absurd rfl q⟩
theorem q_AQ_8 {v : Int32} {ρ' : q_R} {M : q_M} (h : q_MC Y L R f 8 s w μ0 M) (hlt : s0 < s) (hRN : q_RZ 131 132 M (q_ad w.2.2.2.2 w.1 w.2.1 w.2.2.1 w.2.2.2.1)) (hn : q_ND Y L s b M 59 v μ' ρ') : q_AQ Y L R s0 b μ0 v μ' ρ' := by
  obtain ⟨h1, h2, h3, h4⟩ := hn
  refine ⟨h1, h2, fun q => ?_, fun q => ?_⟩
  · obtain ⟨g1, g2⟩ := h3 q
    rw [← g2]
    exact q_MC_bad (k := 1) h (by omega) (by decide) (fun hs => by rw [q_sp8, if_neg (fun z => g1 (q_cd59.mpr ⟨hs, z⟩))]) (fun hs => ⟨rfl, by decide⟩)
  · obtain ⟨g1, g2, g3⟩ := h4 q
    have g4 := q_cd59.mp g1
    rw [q_nx_l g4.1] at g3
    obtain ⟨f', s', e1, e2⟩ := q_MC_go h (by omega) g4.1 (by rw [q_sp8, if_pos g4.2]) (q_TM_nf h.1 g2) g3 (fun c j a1 a2 a3 => by rw [g2 _ _ (by omega)]; exact h.2.2.2.2.2.2.1 c j a1 a2 a3) (by rw [g2 _ _ (by omega)]; exact h.2.2.2.2.2.2.2)
    exact ⟨f', s', _, e1, hRN.same (fun c j a => g2 _ _ (by omega)), by omega⟩
set_option maxRecDepth 100000 in
set_option maxHeartbeats 4000000 in
theorem az_108 {i : Nat} (hY : q_TY Y L) (hC : q_MC Y L R f 3 s w μ0 μ) (hlt : s0 < s) (hRN : q_RZ 131 132 μ w.2.2.2.2) (hi : i < 7) (h4 : w.2.2.2.2.1 i < 4) (hw1 : w.1 = i) : q_G C l FX8_aZone 4 142 142 (q_PI (q_AQ Y L R s0 b μ0)) 142 μ (q_ρ b) [(0, .ref (q_a C 122)), (1, .int (nI i)), (2, .int (nI (12 * i + 3 * w.2.2.2.2.1 i)))] [.int (nI (q_re w.2.2.2.2 i)), .ref (q_a C 122)] 108 := by
  have hiv := hC.2.2.2.2.1
  have hW := hiv.2.2.2.2
  have hre : q_re w.2.2.2.2 i < 2 ^ 31 := by
    unfold q_re
    by_cases e : w.2.2.2.2.1 i = 0
    · rw [if_pos e]; decide
    · rw [if_neg e]; have := ((hW i).2 (w.2.2.2.2.1 i - 1) (by omega)).2.1; omega
  refine g_sipush 111 899 dX8_aZone_108 rfl (by decide) ?_
  refine g_Vi 114 [_, _] _ dX8_aZone_111 rfl m_X8_aNumber l_X8_146 rfl rfl rfl (by decide) (q_numS (lo := q_re w.2.2.2.2 i) (hi := 899) (W := fun n => (i, n, w.2.2)) hY hC (by decide) (by decide) hre (by decide) (fun e => by rw [q_sp3, if_pos e]) (fun n _ h e => by have h9 := q_k2_3 (w := w) n h e; rw [hw1] at h9; exact h9)) rfl (Nat.le_of_ble_eq_true rfl) (by decide) (fun v111 μ111 ρ111 hc9 => ?_)
  obtain ⟨rfl, hv3, hc3⟩ := hc9
  refine g_if_ne 119 117 dX8_aZone_114 rfl (by decide) (fun h114 => ?_) (fun h114 => ?_)
  · obtain ⟨f3, s3, x, hC3, hX3, hl3, hx1, hx2, hn3⟩ := hc3.2 h114
    have hRN3 : q_RZ 131 132 μ111 w.2.2.2.2 := hRN.same (fun c j a => hX3 _ _ (by omega))
    refine g_aload_n 120 dX8_aZone_119 rfl rfl ?_
    refine g_getR 123 _ dX8_aZone_120 rfl f_X8_37 (by decide) rfl rfl rfl ?_
    refine g_iload_n 124 dX8_aZone_123 rfl rfl ?_
    refine g_aload_n 125 dX8_aZone_124 rfl rfl ?_
    refine g_getI 128 dX8_aZone_125 rfl f_X8_140 (by decide) rfl rfl ?_
    rw [hn3]
    refine g_iast 129 dX8_aZone_128 rfl (by decide) rfl (vp_in_nI (show (12 * i + 3 * w.2.2.2.2.1 i) < 84 by omega) (by omega)) ?_
    rw [nI_clamp (show (12 * i + 3 * w.2.2.2.2.1 i) < 2 ^ 31 by omega)]
    have hC3 := q_MC_up (k := (12 * i + 3 * w.2.2.2.2.1 i)) (v := nI x) hC3 (Or.inr rfl)
    have hRN3 := q_RZ_w (d := 0) (v := nI x) hRN3 hW hi h4 (by decide)
    refine g_aload_n 130 dX8_aZone_129 rfl rfl ?_
    refine g_iconst 131 5 dX8_aZone_130 rfl (by decide) ?_
    refine g_Vi 134 [_] _ dX8_aZone_131 rfl m_X8_need l_X8_143 rfl rfl rfl (by decide) (q_needS (i := 2) hY hC3 (by decide) q_cdw2 q_sp4 (fun _ => by decide)) rfl (Nat.le_of_ble_eq_true rfl) (by decide) (fun v131 μ131 ρ131 hc9 => ?_)
    obtain ⟨rfl, hv4, hc4⟩ := hc9
    refine g_if_eq 155 137 dX8_aZone_134 rfl (by decide) (fun h134 => ?_) (fun h134 => ?_)
    · refine g_iconst 156 0 dX8_aZone_155 rfl (by decide) ?_
      exact g_rz dX8_aZone_156 rfl (by first | exact Or.inl rfl | exact Or.inr rfl | assumption) rfl (q_AQ_f h134 (hc4.1 h134))
    · obtain ⟨f4, s4, hC4, hX4, hl4⟩ := hc4.2 h134
      have hRN4 : q_RZ 131 132 μ131 w.2.2.2.2 := hRN3.same (fun c j a => hX4 _ _ (by omega))
      have hx4 : μ131 132 (12 * i + 3 * w.2.2.2.2.1 i) = nI x := by rw [hX4 _ _ (by omega), q_ups]
      refine g_aload_n 138 dX8_aZone_137 rfl rfl ?_
      refine g_aload_n 139 dX8_aZone_138 rfl rfl ?_
      refine g_getR 142 _ dX8_aZone_139 rfl f_X8_37 (by decide) rfl rfl rfl ?_
      refine g_iload_n 143 dX8_aZone_142 rfl rfl ?_
      refine g_iald 144 dX8_aZone_143 rfl (by decide) rfl (vp_in_nI (show (12 * i + 3 * w.2.2.2.2.1 i) < 84 by omega) (by omega)) ?_
      rw [nI_clamp (show (12 * i + 3 * w.2.2.2.2.1 i) < 2 ^ 31 by omega)]
      rw [hx4]
      refine g_iconst 145 1 dX8_aZone_144 rfl (by decide) ?_
      refine g_iadd 146 dX8_aZone_145 rfl ?_
      rw [nI_1]
      refine g_sipush 149 900 dX8_aZone_146 rfl (by decide) ?_
      refine g_Vi 152 [_, _] _ dX8_aZone_149 rfl m_X8_aNumber l_X8_146 rfl rfl rfl (by decide) (q_numS (lo := x + 1) (hi := 900) (W := fun n => (i, x, n, w.2.2.2)) hY hC4 (by decide) (by decide) (by omega) (by decide) (fun e => by rw [q_sp5, if_pos e]) (fun n _ h e => q_k2_5 (w := (i, x, w.2.2)) n h e)) rfl (Nat.le_of_ble_eq_true rfl) (by decide) (fun v149 μ149 ρ149 hc9 => ?_)
      obtain ⟨rfl, hv5, hc5⟩ := hc9
      refine g_if_ne 157 155 dX8_aZone_152 rfl (by decide) (fun h152 => ?_) (fun h152 => ?_)
      · obtain ⟨f5, s5, y, hC5, hX5, hl5, hy1, hy2, hn5⟩ := hc5.2 h152
        have hRN5 : q_RZ 131 132 μ149 w.2.2.2.2 := hRN4.same (fun c j a => hX5 _ _ (by omega))
        have hx5 : μ149 132 (12 * i + 3 * w.2.2.2.2.1 i) = nI x := by rw [hX5 _ _ (by omega)]; exact hx4
        refine g_aload_n 158 dX8_aZone_157 rfl rfl ?_
        refine g_getR 161 _ dX8_aZone_158 rfl f_X8_37 (by decide) rfl rfl rfl ?_
        refine g_iload_n 162 dX8_aZone_161 rfl rfl ?_
        refine g_iconst 163 1 dX8_aZone_162 rfl (by decide) ?_
        refine g_iadd 164 dX8_aZone_163 rfl ?_
        rw [nI_1]
        refine g_aload_n 165 dX8_aZone_164 rfl rfl ?_
        refine g_getI 168 dX8_aZone_165 rfl f_X8_140 (by decide) rfl rfl ?_
        rw [hn5]
        refine g_iast 169 dX8_aZone_168 rfl (by decide) rfl (vp_in_nI (show (12 * i + 3 * w.2.2.2.2.1 i) + 1 < 84 by omega) (by omega)) ?_
        rw [nI_clamp (show (12 * i + 3 * w.2.2.2.2.1 i) + 1 < 2 ^ 31 by omega)]
        have hC5 := q_MC_up (k := (12 * i + 3 * w.2.2.2.2.1 i) + 1) (v := nI y) hC5 (Or.inr rfl)
        have hRN5 := q_RZ_w (d := 1) (v := nI y) hRN5 hW hi h4 (by decide)
        refine g_aload_n 170 dX8_aZone_169 rfl rfl ?_
        refine g_bipush 172 6 dX8_aZone_170 rfl (by decide) ?_
        refine g_Vi 175 [_] _ dX8_aZone_172 rfl m_X8_need l_X8_143 rfl rfl rfl (by decide) (q_needS (i := 3) hY hC5 (by decide) q_cdw3 q_sp6 (fun _ => by decide)) rfl (Nat.le_of_ble_eq_true rfl) (by decide) (fun v172 μ172 ρ172 hc9 => ?_)
        obtain ⟨rfl, hv6, hc6⟩ := hc9
        refine g_if_eq 189 178 dX8_aZone_175 rfl (by decide) (fun h175 => ?_) (fun h175 => ?_)
        · refine g_iconst 190 0 dX8_aZone_189 rfl (by decide) ?_
          exact g_rz dX8_aZone_190 rfl (by first | exact Or.inl rfl | exact Or.inr rfl | assumption) rfl (q_AQ_f h175 (hc6.1 h175))
        · obtain ⟨f6, s6, hC6, hX6, hl6⟩ := hc6.2 h175
          have hRN6 : q_RZ 131 132 μ172 w.2.2.2.2 := hRN5.same (fun c j a => hX6 _ _ (by omega))
          have hx6 : μ172 132 (12 * i + 3 * w.2.2.2.2.1 i) = nI x := by rw [hX6 _ _ (by omega), q_upo (by omega)]; exact hx5
          have hy6 : μ172 132 ((12 * i + 3 * w.2.2.2.2.1 i) + 1) = nI y := by rw [hX6 _ _ (by omega), q_ups]
          refine g_aload_n 179 dX8_aZone_178 rfl rfl ?_
          refine g_bipush 181 10 dX8_aZone_179 rfl (by decide) ?_
          refine g_bipush 183 99 dX8_aZone_181 rfl (by decide) ?_
          refine g_Vi 186 [_, _] _ dX8_aZone_183 rfl m_X8_aNumber l_X8_146 rfl rfl rfl (by decide) (q_numS (lo := 10) (hi := 99) (W := fun n => (i, x, y, n, w.2.2.2.2)) hY hC6 (by decide) (by decide) (by decide) (by decide) (fun e => by rw [q_sp7, if_pos e]) (fun n _ h e => q_k2_7 (w := (i, x, y, w.2.2.2)) n h e)) rfl (Nat.le_of_ble_eq_true rfl) (by decide) (fun v183 μ183 ρ183 hc9 => ?_)
          obtain ⟨rfl, hv7, hc7⟩ := hc9
          refine g_if_ne 191 189 dX8_aZone_186 rfl (by decide) (fun h186 => ?_) (fun h186 => ?_)
          · obtain ⟨f7, s7, z, hC7, hX7, hl7, hz1, hz2, hn7⟩ := hc7.2 h186
            have hRN7 : q_RZ 131 132 μ183 w.2.2.2.2 := hRN6.same (fun c j a => hX7 _ _ (by omega))
            have hx7 : μ183 132 (12 * i + 3 * w.2.2.2.2.1 i) = nI x := by rw [hX7 _ _ (by omega)]; exact hx6
            have hy7 : μ183 132 ((12 * i + 3 * w.2.2.2.2.1 i) + 1) = nI y := by rw [hX7 _ _ (by omega)]; exact hy6
            refine g_aload_n 192 dX8_aZone_191 rfl rfl ?_
            refine g_getR 195 _ dX8_aZone_192 rfl f_X8_37 (by decide) rfl rfl rfl ?_
            refine g_iload_n 196 dX8_aZone_195 rfl rfl ?_
            refine g_iconst 197 2 dX8_aZone_196 rfl (by decide) ?_
            refine g_iadd 198 dX8_aZone_197 rfl ?_
            rw [show nI (12 * i + 3 * w.2.2.2.2.1 i) + 2 = nI ((12 * i + 3 * w.2.2.2.2.1 i) + 2) from nI_add _ 2]
            refine g_aload_n 199 dX8_aZone_198 rfl rfl ?_
            refine g_getI 202 dX8_aZone_199 rfl f_X8_140 (by decide) rfl rfl ?_
            rw [hn7]
            refine g_iast 203 dX8_aZone_202 rfl (by decide) rfl (vp_in_nI (show (12 * i + 3 * w.2.2.2.2.1 i) + 2 < 84 by omega) (by omega)) ?_
            rw [nI_clamp (show (12 * i + 3 * w.2.2.2.2.1 i) + 2 < 2 ^ 31 by omega)]
            refine g_aload_n 204 dX8_aZone_203 rfl rfl ?_
            refine g_getR 207 _ dX8_aZone_204 rfl f_X8_34 (by decide) rfl rfl rfl ?_
            refine g_iload_n 208 dX8_aZone_207 rfl rfl ?_
            refine g_dup2 209 dX8_aZone_208 rfl rfl rfl ?_
            refine g_iald 210 dX8_aZone_209 rfl (by decide) rfl (vp_in_nI hi (by omega)) ?_
            rw [nI_clamp (show i < 2 ^ 31 by omega), q_upc (by decide), (hRN7 i hi).1]
            refine g_iconst 211 1 dX8_aZone_210 rfl (by decide) ?_
            refine g_iadd 212 dX8_aZone_211 rfl ?_
            rw [nI_1]
            refine g_iast 213 dX8_aZone_212 rfl (by decide) rfl (vp_in_nI hi (by omega)) ?_
            rw [nI_clamp (show i < 2 ^ 31 by omega)]
            have hC8 := q_MC_up (k := i) (v := nI (w.2.2.2.2.1 i + 1)) (q_MC_up (k := (12 * i + 3 * w.2.2.2.2.1 i) + 2) (v := nI z) hC7 (Or.inr rfl)) (Or.inl rfl)
            have hRN8 := q_RZ_ad (z := z) hRN7 hW hi h4 hx7 hy7
            refine g_aload_n 214 dX8_aZone_213 rfl rfl ?_
            refine g_bipush 216 59 dX8_aZone_214 rfl (by decide) ?_
            refine g_Vi 219 [_] _ dX8_aZone_216 rfl m_X8_need l_X8_143 rfl rfl rfl (by decide) (c_needs hY hC8.1 hC8.2.1 hC8.2.2.1 59) rfl (Nat.le_of_ble_eq_true rfl) (by decide) (fun v216 μ216 ρ216 hc9 => ?_)
            exact g_rz dX8_aZone_219 rfl hc9.2.1 rfl (q_AQ_8 hC8 (by omega) hRN8 hc9)
          · refine g_iconst 190 0 dX8_aZone_189 rfl (by decide) ?_
            exact g_rz dX8_aZone_190 rfl (by first | exact Or.inl rfl | exact Or.inr rfl | assumption) rfl (q_AQ_f h186 (hc7.1 h186))
      · refine g_iconst 156 0 dX8_aZone_155 rfl (by decide) ?_
        exact g_rz dX8_aZone_156 rfl (by first | exact Or.inl rfl | exact Or.inr rfl | assumption) rfl (q_AQ_f h152 (hc5.1 h152))
  · refine g_iconst 118 0 dX8_aZone_117 rfl (by decide) ?_
    exact g_rz dX8_aZone_118 rfl (by first | exact Or.inl rfl | exact Or.inr rfl | assumption) rfl (q_AQ_f h114 (hc3.1 h114))
set_option maxRecDepth 100000 in
set_option maxHeartbeats 4000000 in
theorem az_47 (hY : q_TY Y L) (hC : q_MC Y L R f 1 s w μ0 μ) (hlt : s0 < s) (hRN : q_RZ 131 132 μ w.2.2.2.2) (hok : ∀ n, n ≤ 6 → q_nu Y s (q_te Y L s) = nI n → w.2.2.2.2.1 n < 4) : q_G C l FX8_aZone 4 142 142 (q_PI (q_AQ Y L R s0 b μ0)) 142 μ (q_ρ b) [(0, .ref (q_a C 122))] [] 47 := by
  refine g_aload_n 48 dX8_aZone_47 rfl rfl ?_
  refine g_iconst 49 0 dX8_aZone_48 rfl (by decide) ?_
  refine g_bipush 51 6 dX8_aZone_49 rfl (by decide) ?_
  refine g_Vi 54 [_, _] _ dX8_aZone_51 rfl m_X8_aNumber l_X8_146 rfl rfl rfl (by decide) (q_numS (lo := 0) (hi := 6) (W := fun n => (n, w.2)) hY hC (by decide) (by decide) (by decide) (by decide) (fun e => by rw [q_sp1, if_pos e]) (fun n _ h e => q_k2_1 hok n h e)) rfl (Nat.le_of_ble_eq_true rfl) (by decide) (fun v51 μ51 ρ51 hc9 => ?_)
  obtain ⟨rfl, hv1, hc1⟩ := hc9
  refine g_if_ne 59 57 dX8_aZone_54 rfl (by decide) (fun h54 => ?_) (fun h54 => ?_)
  · obtain ⟨f1, s1, i, hC1, hX1, hl1, hi0, hi6, hn1⟩ := hc1.2 h54
    have hRN1 : q_RZ 131 132 μ51 w.2.2.2.2 := hRN.same (fun c j a => hX1 _ _ (by omega))
    have hi : i < 7 := by omega
    have h4 : w.2.2.2.2.1 i < 4 := (hC1.2.2.2.2.1.1 (by decide)).2
    have hW := hC1.2.2.2.2.1.2.2.2.2
    refine g_aload_n 60 dX8_aZone_59 rfl rfl ?_
    refine g_getI 63 dX8_aZone_60 rfl f_X8_140 (by decide) rfl rfl ?_
    rw [hn1]
    refine g_istore_n 64 dX8_aZone_63 rfl (by decide) ?_
    refine g_bipush 66 12 dX8_aZone_64 rfl (by decide) ?_
    refine g_iload_n 67 dX8_aZone_66 rfl rfl ?_
    refine g_imul 68 dX8_aZone_67 rfl ?_
    refine g_iconst 69 3 dX8_aZone_68 rfl (by decide) ?_
    refine g_aload_n 70 dX8_aZone_69 rfl rfl ?_
    refine g_getR 73 _ dX8_aZone_70 rfl f_X8_34 (by decide) rfl rfl rfl ?_
    refine g_iload_n 74 dX8_aZone_73 rfl rfl ?_
    refine g_iald 75 dX8_aZone_74 rfl (by decide) rfl (vp_in_nI hi (by omega)) ?_
    rw [nI_clamp (show i < 2 ^ 31 by omega), (hRN1 i hi).1]
    refine g_imul 76 dX8_aZone_75 rfl ?_
    refine g_iadd 77 dX8_aZone_76 rfl ?_
    rw [show (12 : Int32) * nI i = nI (12 * i) from pk_mul 12 i, show (3 : Int32) * nI (w.2.2.2.2.1 i) = nI (3 * w.2.2.2.2.1 i) from pk_mul 3 _, nI_add]
    refine g_istore_n 78 dX8_aZone_77 rfl (by decide) ?_
    refine g_aload_n 79 dX8_aZone_78 rfl rfl ?_
    refine g_iconst 80 4 dX8_aZone_79 rfl (by decide) ?_
    refine g_Vi 83 [_] _ dX8_aZone_80 rfl m_X8_need l_X8_143 rfl rfl rfl (by decide) (q_needS (i := 1) hY hC1 (by decide) q_cdw1 q_sp2 (fun _ => by decide)) rfl (Nat.le_of_ble_eq_true rfl) (by decide) (fun v80 μ80 ρ80 hc9 => ?_)
    obtain ⟨rfl, hv2, hc2⟩ := hc9
    refine g_if_eq 117 86 dX8_aZone_83 rfl (by decide) (fun h83 => ?_) (fun h83 => ?_)
    · refine g_iconst 118 0 dX8_aZone_117 rfl (by decide) ?_
      exact g_rz dX8_aZone_118 rfl (by first | exact Or.inl rfl | exact Or.inr rfl | assumption) rfl (q_AQ_f h83 (hc2.1 h83))
    · obtain ⟨f2, s2, hC2, hX2, hl2⟩ := hc2.2 h83
      have hRN2 : q_RZ 131 132 μ80 w.2.2.2.2 := hRN1.same (fun c j a => hX2 _ _ (by omega))
      refine g_aload_n 87 dX8_aZone_86 rfl rfl ?_
      refine g_aload_n 88 dX8_aZone_87 rfl rfl ?_
      refine g_getR 91 _ dX8_aZone_88 rfl f_X8_34 (by decide) rfl rfl rfl ?_
      refine g_iload_n 92 dX8_aZone_91 rfl rfl ?_
      refine g_iald 93 dX8_aZone_92 rfl (by decide) rfl (vp_in_nI hi (by omega)) ?_
      rw [nI_clamp (show i < 2 ^ 31 by omega), (hRN2 i hi).1]
      refine g_if_ne 100 96 dX8_aZone_93 rfl (by decide) (fun h93 => ?_) (fun h93 => ?_)
      · refine g_aload_n 101 dX8_aZone_100 rfl rfl ?_
        refine g_getR 104 _ dX8_aZone_101 rfl f_X8_37 (by decide) rfl rfl rfl ?_
        refine g_iload_n 105 dX8_aZone_104 rfl rfl ?_
        refine g_iconst 106 2 dX8_aZone_105 rfl (by decide) ?_
        refine g_isub 107 dX8_aZone_106 rfl ?_
        have h0 : w.2.2.2.2.1 i ≠ 0 := fun q => h93 (by rw [q]; rfl)
        rw [show nI (12 * i + 3 * w.2.2.2.2.1 i) - 2 = nI ((12 * i + 3 * w.2.2.2.2.1 i) - 2) from pk_sub (b := 2) (by omega)]
        refine g_iald 108 dX8_aZone_107 rfl (by decide) rfl (vp_in_nI (show (12 * i + 3 * w.2.2.2.2.1 i) - 2 < 84 by omega) (by omega)) ?_
        rw [nI_clamp (show (12 * i + 3 * w.2.2.2.2.1 i) - 2 < 2 ^ 31 by omega), show (12 * i + 3 * w.2.2.2.2.1 i) - 2 = 12 * i + 3 * (w.2.2.2.2.1 i - 1) + 1 by omega, ((hRN2 i hi).2 _ (by omega)).2.1]
        refine g_lv [(0, _), (1, _), (2, _)] rfl ?_
        have h9 := az_108 (C := C) (l := l) (b := b) (s0 := s0) hY hC2 (by omega) hRN2 hi h4 rfl
        rw [show q_re (i, w.2).2.2.2.2 i = w.2.2.2.2.2.2.1 i (w.2.2.2.2.1 i - 1) from if_neg h0] at h9
        exact h9
      · refine g_iconst 97 0 dX8_aZone_96 rfl (by decide) ?_
        refine g_goto 108 dX8_aZone_97 (by decide) ?_
        have h0 : w.2.2.2.2.1 i = 0 := (nI_eq (b := 0) (by omega) (by omega)).mp h93
        refine g_lv [(0, _), (1, _), (2, _)] rfl ?_
        have h9 := az_108 (C := C) (l := l) (b := b) (s0 := s0) hY hC2 (by omega) hRN2 hi h4 rfl
        rw [show q_re (i, w.2).2.2.2.2 i = 0 from if_pos h0] at h9
        exact h9
  · refine g_iconst 58 0 dX8_aZone_57 rfl (by decide) ?_
    exact g_rz dX8_aZone_58 rfl (by first | exact Or.inl rfl | exact Or.inr rfl | assumption) rfl (q_AQ_f h54 (hc1.1 h54))
set_option maxRecDepth 100000 in
set_option maxHeartbeats 4000000 in
theorem c_aZone (hY : q_TY Y L) (hC : q_MC Y L R f 0 s w μ0 μ) (hRN : q_RZ 131 132 μ w.2.2.2.2) (hs : s < L) : q_Ct C l FX8_aZone 4 142 142 [.ref (q_a C 122)] μ (q_ρ b) (q_PI (q_AQ Y L R s b μ0)) := by
  refine q_entry rfl (by decide) (Nat.le_of_ble_eq_true rfl) ?_
  refine g_lv [(0, _)] rfl ?_
  refine g_aload_n 1 dX8_aZone_0 rfl rfl ?_
  refine g_iconst 2 3 dX8_aZone_1 rfl (by decide) ?_
  refine g_Vi 5 [_] _ dX8_aZone_2 rfl m_X8_need l_X8_143 rfl rfl rfl (by decide) (q_needS (i := 0) hY hC (by decide) q_cdw0 q_sp0 (fun q => absurd hs q)) rfl (Nat.le_of_ble_eq_true rfl) (by decide) (fun v2 μ2 ρ2 hc9 => ?_)
  obtain ⟨rfl, hv0, hc0⟩ := hc9
  refine g_if_ne 10 8 dX8_aZone_5 rfl (by decide) (fun h5 => ?_) (fun h5 => ?_)
  · obtain ⟨f1, s1, hC1, hX1, hl1⟩ := hc0.2 h5
    have hRN1 : q_RZ 131 132 μ2 w.2.2.2.2 := hRN.same (fun c j a => hX1 _ _ (by omega))
    have hW := hC1.2.2.2.2.1.2.2.2.2
    refine g_aload_n 11 dX8_aZone_10 rfl rfl ?_
    refine g_getI 14 dX8_aZone_11 rfl f_X8_112 (by decide) rfl rfl ?_
    rw [hC1.2.1.2.1]
    refine g_iconst 15 2 dX8_aZone_14 rfl (by decide) ?_
    refine g_icmp_ne 47 18 dX8_aZone_15 rfl (by decide) (fun h15 => ?_) (fun h15 => ?_)
    · refine az_47 hY hC1 hl1 hRN1 (fun m hm em => ?_)
      exact absurd (q_cd2.mpr ⟨q_sL hY em (by omega), (q_nuc em (by omega)).1⟩) h15
    · have h2 := q_cd2.mp h15
      obtain ⟨_, _, n, hn, en⟩ := q_nu_n h2.1 h2.2
      have hval : μ2 122 16 = nI n := by rw [hC1.2.1.2.2.2 h15, en]
      refine g_aload_n 19 dX8_aZone_18 rfl rfl ?_
      refine g_getI 22 dX8_aZone_19 rfl f_X8_125 (by decide) rfl rfl ?_
      rw [hval]
      refine g_Si 25 [_] _ dX8_aZone_22 rfl m_X8_isStage l_X8_82 rfl (c_MisStage _) rfl (Nat.le_of_ble_eq_true rfl) (by decide) (fun v22 μ22 ρ22 hc9 => ?_)
      obtain ⟨rfl, rfl, rfl⟩ := hc9
      rw [q_b_iff (show q_in (nI n) 0 6 ↔ 0 ≤ n ∧ n ≤ 6 from q_inN (n := n) (a := 0) (b := 6) (by omega) (by omega) (by omega))]
      refine g_if_eq 47 28 dX8_aZone_25 rfl (by decide) (fun h25 => ?_) (fun h25 => ?_)
      · refine az_47 hY hC1 hl1 hRN1 (fun m hm em => ?_)
        exact absurd ((nI_eq (by omega) (by omega)).mp (en.symm.trans em)) (fun q => q_b_0.mp h25 ⟨Nat.zero_le _, by omega⟩)
      · have h6 := (q_b_n.mp h25).2
        refine g_aload_n 29 dX8_aZone_28 rfl rfl ?_
        refine g_getR 32 _ dX8_aZone_29 rfl f_X8_34 (by decide) rfl rfl rfl ?_
        refine g_aload_n 33 dX8_aZone_32 rfl rfl ?_
        refine g_getI 36 dX8_aZone_33 rfl f_X8_125 (by decide) rfl rfl ?_
        rw [hval]
        refine g_iald 37 dX8_aZone_36 rfl (by decide) rfl (vp_in_nI (show n < 7 by omega) (by omega)) ?_
        rw [nI_clamp (show n < 2 ^ 31 by omega), (hRN1 n (by omega)).1]
        have hWn := (hW n).1
        refine g_iconst 38 4 dX8_aZone_37 rfl (by decide) ?_
        refine g_icmp_ne 47 41 dX8_aZone_38 rfl (by decide) (fun h38 => ?_) (fun h38 => ?_)
        · refine az_47 hY hC1 hl1 hRN1 (fun m hm em => ?_)
          have e9 := (nI_eq (by omega) (by omega)).mp (en.symm.trans em)
          subst e9
          exact Nat.lt_of_le_of_ne hWn (fun q => h38 (by rw [q]; rfl))
        · refine g_aload_n 42 dX8_aZone_41 rfl rfl ?_
          refine g_iconst 43 3 dX8_aZone_42 rfl (by decide) ?_
          refine g_Vi 46 [_] _ dX8_aZone_43 rfl m_X8_bad l_X8_134 rfl rfl rfl (by decide) (c_bad _) rfl (Nat.le_of_ble_eq_true rfl) (by decide) (fun v43 μ43 ρ43 hc9 => ?_)
          obtain ⟨rfl, rfl, rfl⟩ := hc9
          rw [hC1.2.1.1]
          exact g_rz dX8_aZone_46 rfl (Or.inl rfl) rfl (q_AQ_f (v := 0) rfl (q_MC_bad (k := 3) hC1 (by decide) (by decide) (fun _ => by rw [q_sp1, if_neg h2.2, (q_nuc en hn).2]; unfold q_k1; rw [if_pos h6, if_pos (by have := (nI_eq (a := w.2.2.2.2.1 n) (b := 4) (by omega) (by omega)).mp h38; omega)]) (fun q => absurd h2.1 q)))
  · refine g_iconst 9 0 dX8_aZone_8 rfl (by decide) ?_
    exact g_rz dX8_aZone_9 rfl (by first | exact Or.inl rfl | exact Or.inr rfl | assumption) rfl (q_AQ_f h5 (hc0.1 h5))
end MZ
