/-! ===== goes, sweep: the reference ===== -/
theorem q_fu_sn (g : Nat → Nat) (s : Nat) : ∀ k x, 1 ≤ x → q_fu g s (k + 1) x = if q_fu g s k x = 0 then (if g (x + k) = s then x + k else 0) else q_fu g s k x
  | 0, x, _ => by simp [q_fu]
  | k + 1, x, hx => by
    have ih := q_fu_sn g s k (x + 1) (by omega)
    rw [q_fu]
    by_cases e : g x = s
    · rw [if_pos e]
      rw [show q_fu g s (k + 1) x = x from by rw [q_fu, if_pos e]]
      rw [if_neg (by omega)]
    · rw [if_neg e, ih]
      rw [show q_fu g s (k + 1) x = q_fu g s k (x + 1) from by rw [q_fu, if_neg e]]
      rw [show x + 1 + k = x + (k + 1) by omega]
theorem q_fu_lu (g : Nat → Nat) (s : Nat) : ∀ N, (q_fu g s N 1 = 0 ↔ q_lu g s N = 0) ∧ q_fu g s N 1 ≤ q_lu g s N
  | 0 => by simp [q_fu, q_lu]
  | N + 1 => by
    have ih := q_fu_lu g s N
    have hl := q_lu_le g s N
    rw [q_fu_sn g s N 1 (by omega), q_lu, show 1 + N = N + 1 by omega]
    by_cases e : g (N + 1) = s
    · rw [if_pos e, if_pos e]
      by_cases q : q_fu g s N 1 = 0
      · rw [if_pos q]; exact ⟨Iff.rfl, Nat.le_refl _⟩
      · rw [if_neg q]; exact ⟨⟨fun z => absurd z q, fun z => by omega⟩, by omega⟩
    · rw [if_neg e, if_neg e]
      by_cases q : q_fu g s N 1 = 0
      · rw [if_pos q]; exact ⟨⟨fun _ => ih.1.mp q, fun _ => rfl⟩, Nat.zero_le _⟩
      · rw [if_neg q]; exact ih
def q_mx (st : Nat → Int32) : Nat → Int32
  | 0 => -1
  | r + 1 => if q_mx st r < st r then st r else q_mx st r
def q_nb (bk st : Nat → Int32) (i : Nat) : Nat → Int32
  | 0 => 0
  | r + 1 => if bk r = nI i ∧ ¬ st r = -1 then q_nb bk st i r + 1 else q_nb bk st i r
section MG
variable {C : q_C} {l : Launch} {μ : q_M} {b : Bool}
set_option maxRecDepth 100000 in
set_option maxHeartbeats 4000000 in
theorem c_btm  : q_Ct C l FX8_between 0 142 142 [.ref (q_a C 122), .int (-1), .int (-1)] μ (q_ρ b) (q_is 0 μ (q_ρ b)) := by
  refine q_entry rfl (by decide) (Nat.le_of_ble_eq_true rfl) ?_
  refine g_lv [(0, _), (1, _), (2, _)] rfl ?_
  refine g_iconst 1 0 dX8_between_0 rfl (by decide) ?_
  refine g_istore_n 2 dX8_between_1 rfl (by decide) ?_
  refine g_iload_n 3 dX8_between_2 rfl rfl ?_
  refine g_iconst 4 1 dX8_between_3 rfl (by decide) ?_
  refine g_iadd 5 dX8_between_4 rfl ?_
  refine g_istore 7 dX8_between_5 rfl (by decide) ?_
  refine g_iload 9 dX8_between_7 rfl rfl ?_
  refine g_iload_n 10 dX8_between_9 rfl rfl ?_
  refine g_icmp_gt 29 13 dX8_between_10 rfl (by decide) (fun h10 => ?_) (fun h10 => ?_)
  · refine g_iload_n 30 dX8_between_29 rfl rfl ?_
    exact g_ri dX8_between_30 rfl rfl ⟨rfl, rfl, rfl⟩
  · exact absurd (by decide) h10
set_option maxRecDepth 100000 in
set_option maxHeartbeats 4000000 in
theorem lp_Mgoes {V : Int32} {N s : Nat} {cm : Nat → Nat} {op cl len : Nat → Int32} {pc : Int32} {g : Nat → Nat} (hF : q_MF μ N cm op cl len pc) (hs : s < 8) (hg : ∀ x, 1 ≤ x → x ≤ N → μ 141 x = nI (g x) ∧ g x < 8) (hVd : V = (if (q_fu g s N 1) = 0 then 0 else q_bt len (q_fu g s N 1) ((q_lu g s N) - (q_fu g s N 1)))) : ∀ k x, x + k = 7 → q_G C l FX8_goes 13 142 142 (q_is V μ (q_ρ b)) 142 μ (q_ρ b) [(0, .ref (q_a C 122)), (1, .int (nI s)), (2, .int (q_en (q_fu g s (min x N) 1))), (3, .int (q_en (q_lu g s (min x N)))), (4, .int (nI (x + 1)))] [] 23 := by
  intro k
  induction k with
  | zero =>
    intro x hK9
    refine g_iload 25 dX8_goes_23 rfl rfl ?_
    refine g_bipush 27 8 dX8_goes_25 rfl (by decide) ?_
    refine g_icmp_ge 74 30 dX8_goes_27 rfl (by decide) (fun h27 => ?_) (fun h27 => ?_)
    · have hN7 := hF.1
      rw [show min x N = N by omega]
      have hfl := q_fu_lu g s N
      have hll := q_lu_le g s N
      by_cases q0 : q_fu g s N 1 = 0
      · refine g_aload_n 75 dX8_goes_74 rfl rfl ?_
        refine g_iload_n 76 dX8_goes_75 rfl rfl ?_
        refine g_iload_n 77 dX8_goes_76 rfl rfl ?_
        rw [q0, hfl.1.mp q0]
        refine g_Vi 80 [_, _] _ dX8_goes_77 rfl m_X8_between l_X8_186 rfl rfl rfl (by decide) c_btm rfl (Nat.le_of_ble_eq_true rfl) (by decide) (fun v77 μ77 ρ77 hc9 => ?_)
        obtain ⟨rfl, rfl, rfl⟩ := hc9
        exact g_ri dX8_goes_80 rfl rfl ⟨by rw [hVd, if_pos q0], rfl, rfl⟩
      · refine g_aload_n 75 dX8_goes_74 rfl rfl ?_
        refine g_iload_n 76 dX8_goes_75 rfl rfl ?_
        refine g_iload_n 77 dX8_goes_76 rfl rfl ?_
        rw [show q_en (q_fu g s N 1) = nI (q_fu g s N 1) from if_neg q0, show q_en (q_lu g s N) = nI (q_lu g s N) from if_neg (fun q => q0 (hfl.1.mpr q))]
        refine g_Vi 80 [_, _] _ dX8_goes_77 rfl m_X8_between l_X8_186 rfl rfl rfl (by decide) (c_bt (len := len) (by omega) (by omega) hF.2.2.2.1) rfl (Nat.le_of_ble_eq_true rfl) (by decide) (fun v77 μ77 ρ77 hc9 => ?_)
        obtain ⟨rfl, rfl, rfl⟩ := hc9
        exact g_ri dX8_goes_80 rfl rfl ⟨by rw [hVd, if_neg q0], rfl, rfl⟩
    · exact absurd (nI_le (a := 8) (b := x + 1) (by omega) (by omega)) h27
  | succ k ih =>
    intro x hK9
    refine g_iload 25 dX8_goes_23 rfl rfl ?_
    refine g_bipush 27 8 dX8_goes_25 rfl (by decide) ?_
    refine g_icmp_ge 74 30 dX8_goes_27 rfl (by decide) (fun h27 => ?_) (fun h27 => ?_)
    · exact absurd h27 (nI_ge (a := x + 1) (b := 8) (by omega) (by omega))
    · refine g_aload_n 31 dX8_goes_30 rfl rfl ?_
      refine g_iload 33 dX8_goes_31 rfl rfl ?_
      refine g_Vi 36 [_] _ dX8_goes_33 rfl m_X8_isNeeded l_X8_180 rfl rfl rfl (by decide) (c_need hF (i := x) (by omega)) rfl (Nat.le_of_ble_eq_true rfl) (by decide) (fun v33 μ33 ρ33 hc9 => ?_)
      obtain ⟨rfl, rfl, rfl⟩ := hc9
      refine g_if_eq 68 39 dX8_goes_36 rfl (by decide) (fun h36 => ?_) (fun h36 => ?_)
      · refine g_iinc 71 (_ + 1) dX8_goes_68 rfl rfl rfl (by decide) ?_
        refine g_goto 23 dX8_goes_71 (by decide) ?_
        rw [nI_1]
        refine g_lv [(0, _), (1, _), (2, _), (3, _), (4, _)] rfl ?_
        have h9 := ih (x + 1) (by omega)
        have hxN : ¬ x < N := q_b_0.mp h36
        rw [show min (x + 1) N = min x N by omega] at h9
        exact h9
      · refine g_aload_n 40 dX8_goes_39 rfl rfl ?_
        refine g_getR 43 _ dX8_goes_40 rfl f_X8_68 (by decide) rfl rfl rfl ?_
        refine g_iload 45 dX8_goes_43 rfl rfl ?_
        refine g_iald 46 dX8_goes_45 rfl (by decide) rfl (vp_in_nI (show x + 1 < 8 by omega) (by omega)) ?_
        rw [nI_clamp (show x + 1 < 2 ^ 31 by omega), (hg (x + 1) (by omega) (by have := q_b_n.mp h36; omega)).1]
        refine g_iload_n 47 dX8_goes_46 rfl rfl ?_
        refine g_icmp_eq 53 50 dX8_goes_47 rfl (by decide) (fun h47 => ?_) (fun h47 => ?_)
        · refine g_iload_n 54 dX8_goes_53 rfl rfl ?_
          refine g_iconst 55 (-1) dX8_goes_54 rfl (by decide) ?_
          refine g_icmp_ne 63 58 dX8_goes_55 rfl (by decide) (fun h55 => ?_) (fun h55 => ?_)
          · refine g_iload_n 64 dX8_goes_63 rfl rfl ?_
            refine g_istore_n 65 dX8_goes_64 rfl (by decide) ?_
            refine g_iload 67 dX8_goes_65 rfl rfl ?_
            refine g_istore_n 68 dX8_goes_67 rfl (by decide) ?_
            refine g_iinc 71 (_ + 1) dX8_goes_68 rfl rfl rfl (by decide) ?_
            refine g_goto 23 dX8_goes_71 (by decide) ?_
            rw [nI_1]
            refine g_lv [(0, _), (1, _), (2, _), (3, _), (4, _)] rfl ?_
            have h9 := ih (x + 1) (by omega)
            have hxN : x < N := q_b_n.mp h36
            have hA := hg (x + 1) (by omega) (by omega)
            rw [show min x N = x by omega] at *
            rw [show min (x + 1) N = x + 1 by omega, q_fu_sn g s x 1 (by omega), q_lu, show 1 + x = x + 1 by omega] at h9
            have hgs : g (x + 1) = s := (nI_eq (by omega) (by omega)).mp h47
            rw [if_pos hgs, if_pos hgs] at h9
            have hle : q_fu g s x 1 ≤ x := by have := q_fu_le2 g s x 1; omega
            have hx1 : nI (x + 1) = q_en (x + 1) := (if_neg (by omega)).symm
            rw [if_neg (fun q => h55 ((q_en_1 (by omega)).mpr q)), show q_en (x + 1) = nI (x + 1) from if_neg (by omega)] at h9
            exact h9
          · refine g_iload 60 dX8_goes_58 rfl rfl ?_
            refine g_goto 64 dX8_goes_60 (by decide) ?_
            refine g_istore_n 65 dX8_goes_64 rfl (by decide) ?_
            refine g_iload 67 dX8_goes_65 rfl rfl ?_
            refine g_istore_n 68 dX8_goes_67 rfl (by decide) ?_
            refine g_iinc 71 (_ + 1) dX8_goes_68 rfl rfl rfl (by decide) ?_
            refine g_goto 23 dX8_goes_71 (by decide) ?_
            rw [nI_1]
            refine g_lv [(0, _), (1, _), (2, _), (3, _), (4, _)] rfl ?_
            have h9 := ih (x + 1) (by omega)
            have hxN : x < N := q_b_n.mp h36
            have hA := hg (x + 1) (by omega) (by omega)
            rw [show min x N = x by omega] at *
            rw [show min (x + 1) N = x + 1 by omega, q_fu_sn g s x 1 (by omega), q_lu, show 1 + x = x + 1 by omega] at h9
            have hgs : g (x + 1) = s := (nI_eq (by omega) (by omega)).mp h47
            rw [if_pos hgs, if_pos hgs] at h9
            have hle : q_fu g s x 1 ≤ x := by have := q_fu_le2 g s x 1; omega
            have hx1 : nI (x + 1) = q_en (x + 1) := (if_neg (by omega)).symm
            rw [if_pos ((q_en_1 (by omega)).mp h55)] at h9
            rw [q_en, if_neg (show ¬ x + 1 = 0 by omega)] at h9
            exact h9
        · refine g_goto 68 dX8_goes_50 (by decide) ?_
          refine g_iinc 71 (_ + 1) dX8_goes_68 rfl rfl rfl (by decide) ?_
          refine g_goto 23 dX8_goes_71 (by decide) ?_
          rw [nI_1]
          refine g_lv [(0, _), (1, _), (2, _), (3, _), (4, _)] rfl ?_
          have h9 := ih (x + 1) (by omega)
          have hxN : x < N := q_b_n.mp h36
          have hA := hg (x + 1) (by omega) (by omega)
          rw [show min x N = x by omega] at *
          rw [show min (x + 1) N = x + 1 by omega, q_fu_sn g s x 1 (by omega), q_lu, show 1 + x = x + 1 by omega] at h9
          have hgn : ¬ g (x + 1) = s := fun q => h47 (by rw [q])
          rw [if_neg hgn, if_neg hgn] at h9
          by_cases q0 : q_fu g s x 1 = 0
          · rw [if_pos q0] at h9
            rw [q0]
            exact h9
          · rw [if_neg q0] at h9
            exact h9
set_option maxRecDepth 100000 in
set_option maxHeartbeats 4000000 in
theorem c_Mgoes {I : q_I} (hV : q_MV μ I) (hT : q_SE I) {s : Nat} (hs : s < i_n0 I) : q_Ct C l FX8_goes 13 142 142 [.ref (q_a C 122), .int (nI s)] μ (q_ρ b) (q_PI fun v μ' ρ' => (if q_fu (i_g I) s (i_N I) 1 = 0 then 0 else q_bt (i_len I) (q_fu (i_g I) s (i_N I) 1) (q_lu (i_g I) s (i_N I) - q_fu (i_g I) s (i_N I) 1)) = v ∧ q_ρ b = ρ' ∧ (∀ c j, (c < 134 ∨ 141 < c) → μ' c j = μ c j)) := by
  refine q_entry rfl (by decide) (Nat.le_of_ble_eq_true rfl) ?_
  refine g_lv [(0, _), (1, _)] rfl ?_
  refine g_iload_n 1 dX8_goes_0 rfl rfl ?_
  refine g_iconst 2 0 dX8_goes_1 rfl (by decide) ?_
  refine g_aload_n 3 dX8_goes_2 rfl rfl ?_
  refine g_Vi 6 [] _ dX8_goes_3 rfl m_X8_finds l_X8_198 rfl rfl rfl (by decide) (c_finds hV hT) rfl (Nat.le_of_ble_eq_true rfl) (by decide) (fun v3 μ3 ρ3 hc9 => ?_)
  obtain ⟨rfl, rfl, hok, hfr⟩ := hc9
  refine g_iconst 7 1 dX8_goes_6 rfl (by decide) ?_
  refine g_isub 8 dX8_goes_7 rfl ?_
  refine g_Si 11 [_, _, _] _ dX8_goes_8 rfl m_X8_isIn l_X8_71 rfl (c_isIn _ _ _) rfl (Nat.le_of_ble_eq_true rfl) (by decide) (fun v8 μ8 ρ8 hc9 => ?_)
  obtain ⟨rfl, rfl, rfl⟩ := hc9
  refine g_if_ne 16 14 dX8_goes_11 rfl (by decide) (fun h11 => ?_) (fun h11 => ?_)
  · refine g_iconst 17 (-1) dX8_goes_16 rfl (by decide) ?_
    refine g_istore_n 18 dX8_goes_17 rfl (by decide) ?_
    refine g_iconst 19 (-1) dX8_goes_18 rfl (by decide) ?_
    refine g_istore_n 20 dX8_goes_19 rfl (by decide) ?_
    refine g_iconst 21 1 dX8_goes_20 rfl (by decide) ?_
    refine g_istore 23 dX8_goes_21 rfl (by decide) ?_
    refine g_lv [(0, _), (1, _), (2, .int (q_en (q_fu (i_g I) s (min 0 (i_N I)) 1))), (3, .int (q_en (q_lu (i_g I) s (min 0 (i_N I))))), (4, .int (nI (0 + 1)))] (by rw [Nat.zero_min]; rfl) ?_
    have hF := q_MF_I hV.1.1 hok.1 hok.2.1 (fun j hj => by rw [hfr 128 j (by decide)]; exact hV.2.1 j hj) (fun j hj => by rw [hfr 123 _ (by decide)]; exact hV.2.2.1 j hj) hV.2.2.2
    refine q_Gw (lp_Mgoes (g := i_g I) hF (by have := i_n0_le I; omega) (fun x h1 h2 => ⟨hok.2.2 x h1 h2, by have := i_g_lt I h1 h2; have := i_n0_le I; omega⟩) rfl 7 0 (by omega)) (fun r μ' ρ' h => ?_)
    obtain ⟨v, rfl, rfl, rfl, rfl⟩ := h
    exact ⟨_, rfl, rfl, rfl, hfr⟩
  · exact (q_b_0.mp h11 (q_inmI hs (by have := i_n0_le I; omega))).elim
set_option maxRecDepth 100000 in
set_option maxHeartbeats 4000000 in
theorem c_Mgoes_n {I : q_I} (hV : q_MV μ I) (hT : q_SE I) {s : Int32} (hs : ¬ q_in s 0 (nI (i_n0 I) - 1)) : q_Ct C l FX8_goes 13 142 142 [.ref (q_a C 122), .int s] μ (q_ρ b) (q_PI fun v μ' ρ' => (-1) = v ∧ q_ρ b = ρ' ∧ (∀ c j, (c < 134 ∨ 141 < c) → μ' c j = μ c j)) := by
  refine q_entry rfl (by decide) (Nat.le_of_ble_eq_true rfl) ?_
  refine g_lv [(0, _), (1, _)] rfl ?_
  refine g_iload_n 1 dX8_goes_0 rfl rfl ?_
  refine g_iconst 2 0 dX8_goes_1 rfl (by decide) ?_
  refine g_aload_n 3 dX8_goes_2 rfl rfl ?_
  refine g_Vi 6 [] _ dX8_goes_3 rfl m_X8_finds l_X8_198 rfl rfl rfl (by decide) (c_finds hV hT) rfl (Nat.le_of_ble_eq_true rfl) (by decide) (fun v3 μ3 ρ3 hc9 => ?_)
  obtain ⟨rfl, rfl, hok, hfr⟩ := hc9
  refine g_iconst 7 1 dX8_goes_6 rfl (by decide) ?_
  refine g_isub 8 dX8_goes_7 rfl ?_
  refine g_Si 11 [_, _, _] _ dX8_goes_8 rfl m_X8_isIn l_X8_71 rfl (c_isIn _ _ _) rfl (Nat.le_of_ble_eq_true rfl) (by decide) (fun v8 μ8 ρ8 hc9 => ?_)
  obtain ⟨rfl, rfl, rfl⟩ := hc9
  refine g_if_ne 16 14 dX8_goes_11 rfl (by decide) (fun h11 => ?_) (fun h11 => ?_)
  · exact (hs (q_b_n.mp h11)).elim
  · refine g_iconst 15 (-1) dX8_goes_14 rfl (by decide) ?_
    exact g_ri dX8_goes_15 rfl rfl ⟨rfl, rfl, hfr⟩
set_option maxRecDepth 100000 in
set_option maxHeartbeats 4000000 in
theorem lp_Mswp {I : q_I} {i : Nat} {w : Int32} {Po : q_P} (hi : i < 7) (hcn : i_cnt I ≤ 10) (hc : μ 122 0 = nI (i_cnt I)) (h134 : ∀ r, r < 10 → μ 134 (10 * i + r) = i_st I i r) (h126 : ∀ r, r < i_cnt I → μ 126 r = i_bk I r) (hk9 : q_G C l FX8_sweep 3 142 142 Po 142 μ (q_ρ b) [(0, .ref (q_a C 122)), (1, .int (nI i)), (2, .int w), (3, .int (q_bd (i_bk I) (i_st I i) i (i_cnt I))), (4, .int (q_nb (i_bk I) (i_st I i) i (i_cnt I))), (5, .int (q_mx (i_st I i) (i_cnt I)))] [] 124) : ∀ k r2, r2 + k = i_cnt I → q_G C l FX8_sweep 3 142 142 Po 142 μ (q_ρ b) [(0, .ref (q_a C 122)), (1, .int (nI i)), (2, .int w), (3, .int (q_bd (i_bk I) (i_st I i) i r2)), (4, .int (q_nb (i_bk I) (i_st I i) i r2)), (5, .int (q_mx (i_st I i) r2)), (6, .int (nI r2))] [] 33 := by
  intro k
  induction k with
  | zero =>
    intro r2 hK9
    refine g_iload 35 dX8_sweep_33 rfl rfl ?_
    refine g_aload_n 36 dX8_sweep_35 rfl rfl ?_
    refine g_getI 39 dX8_sweep_36 rfl f_X8_75 (by decide) rfl rfl ?_
    rw [hc]
    refine g_icmp_ge 124 42 dX8_sweep_39 rfl (by decide) (fun h39 => ?_) (fun h39 => ?_)
    · rw [show r2 = i_cnt I by omega]
      refine g_lv [(0, _), (1, _), (2, _), (3, _), (4, _), (5, _)] rfl ?_
      exact hk9
    · exact absurd (nI_le (by omega) (by omega)) h39
  | succ k ih =>
    intro r2 hK9
    refine g_iload 35 dX8_sweep_33 rfl rfl ?_
    refine g_aload_n 36 dX8_sweep_35 rfl rfl ?_
    refine g_getI 39 dX8_sweep_36 rfl f_X8_75 (by decide) rfl rfl ?_
    rw [hc]
    refine g_icmp_ge 124 42 dX8_sweep_39 rfl (by decide) (fun h39 => ?_) (fun h39 => ?_)
    · exact absurd h39 (nI_ge (by omega) (by omega))
    · refine g_aload_n 43 dX8_sweep_42 rfl rfl ?_
      refine g_getR 46 _ dX8_sweep_43 rfl f_X8_47 (by decide) rfl rfl rfl ?_
      refine g_bipush 48 10 dX8_sweep_46 rfl (by decide) ?_
      refine g_iload_n 49 dX8_sweep_48 rfl rfl ?_
      refine g_imul 50 dX8_sweep_49 rfl ?_
      refine g_iload 52 dX8_sweep_50 rfl rfl ?_
      refine g_iadd 53 dX8_sweep_52 rfl ?_
      rw [q_ix]
      refine g_iald 54 dX8_sweep_53 rfl (by decide) rfl (vp_in_nI (show 10 * i + r2 < 70 by omega) (by omega)) ?_
      rw [nI_clamp (show 10 * i + r2 < 2 ^ 31 by omega), h134 r2 (by omega)]
      refine g_iload 56 dX8_sweep_54 rfl rfl ?_
      refine g_icmp_le 74 59 dX8_sweep_56 rfl (by decide) (fun h56 => ?_) (fun h56 => ?_)
      · refine g_iload 76 dX8_sweep_74 rfl rfl ?_
        refine g_istore 78 dX8_sweep_76 rfl (by decide) ?_
        refine g_aload_n 79 dX8_sweep_78 rfl rfl ?_
        refine g_getR 82 _ dX8_sweep_79 rfl f_X8_47 (by decide) rfl rfl rfl ?_
        refine g_bipush 84 10 dX8_sweep_82 rfl (by decide) ?_
        refine g_iload_n 85 dX8_sweep_84 rfl rfl ?_
        refine g_imul 86 dX8_sweep_85 rfl ?_
        refine g_iload 88 dX8_sweep_86 rfl rfl ?_
        refine g_iadd 89 dX8_sweep_88 rfl ?_
        rw [q_ix]
        refine g_iald 90 dX8_sweep_89 rfl (by decide) rfl (vp_in_nI (show 10 * i + r2 < 70 by omega) (by omega)) ?_
        rw [nI_clamp (show 10 * i + r2 < 2 ^ 31 by omega), h134 r2 (by omega)]
        refine g_iconst 91 (-1) dX8_sweep_90 rfl (by decide) ?_
        refine g_icmp_eq 118 94 dX8_sweep_91 rfl (by decide) (fun h91 => ?_) (fun h91 => ?_)
        · refine g_iinc 121 (_ + 1) dX8_sweep_118 rfl rfl rfl (by decide) ?_
          refine g_goto 33 dX8_sweep_121 (by decide) ?_
          rw [nI_1]
          refine g_lv [(0, _), (1, _), (2, _), (3, _), (4, _), (5, _), (6, _)] rfl ?_
          have h9 := ih (r2 + 1) (by omega)
          rw [q_bd, if_neg (fun q => q.2 h91), q_nb, if_neg (fun q => q.2 h91), q_mx, if_neg (Int32.not_lt.mpr h56)] at h9
          exact h9
        · refine g_aload_n 95 dX8_sweep_94 rfl rfl ?_
          refine g_getR 98 _ dX8_sweep_95 rfl f_X8_19 (by decide) rfl rfl rfl ?_
          refine g_iload 100 dX8_sweep_98 rfl rfl ?_
          refine g_iald 101 dX8_sweep_100 rfl (by decide) rfl (vp_in_nI (show r2 < 10 by omega) (by omega)) ?_
          rw [nI_clamp (show r2 < 2 ^ 31 by omega), h126 r2 (by omega)]
          refine g_iload_n 102 dX8_sweep_101 rfl rfl ?_
          refine g_icmp_eq 108 105 dX8_sweep_102 rfl (by decide) (fun h102 => ?_) (fun h102 => ?_)
          · refine g_iload_n 109 dX8_sweep_108 rfl rfl ?_
            refine g_iconst 110 1 dX8_sweep_109 rfl (by decide) ?_
            refine g_iload 112 dX8_sweep_110 rfl rfl ?_
            refine g_ishl 113 dX8_sweep_112 rfl ?_
            refine g_ior 114 dX8_sweep_113 rfl ?_
            refine g_istore_n 115 dX8_sweep_114 rfl (by decide) ?_
            refine g_iinc 118 (_ + 1) dX8_sweep_115 rfl rfl rfl (by decide) ?_
            refine g_iinc 121 (_ + 1) dX8_sweep_118 rfl rfl rfl (by decide) ?_
            refine g_goto 33 dX8_sweep_121 (by decide) ?_
            rw [nI_1]
            refine g_lv [(0, _), (1, _), (2, _), (3, _), (4, _), (5, _), (6, _)] rfl ?_
            have h9 := ih (r2 + 1) (by omega)
            rw [q_bd, if_pos ⟨h102, h91⟩, q_nb, if_pos ⟨h102, h91⟩, q_mx, if_neg (Int32.not_lt.mpr h56)] at h9
            exact h9
          · refine g_goto 118 dX8_sweep_105 (by decide) ?_
            refine g_iinc 121 (_ + 1) dX8_sweep_118 rfl rfl rfl (by decide) ?_
            refine g_goto 33 dX8_sweep_121 (by decide) ?_
            rw [nI_1]
            refine g_lv [(0, _), (1, _), (2, _), (3, _), (4, _), (5, _), (6, _)] rfl ?_
            have h9 := ih (r2 + 1) (by omega)
            rw [q_bd, if_neg (fun q => h102 q.1), q_nb, if_neg (fun q => h102 q.1), q_mx, if_neg (Int32.not_lt.mpr h56)] at h9
            exact h9
      · refine g_aload_n 60 dX8_sweep_59 rfl rfl ?_
        refine g_getR 63 _ dX8_sweep_60 rfl f_X8_47 (by decide) rfl rfl rfl ?_
        refine g_bipush 65 10 dX8_sweep_63 rfl (by decide) ?_
        refine g_iload_n 66 dX8_sweep_65 rfl rfl ?_
        refine g_imul 67 dX8_sweep_66 rfl ?_
        refine g_iload 69 dX8_sweep_67 rfl rfl ?_
        refine g_iadd 70 dX8_sweep_69 rfl ?_
        rw [q_ix]
        refine g_iald 71 dX8_sweep_70 rfl (by decide) rfl (vp_in_nI (show 10 * i + r2 < 70 by omega) (by omega)) ?_
        rw [nI_clamp (show 10 * i + r2 < 2 ^ 31 by omega), h134 r2 (by omega)]
        refine g_goto 76 dX8_sweep_71 (by decide) ?_
        refine g_istore 78 dX8_sweep_76 rfl (by decide) ?_
        refine g_aload_n 79 dX8_sweep_78 rfl rfl ?_
        refine g_getR 82 _ dX8_sweep_79 rfl f_X8_47 (by decide) rfl rfl rfl ?_
        refine g_bipush 84 10 dX8_sweep_82 rfl (by decide) ?_
        refine g_iload_n 85 dX8_sweep_84 rfl rfl ?_
        refine g_imul 86 dX8_sweep_85 rfl ?_
        refine g_iload 88 dX8_sweep_86 rfl rfl ?_
        refine g_iadd 89 dX8_sweep_88 rfl ?_
        rw [q_ix]
        refine g_iald 90 dX8_sweep_89 rfl (by decide) rfl (vp_in_nI (show 10 * i + r2 < 70 by omega) (by omega)) ?_
        rw [nI_clamp (show 10 * i + r2 < 2 ^ 31 by omega), h134 r2 (by omega)]
        refine g_iconst 91 (-1) dX8_sweep_90 rfl (by decide) ?_
        refine g_icmp_eq 118 94 dX8_sweep_91 rfl (by decide) (fun h91 => ?_) (fun h91 => ?_)
        · refine g_iinc 121 (_ + 1) dX8_sweep_118 rfl rfl rfl (by decide) ?_
          refine g_goto 33 dX8_sweep_121 (by decide) ?_
          rw [nI_1]
          refine g_lv [(0, _), (1, _), (2, _), (3, _), (4, _), (5, _), (6, _)] rfl ?_
          have h9 := ih (r2 + 1) (by omega)
          rw [q_bd, if_neg (fun q => q.2 h91), q_nb, if_neg (fun q => q.2 h91), q_mx, if_pos (Int32.not_le.mp h56)] at h9
          exact h9
        · refine g_aload_n 95 dX8_sweep_94 rfl rfl ?_
          refine g_getR 98 _ dX8_sweep_95 rfl f_X8_19 (by decide) rfl rfl rfl ?_
          refine g_iload 100 dX8_sweep_98 rfl rfl ?_
          refine g_iald 101 dX8_sweep_100 rfl (by decide) rfl (vp_in_nI (show r2 < 10 by omega) (by omega)) ?_
          rw [nI_clamp (show r2 < 2 ^ 31 by omega), h126 r2 (by omega)]
          refine g_iload_n 102 dX8_sweep_101 rfl rfl ?_
          refine g_icmp_eq 108 105 dX8_sweep_102 rfl (by decide) (fun h102 => ?_) (fun h102 => ?_)
          · refine g_iload_n 109 dX8_sweep_108 rfl rfl ?_
            refine g_iconst 110 1 dX8_sweep_109 rfl (by decide) ?_
            refine g_iload 112 dX8_sweep_110 rfl rfl ?_
            refine g_ishl 113 dX8_sweep_112 rfl ?_
            refine g_ior 114 dX8_sweep_113 rfl ?_
            refine g_istore_n 115 dX8_sweep_114 rfl (by decide) ?_
            refine g_iinc 118 (_ + 1) dX8_sweep_115 rfl rfl rfl (by decide) ?_
            refine g_iinc 121 (_ + 1) dX8_sweep_118 rfl rfl rfl (by decide) ?_
            refine g_goto 33 dX8_sweep_121 (by decide) ?_
            rw [nI_1]
            refine g_lv [(0, _), (1, _), (2, _), (3, _), (4, _), (5, _), (6, _)] rfl ?_
            have h9 := ih (r2 + 1) (by omega)
            rw [q_bd, if_pos ⟨h102, h91⟩, q_nb, if_pos ⟨h102, h91⟩, q_mx, if_pos (Int32.not_le.mp h56)] at h9
            exact h9
          · refine g_goto 118 dX8_sweep_105 (by decide) ?_
            refine g_iinc 121 (_ + 1) dX8_sweep_118 rfl rfl rfl (by decide) ?_
            refine g_goto 33 dX8_sweep_121 (by decide) ?_
            rw [nI_1]
            refine g_lv [(0, _), (1, _), (2, _), (3, _), (4, _), (5, _), (6, _)] rfl ?_
            have h9 := ih (r2 + 1) (by omega)
            rw [q_bd, if_neg (fun q => h102 q.1), q_nb, if_neg (fun q => h102 q.1), q_mx, if_pos (Int32.not_le.mp h56)] at h9
            exact h9
set_option maxRecDepth 100000 in
set_option maxHeartbeats 4000000 in
theorem c_Mswp_0 {I : q_I} (hV : q_MV μ I) {i : Nat} (hi : i < 7) : q_Ct C l FX8_sweep 3 142 142 [.ref (q_a C 122), .int (nI i), .int 0] μ (q_ρ b) (q_PI fun v μ' ρ' => (((q_nb (i_bk I) (i_st I i) i (i_cnt I)) + 3) / 4) = v ∧ q_ρ b = ρ' ∧ (∀ c j, (c < 134 ∨ 141 < c) → μ' c j = μ c j)) := by
  refine q_entry rfl (by decide) (Nat.le_of_ble_eq_true rfl) ?_
  refine g_lv [(0, _), (1, _), (2, _)] rfl ?_
  refine g_iload_n 1 dX8_sweep_0 rfl rfl ?_
  refine g_Si 4 [_] _ dX8_sweep_1 rfl m_X8_isStage l_X8_82 rfl (c_MisStage _) rfl (Nat.le_of_ble_eq_true rfl) (by decide) (fun v1 μ1 ρ1 hc9 => ?_)
  obtain ⟨rfl, rfl, rfl⟩ := hc9
  refine g_if_eq 16 7 dX8_sweep_4 rfl (by decide) (fun h4 => ?_) (fun h4 => ?_)
  · exact (q_b_0.mp h4 (q_stageI hi)).elim
  · refine g_iload_n 8 dX8_sweep_7 rfl rfl ?_
    refine g_iconst 9 0 dX8_sweep_8 rfl (by decide) ?_
    refine g_iconst 10 2 dX8_sweep_9 rfl (by decide) ?_
    refine g_Si 13 [_, _, _] _ dX8_sweep_10 rfl m_X8_isIn l_X8_71 rfl (c_isIn _ _ _) rfl (Nat.le_of_ble_eq_true rfl) (by decide) (fun v10 μ10 ρ10 hc9 => ?_)
    obtain ⟨rfl, rfl, rfl⟩ := hc9
    refine g_if_ne 18 16 dX8_sweep_13 rfl (by decide) (fun h13 => ?_) (fun h13 => ?_)
    · refine g_aload_n 19 dX8_sweep_18 rfl rfl ?_
      refine g_Vv 22 [] _ dX8_sweep_19 rfl m_X8_runs l_X8_177 rfl rfl rfl (by decide) (c_runs hV.1) rfl (Nat.le_of_ble_eq_true rfl) (by decide) (fun μ19 ρ19 hc9 => ?_)
      obtain ⟨rfl, hr7⟩ := hc9
      have hfr : ∀ c j, (c < 134 ∨ 141 < c) → μ19 c j = μ c j := fun c j hc => hr7.2 c j (by omega)
      have hG := hr7.1
      refine g_iconst 23 0 dX8_sweep_22 rfl (by decide) ?_
      refine g_istore_n 24 dX8_sweep_23 rfl (by decide) ?_
      refine g_iconst 25 0 dX8_sweep_24 rfl (by decide) ?_
      refine g_istore 27 dX8_sweep_25 rfl (by decide) ?_
      refine g_iconst 28 (-1) dX8_sweep_27 rfl (by decide) ?_
      refine g_istore 30 dX8_sweep_28 rfl (by decide) ?_
      refine g_iconst 31 0 dX8_sweep_30 rfl (by decide) ?_
      refine g_istore 33 dX8_sweep_31 rfl (by decide) ?_
      have h9 := lp_Mswp (C := C) (l := l) (b := b) (μ := μ19) (I := I) (i := i) (w := 0) (Po := (q_PI fun v μ' ρ' => (((q_nb (i_bk I) (i_st I i) i (i_cnt I)) + 3) / 4) = v ∧ q_ρ b = ρ' ∧ (∀ c j, (c < 134 ∨ 141 < c) → μ' c j = μ c j))) hi hV.1.1 (by rw [hfr 122 0 (by decide)]; exact hV.1.2.1) (hG i hi).1 (fun r hr => by rw [hfr 126 r (by decide)]; exact hV.1.2.2.2.2.1 r hr) ?_ (i_cnt I) 0 (by omega)
      · refine g_lv [(0, _), (1, _), (2, _), (3, _), (4, _), (5, _), (6, .int (nI 0))] rfl ?_
        exact h9
      refine g_iload_n 125 dX8_sweep_124 rfl rfl ?_
      refine g_if_ne 137 128 dX8_sweep_125 rfl (by decide) (fun h125 => ?_) (fun h125 => ?_)
      · exact absurd rfl h125
      · refine g_iload 130 dX8_sweep_128 rfl rfl ?_
        refine g_iconst 131 3 dX8_sweep_130 rfl (by decide) ?_
        refine g_iadd 132 dX8_sweep_131 rfl ?_
        refine g_iconst 133 4 dX8_sweep_132 rfl (by decide) ?_
        refine g_idiv 134 dX8_sweep_133 rfl (by decide) ?_
        refine g_goto 174 dX8_sweep_134 (by decide) ?_
        exact g_ri dX8_sweep_174 rfl rfl ⟨rfl, rfl, hfr⟩
    · exact (q_b_0.mp h13 (by decide)).elim
set_option maxRecDepth 100000 in
set_option maxHeartbeats 4000000 in
theorem c_Mswp_1 {I : q_I} (hV : q_MV μ I) {i : Nat} (hi : i < 7) : q_Ct C l FX8_sweep 3 142 142 [.ref (q_a C 122), .int (nI i), .int 1] μ (q_ρ b) (q_PI fun v μ' ρ' => (q_bd (i_bk I) (i_st I i) i (i_cnt I)) = v ∧ q_ρ b = ρ' ∧ (∀ c j, (c < 134 ∨ 141 < c) → μ' c j = μ c j)) := by
  refine q_entry rfl (by decide) (Nat.le_of_ble_eq_true rfl) ?_
  refine g_lv [(0, _), (1, _), (2, _)] rfl ?_
  refine g_iload_n 1 dX8_sweep_0 rfl rfl ?_
  refine g_Si 4 [_] _ dX8_sweep_1 rfl m_X8_isStage l_X8_82 rfl (c_MisStage _) rfl (Nat.le_of_ble_eq_true rfl) (by decide) (fun v1 μ1 ρ1 hc9 => ?_)
  obtain ⟨rfl, rfl, rfl⟩ := hc9
  refine g_if_eq 16 7 dX8_sweep_4 rfl (by decide) (fun h4 => ?_) (fun h4 => ?_)
  · exact (q_b_0.mp h4 (q_stageI hi)).elim
  · refine g_iload_n 8 dX8_sweep_7 rfl rfl ?_
    refine g_iconst 9 0 dX8_sweep_8 rfl (by decide) ?_
    refine g_iconst 10 2 dX8_sweep_9 rfl (by decide) ?_
    refine g_Si 13 [_, _, _] _ dX8_sweep_10 rfl m_X8_isIn l_X8_71 rfl (c_isIn _ _ _) rfl (Nat.le_of_ble_eq_true rfl) (by decide) (fun v10 μ10 ρ10 hc9 => ?_)
    obtain ⟨rfl, rfl, rfl⟩ := hc9
    refine g_if_ne 18 16 dX8_sweep_13 rfl (by decide) (fun h13 => ?_) (fun h13 => ?_)
    · refine g_aload_n 19 dX8_sweep_18 rfl rfl ?_
      refine g_Vv 22 [] _ dX8_sweep_19 rfl m_X8_runs l_X8_177 rfl rfl rfl (by decide) (c_runs hV.1) rfl (Nat.le_of_ble_eq_true rfl) (by decide) (fun μ19 ρ19 hc9 => ?_)
      obtain ⟨rfl, hr7⟩ := hc9
      have hfr : ∀ c j, (c < 134 ∨ 141 < c) → μ19 c j = μ c j := fun c j hc => hr7.2 c j (by omega)
      have hG := hr7.1
      refine g_iconst 23 0 dX8_sweep_22 rfl (by decide) ?_
      refine g_istore_n 24 dX8_sweep_23 rfl (by decide) ?_
      refine g_iconst 25 0 dX8_sweep_24 rfl (by decide) ?_
      refine g_istore 27 dX8_sweep_25 rfl (by decide) ?_
      refine g_iconst 28 (-1) dX8_sweep_27 rfl (by decide) ?_
      refine g_istore 30 dX8_sweep_28 rfl (by decide) ?_
      refine g_iconst 31 0 dX8_sweep_30 rfl (by decide) ?_
      refine g_istore 33 dX8_sweep_31 rfl (by decide) ?_
      have h9 := lp_Mswp (C := C) (l := l) (b := b) (μ := μ19) (I := I) (i := i) (w := 1) (Po := (q_PI fun v μ' ρ' => (q_bd (i_bk I) (i_st I i) i (i_cnt I)) = v ∧ q_ρ b = ρ' ∧ (∀ c j, (c < 134 ∨ 141 < c) → μ' c j = μ c j))) hi hV.1.1 (by rw [hfr 122 0 (by decide)]; exact hV.1.2.1) (hG i hi).1 (fun r hr => by rw [hfr 126 r (by decide)]; exact hV.1.2.2.2.2.1 r hr) ?_ (i_cnt I) 0 (by omega)
      · refine g_lv [(0, _), (1, _), (2, _), (3, _), (4, _), (5, _), (6, .int (nI 0))] rfl ?_
        exact h9
      refine g_iload_n 125 dX8_sweep_124 rfl rfl ?_
      refine g_if_ne 137 128 dX8_sweep_125 rfl (by decide) (fun h125 => ?_) (fun h125 => ?_)
      · refine g_iload_n 138 dX8_sweep_137 rfl rfl ?_
        refine g_iconst 139 1 dX8_sweep_138 rfl (by decide) ?_
        refine g_icmp_ne 146 142 dX8_sweep_139 rfl (by decide) (fun h139 => ?_) (fun h139 => ?_)
        · exact absurd rfl h139
        · refine g_iload_n 143 dX8_sweep_142 rfl rfl ?_
          refine g_goto 174 dX8_sweep_143 (by decide) ?_
          exact g_ri dX8_sweep_174 rfl rfl ⟨rfl, rfl, hfr⟩
      · exact absurd h125 (by decide)
    · exact (q_b_0.mp h13 (by decide)).elim
set_option maxRecDepth 100000 in
set_option maxHeartbeats 4000000 in
theorem c_Mswp_2 {I : q_I} (hV : q_MV μ I) {i : Nat} (hi : i < 7) : q_Ct C l FX8_sweep 3 142 142 [.ref (q_a C 122), .int (nI i), .int 2] μ (q_ρ b) (q_PI fun v μ' ρ' => (if (q_nb (i_bk I) (i_st I i) i (i_cnt I)) = 0 then -1 else (q_mx (i_st I i) (i_cnt I)) + 60 + 2 * i_len I i + 15 * (q_nb (i_bk I) (i_st I i) i (i_cnt I))) = v ∧ q_ρ b = ρ' ∧ (∀ c j, (c < 134 ∨ 141 < c) → μ' c j = μ c j)) := by
  refine q_entry rfl (by decide) (Nat.le_of_ble_eq_true rfl) ?_
  refine g_lv [(0, _), (1, _), (2, _)] rfl ?_
  refine g_iload_n 1 dX8_sweep_0 rfl rfl ?_
  refine g_Si 4 [_] _ dX8_sweep_1 rfl m_X8_isStage l_X8_82 rfl (c_MisStage _) rfl (Nat.le_of_ble_eq_true rfl) (by decide) (fun v1 μ1 ρ1 hc9 => ?_)
  obtain ⟨rfl, rfl, rfl⟩ := hc9
  refine g_if_eq 16 7 dX8_sweep_4 rfl (by decide) (fun h4 => ?_) (fun h4 => ?_)
  · exact (q_b_0.mp h4 (q_stageI hi)).elim
  · refine g_iload_n 8 dX8_sweep_7 rfl rfl ?_
    refine g_iconst 9 0 dX8_sweep_8 rfl (by decide) ?_
    refine g_iconst 10 2 dX8_sweep_9 rfl (by decide) ?_
    refine g_Si 13 [_, _, _] _ dX8_sweep_10 rfl m_X8_isIn l_X8_71 rfl (c_isIn _ _ _) rfl (Nat.le_of_ble_eq_true rfl) (by decide) (fun v10 μ10 ρ10 hc9 => ?_)
    obtain ⟨rfl, rfl, rfl⟩ := hc9
    refine g_if_ne 18 16 dX8_sweep_13 rfl (by decide) (fun h13 => ?_) (fun h13 => ?_)
    · refine g_aload_n 19 dX8_sweep_18 rfl rfl ?_
      refine g_Vv 22 [] _ dX8_sweep_19 rfl m_X8_runs l_X8_177 rfl rfl rfl (by decide) (c_runs hV.1) rfl (Nat.le_of_ble_eq_true rfl) (by decide) (fun μ19 ρ19 hc9 => ?_)
      obtain ⟨rfl, hr7⟩ := hc9
      have hfr : ∀ c j, (c < 134 ∨ 141 < c) → μ19 c j = μ c j := fun c j hc => hr7.2 c j (by omega)
      have hG := hr7.1
      refine g_iconst 23 0 dX8_sweep_22 rfl (by decide) ?_
      refine g_istore_n 24 dX8_sweep_23 rfl (by decide) ?_
      refine g_iconst 25 0 dX8_sweep_24 rfl (by decide) ?_
      refine g_istore 27 dX8_sweep_25 rfl (by decide) ?_
      refine g_iconst 28 (-1) dX8_sweep_27 rfl (by decide) ?_
      refine g_istore 30 dX8_sweep_28 rfl (by decide) ?_
      refine g_iconst 31 0 dX8_sweep_30 rfl (by decide) ?_
      refine g_istore 33 dX8_sweep_31 rfl (by decide) ?_
      have h9 := lp_Mswp (C := C) (l := l) (b := b) (μ := μ19) (I := I) (i := i) (w := 2) (Po := (q_PI fun v μ' ρ' => (if (q_nb (i_bk I) (i_st I i) i (i_cnt I)) = 0 then -1 else (q_mx (i_st I i) (i_cnt I)) + 60 + 2 * i_len I i + 15 * (q_nb (i_bk I) (i_st I i) i (i_cnt I))) = v ∧ q_ρ b = ρ' ∧ (∀ c j, (c < 134 ∨ 141 < c) → μ' c j = μ c j))) hi hV.1.1 (by rw [hfr 122 0 (by decide)]; exact hV.1.2.1) (hG i hi).1 (fun r hr => by rw [hfr 126 r (by decide)]; exact hV.1.2.2.2.2.1 r hr) ?_ (i_cnt I) 0 (by omega)
      · refine g_lv [(0, _), (1, _), (2, _), (3, _), (4, _), (5, _), (6, .int (nI 0))] rfl ?_
        exact h9
      refine g_iload_n 125 dX8_sweep_124 rfl rfl ?_
      refine g_if_ne 137 128 dX8_sweep_125 rfl (by decide) (fun h125 => ?_) (fun h125 => ?_)
      · refine g_iload_n 138 dX8_sweep_137 rfl rfl ?_
        refine g_iconst 139 1 dX8_sweep_138 rfl (by decide) ?_
        refine g_icmp_ne 146 142 dX8_sweep_139 rfl (by decide) (fun h139 => ?_) (fun h139 => ?_)
        · refine g_iload 148 dX8_sweep_146 rfl rfl ?_
          refine g_if_ne 155 151 dX8_sweep_148 rfl (by decide) (fun h148 => ?_) (fun h148 => ?_)
          · refine g_iload 157 dX8_sweep_155 rfl rfl ?_
            refine g_bipush 159 60 dX8_sweep_157 rfl (by decide) ?_
            refine g_iadd 160 dX8_sweep_159 rfl ?_
            refine g_iconst 161 2 dX8_sweep_160 rfl (by decide) ?_
            refine g_aload_n 162 dX8_sweep_161 rfl rfl ?_
            refine g_iload_n 163 dX8_sweep_162 rfl rfl ?_
            refine g_Vi 166 [_] _ dX8_sweep_163 rfl m_X8_length l_X8_88 rfl rfl rfl (by decide) (c_Mlength _ (by rw [nI_1]; exact vp_in_nI (show i + 1 < 8 by omega) (by omega))) rfl (Nat.le_of_ble_eq_true rfl) (by decide) (fun v163 μ163 ρ163 hc9 => ?_)
            obtain ⟨rfl, rfl, rfl⟩ := hc9
            rw [nI_1, nI_clamp (show i + 1 < 2 ^ 31 by omega), hfr 123 _ (by decide), hV.2.2.1 i hi]
            refine g_imul 167 dX8_sweep_166 rfl ?_
            refine g_iadd 168 dX8_sweep_167 rfl ?_
            refine g_bipush 170 15 dX8_sweep_168 rfl (by decide) ?_
            refine g_iload 172 dX8_sweep_170 rfl rfl ?_
            refine g_imul 173 dX8_sweep_172 rfl ?_
            refine g_iadd 174 dX8_sweep_173 rfl ?_
            exact g_ri dX8_sweep_174 rfl rfl ⟨if_neg h148, rfl, hfr⟩
          · refine g_iconst 152 (-1) dX8_sweep_151 rfl (by decide) ?_
            refine g_goto 174 dX8_sweep_152 (by decide) ?_
            exact g_ri dX8_sweep_174 rfl rfl ⟨if_pos h148, rfl, hfr⟩
        · exact absurd h139 (by decide)
      · exact absurd h125 (by decide)
    · exact (q_b_0.mp h13 (by decide)).elim
set_option maxRecDepth 100000 in
set_option maxHeartbeats 4000000 in
theorem c_Mswp_n {i k : Int32} (h : ¬ (q_in i 0 6 ∧ q_in k 0 2)) : q_Ct C l FX8_sweep 3 142 142 [.ref (q_a C 122), .int i, .int k] μ (q_ρ b) (q_is (-1) μ (q_ρ b)) := by
  refine q_entry rfl (by decide) (Nat.le_of_ble_eq_true rfl) ?_
  refine g_lv [(0, _), (1, _), (2, _)] rfl ?_
  refine g_iload_n 1 dX8_sweep_0 rfl rfl ?_
  refine g_Si 4 [_] _ dX8_sweep_1 rfl m_X8_isStage l_X8_82 rfl (c_MisStage _) rfl (Nat.le_of_ble_eq_true rfl) (by decide) (fun v1 μ1 ρ1 hc9 => ?_)
  obtain ⟨rfl, rfl, rfl⟩ := hc9
  refine g_if_eq 16 7 dX8_sweep_4 rfl (by decide) (fun h4 => ?_) (fun h4 => ?_)
  · refine g_iconst 17 (-1) dX8_sweep_16 rfl (by decide) ?_
    exact g_ri dX8_sweep_17 rfl rfl ⟨rfl, rfl, rfl⟩
  · refine g_iload_n 8 dX8_sweep_7 rfl rfl ?_
    refine g_iconst 9 0 dX8_sweep_8 rfl (by decide) ?_
    refine g_iconst 10 2 dX8_sweep_9 rfl (by decide) ?_
    refine g_Si 13 [_, _, _] _ dX8_sweep_10 rfl m_X8_isIn l_X8_71 rfl (c_isIn _ _ _) rfl (Nat.le_of_ble_eq_true rfl) (by decide) (fun v10 μ10 ρ10 hc9 => ?_)
    obtain ⟨rfl, rfl, rfl⟩ := hc9
    refine g_if_ne 18 16 dX8_sweep_13 rfl (by decide) (fun h13 => ?_) (fun h13 => ?_)
    · exact (h ⟨q_b_n.mp h4, q_b_n.mp h13⟩).elim
    · refine g_iconst 17 (-1) dX8_sweep_16 rfl (by decide) ?_
      exact g_ri dX8_sweep_17 rfl rfl ⟨rfl, rfl, rfl⟩
end MG
