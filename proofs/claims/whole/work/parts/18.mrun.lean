/-! ===== the race: the reference ===== -/
theorem q_ix (i r : Nat) : (10 : Int32) * nI i + nI r = nI (10 * i + r) := by rw [show (10 : Int32) * nI i = nI (10 * i) from pk_mul 10 i, nI_add]
theorem q_ixm (i p : Nat) : (10 : Int32) * nI i + nI (p + 1) - 1 = nI (10 * i + p) := by rw [q_ix, show 10 * i + (p + 1) = (10 * i + p) + 1 by omega, nI_pred]
theorem q_ixp (i r : Nat) : (10 : Int32) * nI (i + 1) - 10 + nI r = nI (10 * i + r) := by
  rw [show (10 : Int32) * nI (i + 1) = nI (10 * (i + 1)) from pk_mul 10 (i + 1), show nI (10 * (i + 1)) - 10 = nI (10 * (i + 1) - 10) from pk_sub (b := 10) (by omega), nI_add, show 10 * (i + 1) - 10 + r = 10 * i + r by omega]
section MR
variable {C : q_C} {l : Launch} {μ : q_M} {b : Bool}
set_option maxRecDepth 100000 in
set_option maxHeartbeats 4000000 in
theorem c_MisAhead {i r x : Nat} (hi : i < 7) (hr : r < 10) (hx : x < 10) : q_Ct C l FX8_isAhead 0 142 142 [.ref (q_a C 122), .int (nI i), .int (nI r), .int (nI x)] μ (q_ρ b) (q_is (q_b (μ 136 (10 * i + r) < μ 136 (10 * i + x) ∨ (μ 136 (10 * i + r) = μ 136 (10 * i + x) ∧ nI r < nI x))) μ (q_ρ b)) := by
  refine q_entry rfl (by decide) (Nat.le_of_ble_eq_true rfl) ?_
  refine g_lv [(0, _), (1, _), (2, _), (3, _)] rfl ?_
  refine g_aload_n 1 dX8_isAhead_0 rfl rfl ?_
  refine g_getR 4 _ dX8_isAhead_1 rfl f_X8_53 (by decide) rfl rfl rfl ?_
  refine g_bipush 6 10 dX8_isAhead_4 rfl (by decide) ?_
  refine g_iload_n 7 dX8_isAhead_6 rfl rfl ?_
  refine g_imul 8 dX8_isAhead_7 rfl ?_
  refine g_iload_n 9 dX8_isAhead_8 rfl rfl ?_
  refine g_iadd 10 dX8_isAhead_9 rfl ?_
  rw [q_ix]
  refine g_iald 11 dX8_isAhead_10 rfl (by decide) rfl (vp_in_nI (show 10 * i + r < 70 by omega) (by omega)) ?_
  rw [nI_clamp (show 10 * i + r < 2 ^ 31 by omega)]
  refine g_aload_n 12 dX8_isAhead_11 rfl rfl ?_
  refine g_getR 15 _ dX8_isAhead_12 rfl f_X8_53 (by decide) rfl rfl rfl ?_
  refine g_bipush 17 10 dX8_isAhead_15 rfl (by decide) ?_
  refine g_iload_n 18 dX8_isAhead_17 rfl rfl ?_
  refine g_imul 19 dX8_isAhead_18 rfl ?_
  refine g_iload_n 20 dX8_isAhead_19 rfl rfl ?_
  refine g_iadd 21 dX8_isAhead_20 rfl ?_
  rw [q_ix]
  refine g_iald 22 dX8_isAhead_21 rfl (by decide) rfl (vp_in_nI (show 10 * i + x < 70 by omega) (by omega)) ?_
  rw [nI_clamp (show 10 * i + x < 2 ^ 31 by omega)]
  refine g_icmp_lt 55 25 dX8_isAhead_22 rfl (by decide) (fun h22 => ?_) (fun h22 => ?_)
  · refine g_iconst 56 1 dX8_isAhead_55 rfl (by decide) ?_
    refine g_goto 60 dX8_isAhead_56 (by decide) ?_
    exact g_rz dX8_isAhead_60 rfl (by first | exact Or.inl rfl | exact Or.inr rfl | assumption) rfl ⟨q_b_t (Or.inl h22), rfl, rfl⟩
  · refine g_aload_n 26 dX8_isAhead_25 rfl rfl ?_
    refine g_getR 29 _ dX8_isAhead_26 rfl f_X8_53 (by decide) rfl rfl rfl ?_
    refine g_bipush 31 10 dX8_isAhead_29 rfl (by decide) ?_
    refine g_iload_n 32 dX8_isAhead_31 rfl rfl ?_
    refine g_imul 33 dX8_isAhead_32 rfl ?_
    refine g_iload_n 34 dX8_isAhead_33 rfl rfl ?_
    refine g_iadd 35 dX8_isAhead_34 rfl ?_
    rw [q_ix]
    refine g_iald 36 dX8_isAhead_35 rfl (by decide) rfl (vp_in_nI (show 10 * i + r < 70 by omega) (by omega)) ?_
    rw [nI_clamp (show 10 * i + r < 2 ^ 31 by omega)]
    refine g_aload_n 37 dX8_isAhead_36 rfl rfl ?_
    refine g_getR 40 _ dX8_isAhead_37 rfl f_X8_53 (by decide) rfl rfl rfl ?_
    refine g_bipush 42 10 dX8_isAhead_40 rfl (by decide) ?_
    refine g_iload_n 43 dX8_isAhead_42 rfl rfl ?_
    refine g_imul 44 dX8_isAhead_43 rfl ?_
    refine g_iload_n 45 dX8_isAhead_44 rfl rfl ?_
    refine g_iadd 46 dX8_isAhead_45 rfl ?_
    rw [q_ix]
    refine g_iald 47 dX8_isAhead_46 rfl (by decide) rfl (vp_in_nI (show 10 * i + x < 70 by omega) (by omega)) ?_
    rw [nI_clamp (show 10 * i + x < 2 ^ 31 by omega)]
    refine g_icmp_ne 59 50 dX8_isAhead_47 rfl (by decide) (fun h47 => ?_) (fun h47 => ?_)
    · refine g_iconst 60 0 dX8_isAhead_59 rfl (by decide) ?_
      exact g_rz dX8_isAhead_60 rfl (by first | exact Or.inl rfl | exact Or.inr rfl | assumption) rfl ⟨q_b_f (fun q => q.elim h22 (fun q2 => h47 q2.1)), rfl, rfl⟩
    · refine g_iload_n 51 dX8_isAhead_50 rfl rfl ?_
      refine g_iload_n 52 dX8_isAhead_51 rfl rfl ?_
      refine g_icmp_ge 59 55 dX8_isAhead_52 rfl (by decide) (fun h52 => ?_) (fun h52 => ?_)
      · refine g_iconst 60 0 dX8_isAhead_59 rfl (by decide) ?_
        exact g_rz dX8_isAhead_60 rfl (by first | exact Or.inl rfl | exact Or.inr rfl | assumption) rfl ⟨q_b_f (fun q => q.elim h22 (fun q2 => absurd h52 (Int32.not_le.mpr q2.2))), rfl, rfl⟩
      · refine g_iconst 56 1 dX8_isAhead_55 rfl (by decide) ?_
        refine g_goto 60 dX8_isAhead_56 (by decide) ?_
        exact g_rz dX8_isAhead_60 rfl (by first | exact Or.inl rfl | exact Or.inr rfl | assumption) rfl ⟨q_b_t (Or.inr ⟨h47, Int32.not_le.mp h52⟩), rfl, rfl⟩
set_option maxRecDepth 100000 in
set_option maxHeartbeats 4000000 in
theorem lp_comes {i r m : Nat} {o : Nat → Nat} {S : Nat → Int32} (hi : i < 7) (hr : r < 10) (hm : m < 10) (hcm : μ 138 i = nI m) (ho : ∀ j, j < m → μ 137 (10 * i + j) = nI (o j) ∧ o j < 10 ∧ μ 136 (10 * i + o j) = S (o j)) (hSr : μ 136 (10 * i + r) = S r) : ∀ p, p ≤ m → q_G C l FX8_comes 1 142 142 (q_to (q_rk μ 137 (10 * i) 138 i m (q_ps (q_ah S r) o p) r) (q_ρ b)) 142 (q_sh μ 137 (10 * i) m p) (q_ρ b) [(0, .ref (q_a C 122)), (1, .int (nI i)), (2, .int (nI r)), (3, .int (nI p))] [] 7 := by
  intro p
  induction p with
  | zero =>
    intro hpm
    refine g_iload_n 8 dX8_comes_7 rfl rfl ?_
    refine g_if_le 63 11 dX8_comes_8 rfl (by decide) (fun h8 => ?_) (fun h8 => ?_)
    · refine g_aload_n 64 dX8_comes_63 rfl rfl ?_
      refine g_getR 67 _ dX8_comes_64 rfl f_X8_56 (by decide) rfl rfl rfl ?_
      refine g_bipush 69 10 dX8_comes_67 rfl (by decide) ?_
      refine g_iload_n 70 dX8_comes_69 rfl rfl ?_
      refine g_imul 71 dX8_comes_70 rfl ?_
      refine g_iload_n 72 dX8_comes_71 rfl rfl ?_
      refine g_iadd 73 dX8_comes_72 rfl ?_
      refine g_iload_n 74 dX8_comes_73 rfl rfl ?_
      rw [q_ix]
      refine g_iast 75 dX8_comes_74 rfl (by decide) rfl (vp_in_nI (show 10 * i + (0) < 70 by omega) (by omega)) ?_
      rw [nI_clamp (show 10 * i + (0) < 2 ^ 31 by omega)]
      refine g_aload_n 76 dX8_comes_75 rfl rfl ?_
      refine g_getR 79 _ dX8_comes_76 rfl f_X8_59 (by decide) rfl rfl rfl ?_
      refine g_iload_n 80 dX8_comes_79 rfl rfl ?_
      refine g_dup2 81 dX8_comes_80 rfl rfl rfl ?_
      refine g_iald 82 dX8_comes_81 rfl (by decide) rfl (vp_in_nI hi (by omega)) ?_
      rw [nI_clamp (show i < 2 ^ 31 by omega), q_upc (by omega), q_sh_o (by omega), hcm]
      refine g_iconst 83 1 dX8_comes_82 rfl (by decide) ?_
      refine g_iadd 84 dX8_comes_83 rfl ?_
      rw [nI_1]
      refine g_iast 85 dX8_comes_84 rfl (by decide) rfl (vp_in_nI hi (by omega)) ?_
      rw [nI_clamp (show i < 2 ^ 31 by omega)]
      exact g_rv dX8_comes_85 rfl rfl (by unfold q_rk; exact ⟨rfl, rfl⟩)
    · exact absurd (by decide) h8
  | succ p ih =>
    intro hpm
    refine g_iload_n 8 dX8_comes_7 rfl rfl ?_
    refine g_if_le 63 11 dX8_comes_8 rfl (by decide) (fun h8 => ?_) (fun h8 => ?_)
    · exact absurd h8 (nI_nle (by omega) (by omega))
    · refine g_aload_n 12 dX8_comes_11 rfl rfl ?_
      refine g_iload_n 13 dX8_comes_12 rfl rfl ?_
      refine g_iload_n 14 dX8_comes_13 rfl rfl ?_
      refine g_aload_n 15 dX8_comes_14 rfl rfl ?_
      refine g_getR 18 _ dX8_comes_15 rfl f_X8_56 (by decide) rfl rfl rfl ?_
      refine g_bipush 20 10 dX8_comes_18 rfl (by decide) ?_
      refine g_iload_n 21 dX8_comes_20 rfl rfl ?_
      refine g_imul 22 dX8_comes_21 rfl ?_
      refine g_iload_n 23 dX8_comes_22 rfl rfl ?_
      refine g_iadd 24 dX8_comes_23 rfl ?_
      refine g_iconst 25 1 dX8_comes_24 rfl (by decide) ?_
      refine g_isub 26 dX8_comes_25 rfl ?_
      rw [q_ixm]
      refine g_iald 27 dX8_comes_26 rfl (by decide) rfl (vp_in_nI (show 10 * i + p < 70 by omega) (by omega)) ?_
      rw [nI_clamp (show 10 * i + p < 2 ^ 31 by omega), q_sh_l (by omega), (ho p (by omega)).1]
      refine g_Vi 30 [_, _, _] _ dX8_comes_27 rfl m_X8_isAhead l_X8_174 rfl rfl rfl (by decide) (c_MisAhead hi hr (ho p (by omega)).2.1) rfl (Nat.le_of_ble_eq_true rfl) (by decide) (fun v27 μ27 ρ27 hc9 => ?_)
      obtain ⟨rfl, rfl, rfl⟩ := hc9
      rw [q_sh_o (by omega), q_sh_o (by omega)]
      refine g_if_eq 63 33 dX8_comes_30 rfl (by decide) (fun h30 => ?_) (fun h30 => ?_)
      · refine g_aload_n 64 dX8_comes_63 rfl rfl ?_
        refine g_getR 67 _ dX8_comes_64 rfl f_X8_56 (by decide) rfl rfl rfl ?_
        refine g_bipush 69 10 dX8_comes_67 rfl (by decide) ?_
        refine g_iload_n 70 dX8_comes_69 rfl rfl ?_
        refine g_imul 71 dX8_comes_70 rfl ?_
        refine g_iload_n 72 dX8_comes_71 rfl rfl ?_
        refine g_iadd 73 dX8_comes_72 rfl ?_
        refine g_iload_n 74 dX8_comes_73 rfl rfl ?_
        rw [q_ix]
        refine g_iast 75 dX8_comes_74 rfl (by decide) rfl (vp_in_nI (show 10 * i + (p + 1) < 70 by omega) (by omega)) ?_
        rw [nI_clamp (show 10 * i + (p + 1) < 2 ^ 31 by omega)]
        refine g_aload_n 76 dX8_comes_75 rfl rfl ?_
        refine g_getR 79 _ dX8_comes_76 rfl f_X8_59 (by decide) rfl rfl rfl ?_
        refine g_iload_n 80 dX8_comes_79 rfl rfl ?_
        refine g_dup2 81 dX8_comes_80 rfl rfl rfl ?_
        refine g_iald 82 dX8_comes_81 rfl (by decide) rfl (vp_in_nI hi (by omega)) ?_
        rw [nI_clamp (show i < 2 ^ 31 by omega), q_upc (by omega), q_sh_o (by omega), hcm]
        refine g_iconst 83 1 dX8_comes_82 rfl (by decide) ?_
        refine g_iadd 84 dX8_comes_83 rfl ?_
        rw [nI_1]
        refine g_iast 85 dX8_comes_84 rfl (by decide) rfl (vp_in_nI hi (by omega)) ?_
        rw [nI_clamp (show i < 2 ^ 31 by omega)]
        exact g_rv dX8_comes_85 rfl rfl (by
      have ht : q_ah S r (o p) = false := (q_ahb hSr (ho p (by omega)).2.2).mp h30
      rw [q_ps, ht]
      unfold q_rk
      exact ⟨rfl, rfl⟩)
      · refine g_aload_n 34 dX8_comes_33 rfl rfl ?_
        refine g_getR 37 _ dX8_comes_34 rfl f_X8_56 (by decide) rfl rfl rfl ?_
        refine g_bipush 39 10 dX8_comes_37 rfl (by decide) ?_
        refine g_iload_n 40 dX8_comes_39 rfl rfl ?_
        refine g_imul 41 dX8_comes_40 rfl ?_
        refine g_iload_n 42 dX8_comes_41 rfl rfl ?_
        refine g_iadd 43 dX8_comes_42 rfl ?_
        rw [q_ix]
        refine g_aload_n 44 dX8_comes_43 rfl rfl ?_
        refine g_getR 47 _ dX8_comes_44 rfl f_X8_56 (by decide) rfl rfl rfl ?_
        refine g_bipush 49 10 dX8_comes_47 rfl (by decide) ?_
        refine g_iload_n 50 dX8_comes_49 rfl rfl ?_
        refine g_imul 51 dX8_comes_50 rfl ?_
        refine g_iload_n 52 dX8_comes_51 rfl rfl ?_
        refine g_iadd 53 dX8_comes_52 rfl ?_
        refine g_iconst 54 1 dX8_comes_53 rfl (by decide) ?_
        refine g_isub 55 dX8_comes_54 rfl ?_
        rw [q_ixm]
        refine g_iald 56 dX8_comes_55 rfl (by decide) rfl (vp_in_nI (show 10 * i + p < 70 by omega) (by omega)) ?_
        rw [nI_clamp (show 10 * i + p < 2 ^ 31 by omega), q_sh_l (by omega)]
        refine g_iast 57 dX8_comes_56 rfl (by decide) rfl (vp_in_nI (show 10 * i + (p + 1) < 70 by omega) (by omega)) ?_
        rw [nI_clamp (show 10 * i + (p + 1) < 2 ^ 31 by omega), q_sh_s (by omega)]
        refine g_iinc 60 (_ + (-1)) dX8_comes_57 rfl rfl rfl (by decide) ?_
        refine g_goto 7 dX8_comes_60 (by decide) ?_
        rw [show nI (p + 1) + -1 = nI p from pk_m1 p]
        refine g_lv [(0, _), (1, _), (2, _), (3, _)] rfl ?_
        have h9 := ih (by omega)
        have ht : q_ah S r (o p) = true := by
          cases ht : q_ah S r (o p) with
          | true => rfl
          | false => exact absurd ((q_ahb hSr (ho p (by omega)).2.2).mpr ht) h30
        rw [q_ps, ht]
        exact h9
set_option maxRecDepth 100000 in
set_option maxHeartbeats 4000000 in
theorem c_comes {i r m : Nat} {o : Nat → Nat} {S : Nat → Int32} (hi : i < 7) (hr : r < 10) (hm : m < 10) (hcm : μ 138 i = nI m) (ho : ∀ j, j < m → μ 137 (10 * i + j) = nI (o j) ∧ o j < 10 ∧ μ 136 (10 * i + o j) = S (o j)) (hSr : μ 136 (10 * i + r) = S r) : q_Ct C l FX8_comes 1 142 142 [.ref (q_a C 122), .int (nI i), .int (nI r)] μ (q_ρ b) (q_to (q_rk μ 137 (10 * i) 138 i m (q_ps (q_ah S r) o m) r) (q_ρ b)) := by
  refine q_entry rfl (by decide) (Nat.le_of_ble_eq_true rfl) ?_
  refine g_lv [(0, _), (1, _), (2, _)] rfl ?_
  refine g_aload_n 1 dX8_comes_0 rfl rfl ?_
  refine g_getR 4 _ dX8_comes_1 rfl f_X8_59 (by decide) rfl rfl rfl ?_
  refine g_iload_n 5 dX8_comes_4 rfl rfl ?_
  refine g_iald 6 dX8_comes_5 rfl (by decide) rfl (vp_in_nI hi (by omega)) ?_
  rw [nI_clamp (show i < 2 ^ 31 by omega), hcm]
  refine g_istore_n 7 dX8_comes_6 rfl (by decide) ?_
  refine g_lv [(0, _), (1, _), (2, _), (3, _)] rfl ?_
  have h9 := lp_comes (C := C) (l := l) (b := b) hi hr hm hcm ho hSr m (Nat.le_refl _)
  rw [q_sh_0] at h9
  exact h9
end MR
/-- of the first k starters of stage i, as the reference holds it -/
def q_MS (μ0 μ : q_M) (i k : Nat) (rin : Nat → Nat) (bg : Int32) (tm S bk : Nat → Int32) : Prop :=
  (∀ c j, ¬ ((c = 134 ∨ c = 135 ∨ c = 136 ∨ c = 137) ∧ 10 * i ≤ j ∧ j < 10 * i + 10) → ¬ (c = 138 ∧ j = i) → μ c j = μ0 c j) ∧
  (∀ r, r < 10 → μ 134 (10 * i + r) = q_st bg rin k r) ∧ (∀ r, r < 10 → μ 135 (10 * i + r) = q_ar bg tm bk i rin k r) ∧ (∀ k', k' < k → ¬ bk (rin k') = nI i → μ 136 (10 * i + rin k') = S (rin k')) ∧
  (∀ j, j < (q_so S bk i rin k).2 → μ 137 (10 * i + j) = nI ((q_so S bk i rin k).1 j)) ∧ μ 138 i = nI (q_so S bk i rin k).2
theorem q_MS_n {μ0 μ : q_M} {i k : Nat} {rin : Nat → Nat} {bg : Int32} {tm S bk : Nat → Int32} (hr : rin k < 10) (h : q_MS μ0 μ i k rin bg tm S bk) (hb : bk (rin k) = nI i) : q_MS μ0 (q_up μ 134 (10 * i + rin k) (bg + 2 * nI k)) i (k + 1) rin bg tm S bk := by
  obtain ⟨h1, h2, h3, h4, h5, h6⟩ := h
  have e : q_so S bk i rin (k + 1) = q_so S bk i rin k := by rw [q_so, if_pos hb]
  refine ⟨fun c j g1 g2 => ?_, fun r hr => ?_, fun r hr => ?_, fun k' hk' hb' => ?_, fun j hj => ?_, ?_⟩
  · rw [q_upo (by omega)]; exact h1 c j g1 g2
  · unfold q_st q_up
    by_cases q : r = rin k
    · rw [if_pos q, if_pos ⟨rfl, by omega⟩]
    · rw [if_neg q, if_neg (by omega)]; exact h2 r hr
  · rw [q_upc (by decide), q_ar, if_neg (fun z => z.2 hb)]; exact h3 r hr
  · rw [q_upc (by decide)]
    have hk : k' ≠ k := fun q => hb' (by rw [q]; exact hb)
    exact h4 k' (by omega) hb'
  · rw [e] at hj ⊢
    rw [q_upc (by decide)]; exact h5 j hj
  · rw [e, q_upc (by decide)]; exact h6
theorem q_MS_y {μ0 μ : q_M} {i k : Nat} {rin : Nat → Nat} {bg a s : Int32} {tm S bk : Nat → Int32} (hr : rin k < 10) (hk10 : k < 10) (h : q_MS μ0 μ i k rin bg tm S bk) (hb : ¬ bk (rin k) = nI i) (ha : a = bg + 2 * nI k + tm (rin k)) (hs : s = S (rin k)) :
    q_MS μ0 (q_rk (q_up (q_up (q_up μ 134 (10 * i + rin k) (bg + 2 * nI k)) 135 (10 * i + rin k) a) 136 (10 * i + rin k) s) 137 (10 * i) 138 i (q_so S bk i rin k).2 (q_ps (q_ah S (rin k)) (q_so S bk i rin k).1 (q_so S bk i rin k).2) (rin k)) i (k + 1) rin bg tm S bk := by
  obtain ⟨h1, h2, h3, h4, h5, h6⟩ := h
  subst ha hs
  have e : q_so S bk i rin (k + 1) = (q_io (q_ah S (rin k)) (q_so S bk i rin k).1 (q_so S bk i rin k).2 (rin k), (q_so S bk i rin k).2 + 1) := by rw [q_so, if_neg hb]
  have hp := q_ps_le (q_ah S (rin k)) (q_so S bk i rin k).1 (q_so S bk i rin k).2
  have hle := q_so_le S bk i rin k
  generalize hm : (q_so S bk i rin k).2 = m at *
  generalize ho : (q_so S bk i rin k).1 = o at *
  generalize hP : q_ps (q_ah S (rin k)) o m = p at *
  have off : ∀ c j, ¬ (c = 137 ∧ 10 * i ≤ j ∧ j < 10 * i + 10) → ¬ (c = 138 ∧ j = i) → q_rk (q_up (q_up (q_up μ 134 (10 * i + rin k) (bg + 2 * nI k)) 135 (10 * i + rin k) (bg + 2 * nI k + tm (rin k))) 136 (10 * i + rin k) (S (rin k))) 137 (10 * i) 138 i m p (rin k) c j = (q_up (q_up (q_up μ 134 (10 * i + rin k) (bg + 2 * nI k)) 135 (10 * i + rin k) (bg + 2 * nI k + tm (rin k))) 136 (10 * i + rin k) (S (rin k))) c j := by
    intro c j g1 g2
    unfold q_rk
    rw [q_upo g2, q_upo (by omega)]
    exact if_neg (by omega)
  refine ⟨fun c j g1 g2 => ?_, fun r hr => ?_, fun r hr => ?_, fun k' hk' hb' => ?_, fun j hj => ?_, ?_⟩
  · rw [off c j (by omega) g2, q_upo (by omega), q_upo (by omega), q_upo (by omega)]; exact h1 c j g1 g2
  · rw [off _ _ (by omega) (by omega), q_upc (by decide), q_upc (by decide)]
    unfold q_st q_up
    by_cases q : r = rin k
    · rw [if_pos q, if_pos ⟨rfl, by omega⟩]
    · rw [if_neg q, if_neg (by omega)]; exact h2 r hr
  · rw [off _ _ (by omega) (by omega), q_upc (by decide), q_ar]
    by_cases q : r = rin k
    · rw [if_pos ⟨q, hb⟩, q, q_ups]
    · rw [if_neg (fun z => q z.1), q_upo (by omega), q_upc (by decide)]; exact h3 r hr
  · rw [off _ _ (by omega) (by omega)]
    by_cases q : rin k' = rin k
    · rw [q, q_ups]
    · rw [q_upo (by omega), q_upc (by decide), q_upc (by decide)]
      have hk : k' ≠ k := fun z => q (by rw [z])
      exact h4 k' (by omega) hb'
  · rw [e] at hj ⊢
    have hj : j < m + 1 := hj
    show _ = nI (q_io (q_ah S (rin k)) o m (rin k) j)
    unfold q_io q_rk
    rw [hP, q_upc (by decide)]
    by_cases g1 : j < p
    · rw [if_pos g1, q_upo (by omega), q_sh_l (by omega), q_upc (by decide), q_upc (by decide), q_upc (by decide)]
      exact h5 j (by omega)
    · rw [if_neg g1]
      by_cases g2 : j = p
      · rw [if_pos g2, g2, q_ups]
      · rw [if_neg g2, q_upo (by omega)]
        unfold q_sh
        rw [if_pos (by omega), q_upc (by decide), q_upc (by decide), q_upc (by decide), show 10 * i + j - 1 = 10 * i + (j - 1) by omega]
        exact h5 (j - 1) (by omega)
  · rw [e]
    unfold q_rk
    rw [q_ups]
def q_ml (μ : q_M) (i k : Nat) : q_M := fun c j => if (c = 134 ∨ c = 135) ∧ 10 * i ≤ j ∧ j < 10 * i + k then -1 else μ c j
theorem q_ml_0 {μ : q_M} {i : Nat} : q_ml μ i 0 = μ := by funext c j; unfold q_ml; rw [if_neg (by omega)]
theorem q_ml_s {μ : q_M} {i k : Nat} : q_up (q_up (q_ml μ i k) 134 (10 * i + k) (-1)) 135 (10 * i + k) (-1) = q_ml μ i (k + 1) := by
  funext c j
  unfold q_up q_ml
  by_cases e1 : c = 135 ∧ j = 10 * i + k
  · rw [if_pos e1, if_pos (by omega)]
  · rw [if_neg e1]
    by_cases e2 : c = 134 ∧ j = 10 * i + k
    · rw [if_pos e2, if_pos (by omega)]
    · rw [if_neg e2]
      try dsimp only
      by_cases e5 : (c = 134 ∨ c = 135) ∧ 10 * i ≤ j ∧ j < 10 * i + k
      · rw [if_pos e5, if_pos (by omega)]
      · rw [if_neg e5, if_neg (by omega)]
/-- stage i as the reference holds it -/
def q_MG (μ : q_M) (cnt : Nat) (tm : Nat → Nat → Int32) (bk bg : Nat → Int32) (i : Nat) : Prop :=
  (∀ r, r < 10 → μ 134 (10 * i + r) = q_st (bg i) (q_od cnt tm bk i).1 (q_od cnt tm bk i).2 r) ∧
  (∀ r, r < 10 → μ 135 (10 * i + r) = q_ar (bg i) (tm i) bk i (q_od cnt tm bk i).1 (q_od cnt tm bk i).2 r) ∧
  (∀ j, j < (q_od cnt tm bk (i + 1)).2 → μ 136 (10 * i + (q_od cnt tm bk (i + 1)).1 j) = q_S tm i ((q_od cnt tm bk (i + 1)).1 j)) ∧
  (∀ j, j < (q_od cnt tm bk (i + 1)).2 → μ 137 (10 * i + j) = nI ((q_od cnt tm bk (i + 1)).1 j)) ∧ μ 138 i = nI (q_od cnt tm bk (i + 1)).2
def q_MN (μ0 μ : q_M) (cnt : Nat) (tm : Nat → Nat → Int32) (bk bg : Nat → Int32) (i : Nat) : Prop :=
  (∀ i', i' < i → q_MG μ cnt tm bk bg i') ∧ ∀ c j, (c < 134 ∨ 138 < c) → μ c j = μ0 c j
theorem q_MS_0 {μ : q_M} {i : Nat} {rin : Nat → Nat} {bg : Int32} {tm S bk : Nat → Int32} : q_MS (q_up (q_ml μ i 10) 138 i 0) (q_up (q_ml μ i 10) 138 i 0) i 0 rin bg tm S bk := by
  refine ⟨fun c j _ _ => rfl, fun r hr => ?_, fun r hr => ?_, fun k' hk' _ => absurd hk' (Nat.not_lt_zero _), fun j hj => absurd hj (Nat.not_lt_zero _), ?_⟩
  · rw [q_upc (by decide)]; exact if_pos (by omega)
  · rw [q_upc (by decide)]; exact if_pos (by omega)
  · rw [q_ups]; rfl
theorem q_MN_s {μ0 μ μ4 : q_M} {cnt i : Nat} {tm : Nat → Nat → Int32} {bk bg : Nat → Int32} (h : q_MN μ0 μ cnt tm bk bg i) (hc : cnt ≤ 10) (h4 : q_MS (q_up (q_ml μ i 10) 138 i 0) μ4 i (q_od cnt tm bk i).2 (q_od cnt tm bk i).1 (bg i) (tm i) (q_S tm i) bk) : q_MN μ0 μ4 cnt tm bk bg (i + 1) := by
  obtain ⟨g1, g2, g3, g4, g5, g6⟩ := h4
  have off : ∀ c j, ¬ ((c = 134 ∨ c = 135 ∨ c = 136 ∨ c = 137) ∧ 10 * i ≤ j ∧ j < 10 * i + 10) → ¬ (c = 138 ∧ j = i) → μ4 c j = μ c j := by
    intro c j a1 a2
    rw [g1 c j a1 a2, q_upo a2]
    exact if_neg (by omega)
  refine ⟨fun i' hi' => ?_, fun c j hcj => ?_⟩
  · by_cases e : i' = i
    · subst e
      refine ⟨g2, g3, fun j hj => ?_, g5, g6⟩
      obtain ⟨k', a1, a2, a3⟩ := q_so_mem _ _ _ _ _ j hj
      have e2 : (q_od cnt tm bk (i' + 1)).1 j = (q_od cnt tm bk i').1 k' := a2
      rw [e2]
      exact g4 k' a1 a3
    · obtain ⟨a1, a2, a3, a4, a5⟩ := h.1 i' (by omega)
      refine ⟨fun r hr => ?_, fun r hr => ?_, fun j hj => ?_, fun j hj => ?_, ?_⟩
      · rw [off _ _ (by omega) (by omega)]; exact a1 r hr
      · rw [off _ _ (by omega) (by omega)]; exact a2 r hr
      · have := q_od_lt cnt tm bk (i' + 1) j hj
        rw [off _ _ (by omega) (by omega)]; exact a3 j hj
      · have := q_od_le cnt tm bk (i' + 1)
        rw [off _ _ (by omega) (by omega)]; exact a4 j hj
      · rw [off _ _ (by omega) (by omega)]; exact a5
  · rw [off c j (by omega) (by omega)]
    exact h.2 c j hcj
/-- what a race needs of the told things, in the reference -/
abbrev q_zf (μ : q_M) (i : Nat) : Nat → Int32 := fun z => μ 130 (12 * i + 3 * z)
abbrev q_zt (μ : q_M) (i : Nat) : Nat → Int32 := fun z => μ 130 (12 * i + 3 * z + 1)
abbrev q_zs (μ : q_M) (i : Nat) : Nat → Int32 := fun z => μ 130 (12 * i + 3 * z + 2)
def q_MI (μ0 : q_M) (cnt : Nat) (K : Nat → Nat) (tm : Nat → Nat → Int32) (bk bg : Nat → Int32) : Prop :=
  cnt ≤ 10 ∧ μ0 122 0 = nI cnt ∧ (∀ i, i < 7 → K i ≤ 4 ∧ μ0 129 i = nI (K i)) ∧
  (∀ i r, i < 7 → r < cnt → ¬ (μ0 125 r).toInt64 = 0 ∧ ¬ (q_tm (μ0 125 r) (μ0 123 (i + 1)) (q_zf μ0 i) (q_zt μ0 i) (q_zs μ0 i) (K i)).2.1 = 0 ∧ tm i r = q_mtime (μ0 125 r) (μ0 123 (i + 1)) (q_zf μ0 i) (q_zt μ0 i) (q_zs μ0 i) (K i)) ∧ (∀ r, r < cnt → μ0 126 r = bk r) ∧ (∀ i, i < 7 → bg i = 1440 * nI i + 60 * μ0 124 i)
section MN
variable {C : q_C} {l : Launch} {μ μ0 : q_M} {b : Bool}
set_option maxRecDepth 100000 in
set_option maxHeartbeats 4000000 in
theorem lp_ml {i : Nat} {Po : q_P} (hi : i < 7) (hk9 : q_G C l FX8_runs 2 142 142 Po 142 (q_ml μ i 10) (q_ρ b) [(0, .ref (q_a C 122)), (1, .int (nI i))] [] 46) : ∀ k r2, r2 + k = 10 → q_G C l FX8_runs 2 142 142 Po 142 (q_ml μ i r2) (q_ρ b) [(0, .ref (q_a C 122)), (1, .int (nI i)), (2, .int (nI r2))] [] 10 := by
  intro k
  induction k with
  | zero =>
    intro r2 hK9
    refine g_iload_n 11 dX8_runs_10 rfl rfl ?_
    refine g_bipush 13 10 dX8_runs_11 rfl (by decide) ?_
    refine g_icmp_ge 46 16 dX8_runs_13 rfl (by decide) (fun h13 => ?_) (fun h13 => ?_)
    · rw [show r2 = 10 by omega]
      refine g_lv [(0, _), (1, _)] rfl ?_
      exact hk9
    · exact absurd (nI_le (a := 10) (b := r2) (by omega) (by omega)) h13
  | succ k ih =>
    intro r2 hK9
    refine g_iload_n 11 dX8_runs_10 rfl rfl ?_
    refine g_bipush 13 10 dX8_runs_11 rfl (by decide) ?_
    refine g_icmp_ge 46 16 dX8_runs_13 rfl (by decide) (fun h13 => ?_) (fun h13 => ?_)
    · exact absurd h13 (nI_ge (a := r2) (b := 10) (by omega) (by omega))
    · refine g_aload_n 17 dX8_runs_16 rfl rfl ?_
      refine g_getR 20 _ dX8_runs_17 rfl f_X8_47 (by decide) rfl rfl rfl ?_
      refine g_bipush 22 10 dX8_runs_20 rfl (by decide) ?_
      refine g_iload_n 23 dX8_runs_22 rfl rfl ?_
      refine g_imul 24 dX8_runs_23 rfl ?_
      refine g_iload_n 25 dX8_runs_24 rfl rfl ?_
      refine g_iadd 26 dX8_runs_25 rfl ?_
      rw [q_ix]
      refine g_iconst 27 (-1) dX8_runs_26 rfl (by decide) ?_
      refine g_iast 28 dX8_runs_27 rfl (by decide) rfl (vp_in_nI (show 10 * i + r2 < 70 by omega) (by omega)) ?_
      rw [nI_clamp (show 10 * i + r2 < 2 ^ 31 by omega)]
      refine g_aload_n 29 dX8_runs_28 rfl rfl ?_
      refine g_getR 32 _ dX8_runs_29 rfl f_X8_50 (by decide) rfl rfl rfl ?_
      refine g_bipush 34 10 dX8_runs_32 rfl (by decide) ?_
      refine g_iload_n 35 dX8_runs_34 rfl rfl ?_
      refine g_imul 36 dX8_runs_35 rfl ?_
      refine g_iload_n 37 dX8_runs_36 rfl rfl ?_
      refine g_iadd 38 dX8_runs_37 rfl ?_
      rw [q_ix]
      refine g_iconst 39 (-1) dX8_runs_38 rfl (by decide) ?_
      refine g_iast 40 dX8_runs_39 rfl (by decide) rfl (vp_in_nI (show 10 * i + r2 < 70 by omega) (by omega)) ?_
      rw [nI_clamp (show 10 * i + r2 < 2 ^ 31 by omega), q_ml_s]
      refine g_iinc 43 (_ + 1) dX8_runs_40 rfl rfl rfl (by decide) ?_
      refine g_goto 10 dX8_runs_43 (by decide) ?_
      rw [nI_1]
      refine g_lv [(0, _), (1, _), (2, _)] rfl ?_
      exact ih (r2 + 1) (by omega)
set_option maxRecDepth 100000 in
set_option maxHeartbeats 8000000 in
theorem lp_Mst0 {cnt M : Nat} {K : Nat → Nat} {tmf : Nat → Nat → Int32} {bgf : Nat → Int32} {rin : Nat → Nat} {S Sp bk : Nat → Int32} {μ3 : q_M} {Po : q_P} (hI : q_MI μ0 cnt K tmf bk bgf) (hf : ∀ c j, (c < 134 ∨ 138 < c) → μ3 c j = μ0 c j) (hM : M ≤ 10) (hcr : ∀ k, k < M → rin k < cnt) (hS : ∀ r, S r = tmf 0 r + 0) (hr : ∀ k, k < M → rin k = k) (hk9 : ∀ μ4, q_MS μ3 μ4 0 M rin (bgf 0) (tmf 0) S bk → q_G C l FX8_runs 2 142 142 Po 142 μ4 (q_ρ b) [(0, .ref (q_a C 122)), (1, .int (nI 0))] [] 236) : ∀ k k2, k2 + k = M → ∀ μ, q_MS μ3 μ 0 k2 rin (bgf 0) (tmf 0) S bk → q_G C l FX8_runs 2 142 142 Po 142 μ (q_ρ b) [(0, .ref (q_a C 122)), (1, .int (nI 0)), (2, .int (nI M)), (3, .int (nI k2))] [] 75 := by
  intro k
  induction k with
  | zero =>
    intro k2 hk μ hq
    refine g_iload_n 76 dX8_runs_75 rfl rfl ?_
    refine g_iload_n 77 dX8_runs_76 rfl rfl ?_
    refine g_icmp_ge 236 80 dX8_runs_77 rfl (by decide) (fun h77 => ?_) (fun h77 => ?_)
    · refine g_lv [(0, _), (1, _)] rfl ?_
      exact hk9 μ (by rw [show k2 = M by omega] at hq; exact hq)
    · exact absurd (nI_le (by omega) (by omega)) h77
  | succ k ih =>
    intro k2 hk μ hq
    refine g_iload_n 76 dX8_runs_75 rfl rfl ?_
    refine g_iload_n 77 dX8_runs_76 rfl rfl ?_
    refine g_icmp_ge 236 80 dX8_runs_77 rfl (by decide) (fun h77 => ?_) (fun h77 => ?_)
    · exact absurd h77 (nI_ge (by omega) (by omega))
    · refine g_iload_n 81 dX8_runs_80 rfl rfl ?_
      refine g_if_ne 88 84 dX8_runs_81 rfl (by decide) (fun h81 => ?_) (fun h81 => ?_)
      · exact absurd rfl h81
      · refine g_iload_n 85 dX8_runs_84 rfl rfl ?_
        refine g_goto 102 dX8_runs_85 (by decide) ?_
        refine g_istore 104 dX8_runs_102 rfl (by decide) ?_
        have hc10 := hI.1
        have hrc : rin k2 < cnt := hcr k2 (by omega)
        have hr10 : rin k2 < 10 := by omega
        refine g_lv [(0, _), (1, _), (2, _), (3, .int (nI k2)), (4, .int (nI (rin k2)))] (by rw [hr k2 (by omega)]; rfl) ?_
        refine g_aload_n 105 dX8_runs_104 rfl rfl ?_
        refine g_getR 108 _ dX8_runs_105 rfl f_X8_47 (by decide) rfl rfl rfl ?_
        refine g_bipush 110 10 dX8_runs_108 rfl (by decide) ?_
        refine g_iload_n 111 dX8_runs_110 rfl rfl ?_
        refine g_imul 112 dX8_runs_111 rfl ?_
        refine g_iload 114 dX8_runs_112 rfl rfl ?_
        refine g_iadd 115 dX8_runs_114 rfl ?_
        rw [q_ix]
        refine g_sipush 118 1440 dX8_runs_115 rfl (by decide) ?_
        refine g_iload_n 119 dX8_runs_118 rfl rfl ?_
        refine g_imul 120 dX8_runs_119 rfl ?_
        refine g_bipush 122 60 dX8_runs_120 rfl (by decide) ?_
        refine g_aload_n 123 dX8_runs_122 rfl rfl ?_
        refine g_getR 126 _ dX8_runs_123 rfl f_X8_13 (by decide) rfl rfl rfl ?_
        refine g_iload_n 127 dX8_runs_126 rfl rfl ?_
        refine g_iald 128 dX8_runs_127 rfl (by decide) rfl (vp_in_nI (show 0 < 7 by decide) (by omega)) ?_
        rw [nI_clamp (show 0 < 2 ^ 31 by omega), hq.1 124 0 (by omega) (by omega), hf 124 0 (by decide)]
        refine g_imul 129 dX8_runs_128 rfl ?_
        refine g_iadd 130 dX8_runs_129 rfl ?_
        rw [← hI.2.2.2.2.2 0 (show 0 < 7 by decide)]
        refine g_iconst 131 2 dX8_runs_130 rfl (by decide) ?_
        refine g_iload_n 132 dX8_runs_131 rfl rfl ?_
        refine g_imul 133 dX8_runs_132 rfl ?_
        refine g_iadd 134 dX8_runs_133 rfl ?_
        refine g_iast 135 dX8_runs_134 rfl (by decide) rfl (vp_in_nI (show 10 * 0 + rin k2 < 70 by omega) (by omega)) ?_
        rw [nI_clamp (show 10 * 0 + rin k2 < 2 ^ 31 by omega)]
        refine g_aload_n 136 dX8_runs_135 rfl rfl ?_
        refine g_getR 139 _ dX8_runs_136 rfl f_X8_19 (by decide) rfl rfl rfl ?_
        refine g_iload 141 dX8_runs_139 rfl rfl ?_
        refine g_iald 142 dX8_runs_141 rfl (by decide) rfl (vp_in_nI hr10 (by omega)) ?_
        rw [nI_clamp (show rin k2 < 2 ^ 31 by omega), q_upc (by decide), hq.1 126 (rin k2) (by omega) (by omega), hf 126 _ (by decide), hI.2.2.2.2.1 _ hrc]
        refine g_iload_n 143 dX8_runs_142 rfl rfl ?_
        refine g_icmp_ne 149 146 dX8_runs_143 rfl (by decide) (fun h143 => ?_) (fun h143 => ?_)
        · refine g_aload_n 150 dX8_runs_149 rfl rfl ?_
          refine g_iload 152 dX8_runs_150 rfl rfl ?_
          refine g_iload_n 153 dX8_runs_152 rfl rfl ?_
          have hin : ∀ c j, (c < 134 ∨ 138 < c) → (q_up μ 134 (10 * 0 + rin k2) (bgf 0 + 2 * nI k2)) c j = μ0 c j := fun c j hc => by rw [q_upc (by omega), hq.1 c j (by omega) (by omega)]; exact hf c j hc
          have hT := hI.2.2.2.1 0 (rin k2) (show 0 < 7 by decide) hrc
          refine g_Vi 156 [_, _] _ dX8_runs_153 rfl m_X8_timeOf l_X8_167 rfl rfl rfl (by decide) (c_Mtime (K := K 0) hr10 (show 0 < 7 by decide) (hI.2.2.1 0 (show 0 < 7 by decide)).1 (by rw [hin _ _ (by decide)]; exact (hI.2.2.1 0 (show 0 < 7 by decide)).2) (by rw [hin _ _ (by decide)]; exact hT.1) (by simp only [hin 125 _ (by decide), hin 123 _ (by decide), hin 130 _ (by decide)]; exact hT.2.1)) rfl (Nat.le_of_ble_eq_true rfl) (by decide) (fun v153 μ153 ρ153 hc9 => ?_)
          obtain ⟨rfl, rfl, rfl⟩ := hc9
          simp only [hin 125 _ (by decide), hin 123 _ (by decide), hin 130 _ (by decide)]
          rw [← hT.2.2]
          refine g_istore 158 dX8_runs_156 rfl (by decide) ?_
          refine g_aload_n 159 dX8_runs_158 rfl rfl ?_
          refine g_getR 162 _ dX8_runs_159 rfl f_X8_50 (by decide) rfl rfl rfl ?_
          refine g_bipush 164 10 dX8_runs_162 rfl (by decide) ?_
          refine g_iload_n 165 dX8_runs_164 rfl rfl ?_
          refine g_imul 166 dX8_runs_165 rfl ?_
          refine g_iload 168 dX8_runs_166 rfl rfl ?_
          refine g_iadd 169 dX8_runs_168 rfl ?_
          rw [q_ix]
          refine g_aload_n 170 dX8_runs_169 rfl rfl ?_
          refine g_getR 173 _ dX8_runs_170 rfl f_X8_47 (by decide) rfl rfl rfl ?_
          refine g_bipush 175 10 dX8_runs_173 rfl (by decide) ?_
          refine g_iload_n 176 dX8_runs_175 rfl rfl ?_
          refine g_imul 177 dX8_runs_176 rfl ?_
          refine g_iload 179 dX8_runs_177 rfl rfl ?_
          refine g_iadd 180 dX8_runs_179 rfl ?_
          rw [q_ix]
          refine g_iald 181 dX8_runs_180 rfl (by decide) rfl (vp_in_nI (show 10 * 0 + rin k2 < 70 by omega) (by omega)) ?_
          rw [nI_clamp (show 10 * 0 + rin k2 < 2 ^ 31 by omega), q_ups]
          refine g_iload 183 dX8_runs_181 rfl rfl ?_
          refine g_iadd 184 dX8_runs_183 rfl ?_
          refine g_iast 185 dX8_runs_184 rfl (by decide) rfl (vp_in_nI (show 10 * 0 + rin k2 < 70 by omega) (by omega)) ?_
          rw [nI_clamp (show 10 * 0 + rin k2 < 2 ^ 31 by omega)]
          refine g_aload_n 186 dX8_runs_185 rfl rfl ?_
          refine g_getR 189 _ dX8_runs_186 rfl f_X8_53 (by decide) rfl rfl rfl ?_
          refine g_bipush 191 10 dX8_runs_189 rfl (by decide) ?_
          refine g_iload_n 192 dX8_runs_191 rfl rfl ?_
          refine g_imul 193 dX8_runs_192 rfl ?_
          refine g_iload 195 dX8_runs_193 rfl rfl ?_
          refine g_iadd 196 dX8_runs_195 rfl ?_
          rw [q_ix]
          refine g_iload 198 dX8_runs_196 rfl rfl ?_
          refine g_iload_n 199 dX8_runs_198 rfl rfl ?_
          refine g_if_ne 206 202 dX8_runs_199 rfl (by decide) (fun h199 => ?_) (fun h199 => ?_)
          · exact absurd rfl h199
          · refine g_iconst 203 0 dX8_runs_202 rfl (by decide) ?_
            refine g_goto 221 dX8_runs_203 (by decide) ?_
            refine g_iadd 222 dX8_runs_221 rfl ?_
            refine g_iast 223 dX8_runs_222 rfl (by decide) rfl (vp_in_nI (show 10 * 0 + rin k2 < 70 by omega) (by omega)) ?_
            rw [nI_clamp (show 10 * 0 + rin k2 < 2 ^ 31 by omega), ← hS]
            refine g_aload_n 224 dX8_runs_223 rfl rfl ?_
            refine g_iload_n 225 dX8_runs_224 rfl rfl ?_
            refine g_iload 227 dX8_runs_225 rfl rfl ?_
            have hle := q_so_le S bk 0 rin k2
            have hcm : (q_up (q_up (q_up μ 134 (10 * 0 + rin k2) (bgf 0 + 2 * nI k2)) 135 (10 * 0 + rin k2) (bgf 0 + 2 * nI k2 + tmf 0 (rin k2))) 136 (10 * 0 + rin k2) (S (rin k2))) 138 0 = nI (q_so S bk 0 rin k2).2 := by rw [q_upc (by decide), q_upc (by decide), q_upc (by decide)]; exact hq.2.2.2.2.2
            have ho : ∀ j, j < (q_so S bk 0 rin k2).2 → (q_up (q_up (q_up μ 134 (10 * 0 + rin k2) (bgf 0 + 2 * nI k2)) 135 (10 * 0 + rin k2) (bgf 0 + 2 * nI k2 + tmf 0 (rin k2))) 136 (10 * 0 + rin k2) (S (rin k2))) 137 (10 * 0 + j) = nI ((q_so S bk 0 rin k2).1 j) ∧ (q_so S bk 0 rin k2).1 j < 10 ∧ (q_up (q_up (q_up μ 134 (10 * 0 + rin k2) (bgf 0 + 2 * nI k2)) 135 (10 * 0 + rin k2) (bgf 0 + 2 * nI k2 + tmf 0 (rin k2))) 136 (10 * 0 + rin k2) (S (rin k2))) 136 (10 * 0 + (q_so S bk 0 rin k2).1 j) = S ((q_so S bk 0 rin k2).1 j) := by
              intro j hj
              obtain ⟨k9, g1, g2, g3⟩ := q_so_mem S bk 0 rin k2 j hj
              have hk9' := hcr k9 (by omega)
              refine ⟨by rw [q_upc (by decide), q_upc (by decide), q_upc (by decide)]; exact hq.2.2.2.2.1 j hj, by rw [g2]; omega, ?_⟩
              by_cases q : (q_so S bk 0 rin k2).1 j = rin k2
              · rw [q, q_ups]
              · rw [q_upo (by omega), q_upc (by decide), q_upc (by decide), g2]
                exact hq.2.2.2.1 k9 g1 g3
            refine g_Vv 230 [_, _] _ dX8_runs_227 rfl m_X8_comes l_X8_170 rfl rfl rfl (by decide) (c_comes (show 0 < 7 by decide) hr10 (by omega) hcm ho q_ups) rfl (Nat.le_of_ble_eq_true rfl) (by decide) (fun μ227 ρ227 hc9 => ?_)
            obtain ⟨rfl, rfl⟩ := hc9
            refine g_iinc 233 (_ + 1) dX8_runs_230 rfl rfl rfl (by decide) ?_
            refine g_goto 75 dX8_runs_233 (by decide) ?_
            rw [nI_1]
            refine g_lv [(0, _), (1, _), (2, _), (3, _)] rfl ?_
            exact ih (k2 + 1) (by omega) _ (q_MS_y hr10 (by omega) hq h143 rfl rfl)
        · refine g_goto 230 dX8_runs_146 (by decide) ?_
          refine g_iinc 233 (_ + 1) dX8_runs_230 rfl rfl rfl (by decide) ?_
          refine g_goto 75 dX8_runs_233 (by decide) ?_
          rw [nI_1]
          refine g_lv [(0, _), (1, _), (2, _), (3, _)] rfl ?_
          exact ih (k2 + 1) (by omega) _ (q_MS_n hr10 hq h143)
set_option maxRecDepth 100000 in
set_option maxHeartbeats 8000000 in
theorem lp_Msts {i : Nat} {cnt M : Nat} {K : Nat → Nat} {tmf : Nat → Nat → Int32} {bgf : Nat → Int32} {rin : Nat → Nat} {S Sp bk : Nat → Int32} {μ3 : q_M} {Po : q_P} (hI : q_MI μ0 cnt K tmf bk bgf) (hf : ∀ c j, (c < 134 ∨ 138 < c) → μ3 c j = μ0 c j) (hM : M ≤ 10) (hcr : ∀ k, k < M → rin k < cnt) (hS : ∀ r, S r = tmf (i + 1) r + Sp r) (hi : i + 1 < 7) (hr : ∀ k, k < M → μ3 137 (10 * i + k) = nI (rin k) ∧ μ3 136 (10 * i + rin k) = Sp (rin k)) (hk9 : ∀ μ4, q_MS μ3 μ4 (i + 1) M rin (bgf (i + 1)) (tmf (i + 1)) S bk → q_G C l FX8_runs 2 142 142 Po 142 μ4 (q_ρ b) [(0, .ref (q_a C 122)), (1, .int (nI (i + 1)))] [] 236) : ∀ k k2, k2 + k = M → ∀ μ, q_MS μ3 μ (i + 1) k2 rin (bgf (i + 1)) (tmf (i + 1)) S bk → q_G C l FX8_runs 2 142 142 Po 142 μ (q_ρ b) [(0, .ref (q_a C 122)), (1, .int (nI (i + 1))), (2, .int (nI M)), (3, .int (nI k2))] [] 75 := by
  intro k
  induction k with
  | zero =>
    intro k2 hk μ hq
    refine g_iload_n 76 dX8_runs_75 rfl rfl ?_
    refine g_iload_n 77 dX8_runs_76 rfl rfl ?_
    refine g_icmp_ge 236 80 dX8_runs_77 rfl (by decide) (fun h77 => ?_) (fun h77 => ?_)
    · refine g_lv [(0, _), (1, _)] rfl ?_
      exact hk9 μ (by rw [show k2 = M by omega] at hq; exact hq)
    · exact absurd (nI_le (by omega) (by omega)) h77
  | succ k ih =>
    intro k2 hk μ hq
    refine g_iload_n 76 dX8_runs_75 rfl rfl ?_
    refine g_iload_n 77 dX8_runs_76 rfl rfl ?_
    refine g_icmp_ge 236 80 dX8_runs_77 rfl (by decide) (fun h77 => ?_) (fun h77 => ?_)
    · exact absurd h77 (nI_ge (by omega) (by omega))
    · refine g_iload_n 81 dX8_runs_80 rfl rfl ?_
      refine g_if_ne 88 84 dX8_runs_81 rfl (by decide) (fun h81 => ?_) (fun h81 => ?_)
      · refine g_aload_n 89 dX8_runs_88 rfl rfl ?_
        refine g_getR 92 _ dX8_runs_89 rfl f_X8_56 (by decide) rfl rfl rfl ?_
        refine g_bipush 94 10 dX8_runs_92 rfl (by decide) ?_
        refine g_iload_n 95 dX8_runs_94 rfl rfl ?_
        refine g_imul 96 dX8_runs_95 rfl ?_
        refine g_bipush 98 10 dX8_runs_96 rfl (by decide) ?_
        refine g_isub 99 dX8_runs_98 rfl ?_
        refine g_iload_n 100 dX8_runs_99 rfl rfl ?_
        refine g_iadd 101 dX8_runs_100 rfl ?_
        rw [q_ixp]
        refine g_iald 102 dX8_runs_101 rfl (by decide) rfl (vp_in_nI (show 10 * i + k2 < 70 by omega) (by omega)) ?_
        rw [nI_clamp (show 10 * i + k2 < 2 ^ 31 by omega), hq.1 137 (10 * i + k2) (by omega) (by omega), (hr k2 (by omega)).1]
        refine g_istore 104 dX8_runs_102 rfl (by decide) ?_
        have hc10 := hI.1
        have hrc : rin k2 < cnt := hcr k2 (by omega)
        have hr10 : rin k2 < 10 := by omega
        refine g_aload_n 105 dX8_runs_104 rfl rfl ?_
        refine g_getR 108 _ dX8_runs_105 rfl f_X8_47 (by decide) rfl rfl rfl ?_
        refine g_bipush 110 10 dX8_runs_108 rfl (by decide) ?_
        refine g_iload_n 111 dX8_runs_110 rfl rfl ?_
        refine g_imul 112 dX8_runs_111 rfl ?_
        refine g_iload 114 dX8_runs_112 rfl rfl ?_
        refine g_iadd 115 dX8_runs_114 rfl ?_
        rw [q_ix]
        refine g_sipush 118 1440 dX8_runs_115 rfl (by decide) ?_
        refine g_iload_n 119 dX8_runs_118 rfl rfl ?_
        refine g_imul 120 dX8_runs_119 rfl ?_
        refine g_bipush 122 60 dX8_runs_120 rfl (by decide) ?_
        refine g_aload_n 123 dX8_runs_122 rfl rfl ?_
        refine g_getR 126 _ dX8_runs_123 rfl f_X8_13 (by decide) rfl rfl rfl ?_
        refine g_iload_n 127 dX8_runs_126 rfl rfl ?_
        refine g_iald 128 dX8_runs_127 rfl (by decide) rfl (vp_in_nI hi (by omega)) ?_
        rw [nI_clamp (show (i + 1) < 2 ^ 31 by omega), hq.1 124 (i + 1) (by omega) (by omega), hf 124 (i + 1) (by decide)]
        refine g_imul 129 dX8_runs_128 rfl ?_
        refine g_iadd 130 dX8_runs_129 rfl ?_
        rw [← hI.2.2.2.2.2 (i + 1) hi]
        refine g_iconst 131 2 dX8_runs_130 rfl (by decide) ?_
        refine g_iload_n 132 dX8_runs_131 rfl rfl ?_
        refine g_imul 133 dX8_runs_132 rfl ?_
        refine g_iadd 134 dX8_runs_133 rfl ?_
        refine g_iast 135 dX8_runs_134 rfl (by decide) rfl (vp_in_nI (show 10 * (i + 1) + rin k2 < 70 by omega) (by omega)) ?_
        rw [nI_clamp (show 10 * (i + 1) + rin k2 < 2 ^ 31 by omega)]
        refine g_aload_n 136 dX8_runs_135 rfl rfl ?_
        refine g_getR 139 _ dX8_runs_136 rfl f_X8_19 (by decide) rfl rfl rfl ?_
        refine g_iload 141 dX8_runs_139 rfl rfl ?_
        refine g_iald 142 dX8_runs_141 rfl (by decide) rfl (vp_in_nI hr10 (by omega)) ?_
        rw [nI_clamp (show rin k2 < 2 ^ 31 by omega), q_upc (by decide), hq.1 126 (rin k2) (by omega) (by omega), hf 126 _ (by decide), hI.2.2.2.2.1 _ hrc]
        refine g_iload_n 143 dX8_runs_142 rfl rfl ?_
        refine g_icmp_ne 149 146 dX8_runs_143 rfl (by decide) (fun h143 => ?_) (fun h143 => ?_)
        · refine g_aload_n 150 dX8_runs_149 rfl rfl ?_
          refine g_iload 152 dX8_runs_150 rfl rfl ?_
          refine g_iload_n 153 dX8_runs_152 rfl rfl ?_
          have hin : ∀ c j, (c < 134 ∨ 138 < c) → (q_up μ 134 (10 * (i + 1) + rin k2) (bgf (i + 1) + 2 * nI k2)) c j = μ0 c j := fun c j hc => by rw [q_upc (by omega), hq.1 c j (by omega) (by omega)]; exact hf c j hc
          have hT := hI.2.2.2.1 (i + 1) (rin k2) hi hrc
          refine g_Vi 156 [_, _] _ dX8_runs_153 rfl m_X8_timeOf l_X8_167 rfl rfl rfl (by decide) (c_Mtime (K := K (i + 1)) hr10 hi (hI.2.2.1 (i + 1) hi).1 (by rw [hin _ _ (by decide)]; exact (hI.2.2.1 (i + 1) hi).2) (by rw [hin _ _ (by decide)]; exact hT.1) (by simp only [hin 125 _ (by decide), hin 123 _ (by decide), hin 130 _ (by decide)]; exact hT.2.1)) rfl (Nat.le_of_ble_eq_true rfl) (by decide) (fun v153 μ153 ρ153 hc9 => ?_)
          obtain ⟨rfl, rfl, rfl⟩ := hc9
          simp only [hin 125 _ (by decide), hin 123 _ (by decide), hin 130 _ (by decide)]
          rw [← hT.2.2]
          refine g_istore 158 dX8_runs_156 rfl (by decide) ?_
          refine g_aload_n 159 dX8_runs_158 rfl rfl ?_
          refine g_getR 162 _ dX8_runs_159 rfl f_X8_50 (by decide) rfl rfl rfl ?_
          refine g_bipush 164 10 dX8_runs_162 rfl (by decide) ?_
          refine g_iload_n 165 dX8_runs_164 rfl rfl ?_
          refine g_imul 166 dX8_runs_165 rfl ?_
          refine g_iload 168 dX8_runs_166 rfl rfl ?_
          refine g_iadd 169 dX8_runs_168 rfl ?_
          rw [q_ix]
          refine g_aload_n 170 dX8_runs_169 rfl rfl ?_
          refine g_getR 173 _ dX8_runs_170 rfl f_X8_47 (by decide) rfl rfl rfl ?_
          refine g_bipush 175 10 dX8_runs_173 rfl (by decide) ?_
          refine g_iload_n 176 dX8_runs_175 rfl rfl ?_
          refine g_imul 177 dX8_runs_176 rfl ?_
          refine g_iload 179 dX8_runs_177 rfl rfl ?_
          refine g_iadd 180 dX8_runs_179 rfl ?_
          rw [q_ix]
          refine g_iald 181 dX8_runs_180 rfl (by decide) rfl (vp_in_nI (show 10 * (i + 1) + rin k2 < 70 by omega) (by omega)) ?_
          rw [nI_clamp (show 10 * (i + 1) + rin k2 < 2 ^ 31 by omega), q_ups]
          refine g_iload 183 dX8_runs_181 rfl rfl ?_
          refine g_iadd 184 dX8_runs_183 rfl ?_
          refine g_iast 185 dX8_runs_184 rfl (by decide) rfl (vp_in_nI (show 10 * (i + 1) + rin k2 < 70 by omega) (by omega)) ?_
          rw [nI_clamp (show 10 * (i + 1) + rin k2 < 2 ^ 31 by omega)]
          refine g_aload_n 186 dX8_runs_185 rfl rfl ?_
          refine g_getR 189 _ dX8_runs_186 rfl f_X8_53 (by decide) rfl rfl rfl ?_
          refine g_bipush 191 10 dX8_runs_189 rfl (by decide) ?_
          refine g_iload_n 192 dX8_runs_191 rfl rfl ?_
          refine g_imul 193 dX8_runs_192 rfl ?_
          refine g_iload 195 dX8_runs_193 rfl rfl ?_
          refine g_iadd 196 dX8_runs_195 rfl ?_
          rw [q_ix]
          refine g_iload 198 dX8_runs_196 rfl rfl ?_
          refine g_iload_n 199 dX8_runs_198 rfl rfl ?_
          refine g_if_ne 206 202 dX8_runs_199 rfl (by decide) (fun h199 => ?_) (fun h199 => ?_)
          · refine g_aload_n 207 dX8_runs_206 rfl rfl ?_
            refine g_getR 210 _ dX8_runs_207 rfl f_X8_53 (by decide) rfl rfl rfl ?_
            refine g_bipush 212 10 dX8_runs_210 rfl (by decide) ?_
            refine g_iload_n 213 dX8_runs_212 rfl rfl ?_
            refine g_imul 214 dX8_runs_213 rfl ?_
            refine g_bipush 216 10 dX8_runs_214 rfl (by decide) ?_
            refine g_isub 217 dX8_runs_216 rfl ?_
            refine g_iload 219 dX8_runs_217 rfl rfl ?_
            refine g_iadd 220 dX8_runs_219 rfl ?_
            rw [q_ixp]
            refine g_iald 221 dX8_runs_220 rfl (by decide) rfl (vp_in_nI (show 10 * i + rin k2 < 70 by omega) (by omega)) ?_
            rw [nI_clamp (show 10 * i + rin k2 < 2 ^ 31 by omega), q_upo (by omega), q_upo (by omega), hq.1 136 (10 * i + rin k2) (by omega) (by omega), (hr k2 (by omega)).2]
            refine g_iadd 222 dX8_runs_221 rfl ?_
            refine g_iast 223 dX8_runs_222 rfl (by decide) rfl (vp_in_nI (show 10 * (i + 1) + rin k2 < 70 by omega) (by omega)) ?_
            rw [nI_clamp (show 10 * (i + 1) + rin k2 < 2 ^ 31 by omega), ← hS]
            refine g_aload_n 224 dX8_runs_223 rfl rfl ?_
            refine g_iload_n 225 dX8_runs_224 rfl rfl ?_
            refine g_iload 227 dX8_runs_225 rfl rfl ?_
            have hle := q_so_le S bk (i + 1) rin k2
            have hcm : (q_up (q_up (q_up μ 134 (10 * (i + 1) + rin k2) (bgf (i + 1) + 2 * nI k2)) 135 (10 * (i + 1) + rin k2) (bgf (i + 1) + 2 * nI k2 + tmf (i + 1) (rin k2))) 136 (10 * (i + 1) + rin k2) (S (rin k2))) 138 (i + 1) = nI (q_so S bk (i + 1) rin k2).2 := by rw [q_upc (by decide), q_upc (by decide), q_upc (by decide)]; exact hq.2.2.2.2.2
            have ho : ∀ j, j < (q_so S bk (i + 1) rin k2).2 → (q_up (q_up (q_up μ 134 (10 * (i + 1) + rin k2) (bgf (i + 1) + 2 * nI k2)) 135 (10 * (i + 1) + rin k2) (bgf (i + 1) + 2 * nI k2 + tmf (i + 1) (rin k2))) 136 (10 * (i + 1) + rin k2) (S (rin k2))) 137 (10 * (i + 1) + j) = nI ((q_so S bk (i + 1) rin k2).1 j) ∧ (q_so S bk (i + 1) rin k2).1 j < 10 ∧ (q_up (q_up (q_up μ 134 (10 * (i + 1) + rin k2) (bgf (i + 1) + 2 * nI k2)) 135 (10 * (i + 1) + rin k2) (bgf (i + 1) + 2 * nI k2 + tmf (i + 1) (rin k2))) 136 (10 * (i + 1) + rin k2) (S (rin k2))) 136 (10 * (i + 1) + (q_so S bk (i + 1) rin k2).1 j) = S ((q_so S bk (i + 1) rin k2).1 j) := by
              intro j hj
              obtain ⟨k9, g1, g2, g3⟩ := q_so_mem S bk (i + 1) rin k2 j hj
              have hk9' := hcr k9 (by omega)
              refine ⟨by rw [q_upc (by decide), q_upc (by decide), q_upc (by decide)]; exact hq.2.2.2.2.1 j hj, by rw [g2]; omega, ?_⟩
              by_cases q : (q_so S bk (i + 1) rin k2).1 j = rin k2
              · rw [q, q_ups]
              · rw [q_upo (by omega), q_upc (by decide), q_upc (by decide), g2]
                exact hq.2.2.2.1 k9 g1 g3
            refine g_Vv 230 [_, _] _ dX8_runs_227 rfl m_X8_comes l_X8_170 rfl rfl rfl (by decide) (c_comes hi hr10 (by omega) hcm ho q_ups) rfl (Nat.le_of_ble_eq_true rfl) (by decide) (fun μ227 ρ227 hc9 => ?_)
            obtain ⟨rfl, rfl⟩ := hc9
            refine g_iinc 233 (_ + 1) dX8_runs_230 rfl rfl rfl (by decide) ?_
            refine g_goto 75 dX8_runs_233 (by decide) ?_
            rw [nI_1]
            refine g_lv [(0, _), (1, _), (2, _), (3, _)] rfl ?_
            exact ih (k2 + 1) (by omega) _ (q_MS_y hr10 (by omega) hq h143 rfl rfl)
          · exact absurd h199 (nI_ne0 (by omega) (by omega))
        · refine g_goto 230 dX8_runs_146 (by decide) ?_
          refine g_iinc 233 (_ + 1) dX8_runs_230 rfl rfl rfl (by decide) ?_
          refine g_goto 75 dX8_runs_233 (by decide) ?_
          rw [nI_1]
          refine g_lv [(0, _), (1, _), (2, _), (3, _)] rfl ?_
          exact ih (k2 + 1) (by omega) _ (q_MS_n hr10 hq h143)
      · exact absurd h81 (nI_ne0 (by omega) (by omega))
set_option maxRecDepth 100000 in
set_option maxHeartbeats 8000000 in
theorem lp_runs {cnt : Nat} {K : Nat → Nat} {tm : Nat → Nat → Int32} {bk bg : Nat → Int32} (hI : q_MI μ0 cnt K tm bk bg) : ∀ k i, i + k = 7 → ∀ μ, q_MN μ0 μ cnt tm bk bg i → q_G C l FX8_runs 2 142 142 (q_PV fun μ' ρ' => q_ρ b = ρ' ∧ q_MN μ0 μ' cnt tm bk bg 7) 142 μ (q_ρ b) [(0, .ref (q_a C 122)), (1, .int (nI i))] [] 2 := by
  intro k
  induction k with
  | zero =>
    intro i hk μ hq
    refine g_iload_n 3 dX8_runs_2 rfl rfl ?_
    refine g_bipush 5 7 dX8_runs_3 rfl (by decide) ?_
    refine g_icmp_ge 242 8 dX8_runs_5 rfl (by decide) (fun h5 => ?_) (fun h5 => ?_)
    · exact g_rv dX8_runs_242 rfl rfl ⟨rfl, by rw [show i = 7 by omega] at hq; exact hq⟩
    · exact absurd (nI_le (a := 7) (b := i) (by omega) (by omega)) h5
  | succ k ih =>
    intro i hk μ hq
    have hi : i < 7 := by omega
    have hcn := hI.1
    cases i with
    | zero =>
      refine g_iload_n 3 dX8_runs_2 rfl rfl ?_
      refine g_bipush 5 7 dX8_runs_3 rfl (by decide) ?_
      refine g_icmp_ge 242 8 dX8_runs_5 rfl (by decide) (fun h5 => ?_) (fun h5 => ?_)
      · exact absurd h5 (nI_ge (a := 0) (b := 7) (by omega) (by omega))
      · refine g_iconst 9 0 dX8_runs_8 rfl (by decide) ?_
        refine g_istore_n 10 dX8_runs_9 rfl (by decide) ?_
        have h9 := lp_ml (C := C) (l := l) (b := b) (μ := μ) (Po := (q_PV fun μ' ρ' => q_ρ b = ρ' ∧ q_MN μ0 μ' cnt tm bk bg 7)) (i := 0) (by decide) ?_ 10 0 (by omega)
        · refine g_lv [(0, _), (1, _), (2, .int 0)] rfl ?_
          rw [q_ml_0] at h9
          exact h9
        refine g_iload_n 47 dX8_runs_46 rfl rfl ?_
        refine g_if_ne 57 50 dX8_runs_47 rfl (by decide) (fun h47 => ?_) (fun h47 => ?_)
        · exact absurd rfl h47
        · refine g_aload_n 51 dX8_runs_50 rfl rfl ?_
          refine g_getI 54 dX8_runs_51 rfl f_X8_75 (by decide) rfl rfl ?_
          rw [show q_ml μ 0 10 122 0 = μ 122 0 from if_neg (by omega), hq.2 122 0 (by decide), hI.2.1]
          refine g_goto 65 dX8_runs_54 (by decide) ?_
          refine g_istore_n 66 dX8_runs_65 rfl (by decide) ?_
          refine g_aload_n 67 dX8_runs_66 rfl rfl ?_
          refine g_getR 70 _ dX8_runs_67 rfl f_X8_59 (by decide) rfl rfl rfl ?_
          refine g_iload_n 71 dX8_runs_70 rfl rfl ?_
          refine g_iconst 72 0 dX8_runs_71 rfl (by decide) ?_
          refine g_iast 73 dX8_runs_72 rfl (by decide) rfl (vp_in_nI (show 0 < 7 by omega) (by omega)) ?_
          rw [nI_clamp (show 0 < 2 ^ 31 by omega)]
          refine g_iconst 74 0 dX8_runs_73 rfl (by decide) ?_
          refine g_istore_n 75 dX8_runs_74 rfl (by decide) ?_
          refine g_lv [(0, _), (1, _), (2, _), (3, .int (nI 0))] rfl ?_
          refine lp_Mst0 (μ0 := μ0) (tmf := tm) (bgf := bg) (rin := (q_od cnt tm bk 0).1) (S := q_S tm 0) (Sp := fun _ => 0) hI (fun c j hc => by rw [q_upo (by omega), show q_ml μ 0 10 c j = μ c j from if_neg (by omega)]; exact hq.2 c j hc) hI.1 (fun k hk => hk) (fun r => rfl) (fun k _ => rfl) ?_ cnt 0 (by omega) _ q_MS_0
          intro μ4 h4
          refine g_iinc 239 (_ + 1) dX8_runs_236 rfl rfl rfl (by decide) ?_
          refine g_goto 2 dX8_runs_239 (by decide) ?_
          rw [nI_1]
          refine g_lv [(0, _), (1, _)] rfl ?_
          exact ih (0 + 1) (by omega) _ (q_MN_s hq hI.1 h4)
    | succ i =>
      refine g_iload_n 3 dX8_runs_2 rfl rfl ?_
      refine g_bipush 5 7 dX8_runs_3 rfl (by decide) ?_
      refine g_icmp_ge 242 8 dX8_runs_5 rfl (by decide) (fun h5 => ?_) (fun h5 => ?_)
      · exact absurd h5 (nI_ge (a := (i + 1)) (b := 7) (by omega) (by omega))
      · refine g_iconst 9 0 dX8_runs_8 rfl (by decide) ?_
        refine g_istore_n 10 dX8_runs_9 rfl (by decide) ?_
        have h9 := lp_ml (C := C) (l := l) (b := b) (μ := μ) (Po := (q_PV fun μ' ρ' => q_ρ b = ρ' ∧ q_MN μ0 μ' cnt tm bk bg 7)) (i := (i + 1)) hi ?_ 10 0 (by omega)
        · refine g_lv [(0, _), (1, _), (2, .int 0)] rfl ?_
          rw [q_ml_0] at h9
          exact h9
        refine g_iload_n 47 dX8_runs_46 rfl rfl ?_
        refine g_if_ne 57 50 dX8_runs_47 rfl (by decide) (fun h47 => ?_) (fun h47 => ?_)
        · refine g_aload_n 58 dX8_runs_57 rfl rfl ?_
          refine g_getR 61 _ dX8_runs_58 rfl f_X8_59 (by decide) rfl rfl rfl ?_
          refine g_iload_n 62 dX8_runs_61 rfl rfl ?_
          refine g_iconst 63 1 dX8_runs_62 rfl (by decide) ?_
          refine g_isub 64 dX8_runs_63 rfl ?_
          rw [nI_pred]
          refine g_iald 65 dX8_runs_64 rfl (by decide) rfl (vp_in_nI (show i < 7 by omega) (by omega)) ?_
          have hMG := hq.1 i (by omega)
          rw [nI_clamp (show i < 2 ^ 31 by omega), show q_ml μ (i + 1) 10 138 i = μ 138 i from if_neg (by omega), hMG.2.2.2.2]
          refine g_istore_n 66 dX8_runs_65 rfl (by decide) ?_
          refine g_aload_n 67 dX8_runs_66 rfl rfl ?_
          refine g_getR 70 _ dX8_runs_67 rfl f_X8_59 (by decide) rfl rfl rfl ?_
          refine g_iload_n 71 dX8_runs_70 rfl rfl ?_
          refine g_iconst 72 0 dX8_runs_71 rfl (by decide) ?_
          refine g_iast 73 dX8_runs_72 rfl (by decide) rfl (vp_in_nI (show (i + 1) < 7 by omega) (by omega)) ?_
          rw [nI_clamp (show (i + 1) < 2 ^ 31 by omega)]
          have hod := q_od_le cnt tm bk (i + 1)
          have hr3 : ∀ k, k < (q_od cnt tm bk (i + 1)).2 → (q_up (q_ml μ (i + 1) 10) 138 (i + 1) 0) 137 (10 * i + k) = nI ((q_od cnt tm bk (i + 1)).1 k) ∧ (q_up (q_ml μ (i + 1) 10) 138 (i + 1) 0) 136 (10 * i + (q_od cnt tm bk (i + 1)).1 k) = q_S tm i ((q_od cnt tm bk (i + 1)).1 k) := by
            intro k hk
            refine ⟨?_, ?_⟩
            · rw [q_upc (by decide), show q_ml μ (i + 1) 10 137 (10 * i + k) = μ 137 (10 * i + k) from if_neg (by omega)]
              exact hMG.2.2.2.1 k hk
            · rw [q_upc (by decide), show q_ml μ (i + 1) 10 136 _ = μ 136 _ from if_neg (by omega)]
              exact hMG.2.2.1 k hk
          refine g_iconst 74 0 dX8_runs_73 rfl (by decide) ?_
          refine g_istore_n 75 dX8_runs_74 rfl (by decide) ?_
          refine g_lv [(0, _), (1, _), (2, _), (3, .int (nI 0))] rfl ?_
          refine lp_Msts (μ0 := μ0) (tmf := tm) (bgf := bg) (M := (q_od cnt tm bk (i + 1)).2) (rin := (q_od cnt tm bk (i + 1)).1) (S := q_S tm (i + 1)) (Sp := q_S tm i) hI (fun c j hc => by rw [q_upo (by omega), show q_ml μ (i + 1) 10 c j = μ c j from if_neg (by omega)]; exact hq.2 c j hc) (by omega) (fun k hk => q_od_lt cnt tm bk (i + 1) k hk) (fun r => rfl) hi hr3 ?_ (q_od cnt tm bk (i + 1)).2 0 (by omega) _ q_MS_0
          intro μ4 h4
          refine g_iinc 239 (_ + 1) dX8_runs_236 rfl rfl rfl (by decide) ?_
          refine g_goto 2 dX8_runs_239 (by decide) ?_
          rw [nI_1]
          refine g_lv [(0, _), (1, _)] rfl ?_
          exact ih ((i + 1) + 1) (by omega) _ (q_MN_s hq hI.1 h4)
        · exact absurd h47 (nI_ne0 (by omega) (by omega))
set_option maxRecDepth 100000 in
set_option maxHeartbeats 4000000 in
theorem c_runs {cnt : Nat} {K : Nat → Nat} {tm : Nat → Nat → Int32} {bk bg : Nat → Int32} (hI : q_MI μ cnt K tm bk bg) : q_Ct C l FX8_runs 2 142 142 [.ref (q_a C 122)] μ (q_ρ b) (q_PV fun μ' ρ' => q_ρ b = ρ' ∧ q_MN μ μ' cnt tm bk bg 7) := by
  refine q_entry rfl (by decide) (Nat.le_of_ble_eq_true rfl) ?_
  refine g_lv [(0, _)] rfl ?_
  refine g_iconst 1 0 dX8_runs_0 rfl (by decide) ?_
  refine g_istore_n 2 dX8_runs_1 rfl (by decide) ?_
  refine g_lv [(0, _), (1, .int (nI 0))] rfl ?_
  exact lp_runs hI 7 0 (by omega) μ ⟨fun i h => absurd h (Nat.not_lt_zero _), fun c j _ => rfl⟩
end MN
