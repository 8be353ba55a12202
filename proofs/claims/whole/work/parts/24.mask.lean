/-! ===== answers: the reference ===== -/
def q_MV (μ : q_M) (I : q_I) : Prop := q_MI μ (i_cnt I) (i_K I) (i_tm I) (i_bk I) (i_bg I) ∧ (∀ j, j < 5 → μ 128 j = i_set I j) ∧ (∀ j, j < 7 → μ 123 (j + 1) = i_len I j) ∧ ¬ i_set I 2 = 0
abbrev q_MGI (μ : q_M) (I : q_I) (i : Nat) : Prop := q_MG μ (i_cnt I) (i_tm I) (i_bk I) (i_bg I) i
def q_KI (I : q_I) (μ1 μ : q_M) (i : Nat) : Prop := (∀ cc j, cc ≠ 139 → cc ≠ 140 → μ cc j = μ1 cc j) ∧ ∀ x, x < i → μ 139 (x + 1) = i_op I (x + 1) ∧ μ 140 (x + 1) = i_cl I (x + 1)
theorem q_Gw {C : q_C} {l : Launch} {F : q_F} {d n0 n1 : Nat} {Po Po' : q_P} {n : Nat} {μ : q_M} {ρ : q_R} {lv : List (Nat × Value)} {st : List Value} {pc : Nat} (h : q_G C l F d n0 n1 Po n μ ρ lv st pc) (hw : ∀ r μ' ρ', Po r μ' ρ' → Po' r μ' ρ') : q_G C l F d n0 n1 Po' n μ ρ lv st pc := by
  intro p e s m args below meth c H locs ls hX hH hS hl hn T hT X
  obtain ⟨t, h1, o, h2, h3, h4, h5⟩ := h p e s m args below meth c H locs ls hX hH hS hl hn T hT X
  obtain ⟨⟨r, μ', ρ', g1, g2, g3⟩, g4⟩ := h4
  exact ⟨t, h1, o, h2, h3, ⟨⟨r, μ', ρ', g1, hw _ _ _ g2, g3⟩, g4⟩, h5⟩
section MA
variable {C : q_C} {l : Launch} {μ : q_M} {b : Bool}
set_option maxRecDepth 100000 in
set_option maxHeartbeats 4000000 in
theorem lp_kin {I : q_I} {i : Nat} {Po : q_P} (hi : i < 7) (hm : i_cm I i ≤ 10) (hlt : ∀ j, j < i_cm I i → i_o I i j < 10) (h138 : μ 138 i = nI (i_cm I i)) (h137 : ∀ j, j < i_cm I i → μ 137 (10 * i + j) = nI (i_o I i j)) (h135 : ∀ r, r < 10 → μ 135 (10 * i + r) = i_ar I i r) (hk9 : q_G C l FX8_kitchens 3 142 142 Po 142 μ (q_ρ b) [(0, .ref (q_a C 122)), (1, .int (nI (i + 1))), (2, .int (q_fa (i_ar I i) (i_o I i) (i_cm I i))), (3, .int (q_lb (i_ar I i) (i_o I i) (i_cm I i)))] [] 97) : ∀ k k2, k2 + k = i_cm I i → q_G C l FX8_kitchens 3 142 142 Po 142 μ (q_ρ b) [(0, .ref (q_a C 122)), (1, .int (nI (i + 1))), (2, .int (q_fa (i_ar I i) (i_o I i) k2)), (3, .int (q_lb (i_ar I i) (i_o I i) k2)), (4, .int (nI k2))] [] 19 := by
  intro k
  induction k with
  | zero =>
    intro k2 hK9
    refine g_iload 21 dX8_kitchens_19 rfl rfl ?_
    refine g_aload_n 22 dX8_kitchens_21 rfl rfl ?_
    refine g_getR 25 _ dX8_kitchens_22 rfl f_X8_59 (by decide) rfl rfl rfl ?_
    refine g_iload_n 26 dX8_kitchens_25 rfl rfl ?_
    refine g_iconst 27 1 dX8_kitchens_26 rfl (by decide) ?_
    refine g_isub 28 dX8_kitchens_27 rfl ?_
    rw [nI_pred]
    refine g_iald 29 dX8_kitchens_28 rfl (by decide) rfl (vp_in_nI hi (by omega)) ?_
    rw [nI_clamp (show i < 2 ^ 31 by omega), h138]
    refine g_icmp_ge 97 32 dX8_kitchens_29 rfl (by decide) (fun h29 => ?_) (fun h29 => ?_)
    · rw [show k2 = i_cm I i by omega]
      refine g_lv [(0, _), (1, _), (2, _), (3, _)] rfl ?_
      exact hk9
    · exact absurd (nI_le (by omega) (by omega)) h29
  | succ k ih =>
    intro k2 hK9
    refine g_iload 21 dX8_kitchens_19 rfl rfl ?_
    refine g_aload_n 22 dX8_kitchens_21 rfl rfl ?_
    refine g_getR 25 _ dX8_kitchens_22 rfl f_X8_59 (by decide) rfl rfl rfl ?_
    refine g_iload_n 26 dX8_kitchens_25 rfl rfl ?_
    refine g_iconst 27 1 dX8_kitchens_26 rfl (by decide) ?_
    refine g_isub 28 dX8_kitchens_27 rfl ?_
    rw [nI_pred]
    refine g_iald 29 dX8_kitchens_28 rfl (by decide) rfl (vp_in_nI hi (by omega)) ?_
    rw [nI_clamp (show i < 2 ^ 31 by omega), h138]
    refine g_icmp_ge 97 32 dX8_kitchens_29 rfl (by decide) (fun h29 => ?_) (fun h29 => ?_)
    · exact absurd h29 (nI_ge (by omega) (by omega))
    · refine g_aload_n 33 dX8_kitchens_32 rfl rfl ?_
      refine g_getR 36 _ dX8_kitchens_33 rfl f_X8_50 (by decide) rfl rfl rfl ?_
      refine g_bipush 38 10 dX8_kitchens_36 rfl (by decide) ?_
      refine g_iload_n 39 dX8_kitchens_38 rfl rfl ?_
      refine g_iconst 40 1 dX8_kitchens_39 rfl (by decide) ?_
      refine g_isub 41 dX8_kitchens_40 rfl ?_
      rw [nI_pred]
      refine g_imul 42 dX8_kitchens_41 rfl ?_
      have hO := hlt k2 (by omega)
      refine g_aload_n 43 dX8_kitchens_42 rfl rfl ?_
      refine g_getR 46 _ dX8_kitchens_43 rfl f_X8_56 (by decide) rfl rfl rfl ?_
      refine g_bipush 48 10 dX8_kitchens_46 rfl (by decide) ?_
      refine g_iload_n 49 dX8_kitchens_48 rfl rfl ?_
      refine g_iconst 50 1 dX8_kitchens_49 rfl (by decide) ?_
      refine g_isub 51 dX8_kitchens_50 rfl ?_
      rw [nI_pred]
      refine g_imul 52 dX8_kitchens_51 rfl ?_
      refine g_iload 54 dX8_kitchens_52 rfl rfl ?_
      refine g_iadd 55 dX8_kitchens_54 rfl ?_
      rw [q_ix]
      refine g_iald 56 dX8_kitchens_55 rfl (by decide) rfl (vp_in_nI (show 10 * i + k2 < 70 by omega) (by omega)) ?_
      rw [nI_clamp (show 10 * i + k2 < 2 ^ 31 by omega), h137 k2 (by omega)]
      refine g_iadd 57 dX8_kitchens_56 rfl ?_
      rw [q_ix]
      refine g_iald 58 dX8_kitchens_57 rfl (by decide) rfl (vp_in_nI (show 10 * i + i_o I i k2 < 70 by omega) (by omega)) ?_
      rw [nI_clamp (show 10 * i + i_o I i k2 < 2 ^ 31 by omega), h135 _ hO]
      refine g_istore 60 dX8_kitchens_58 rfl (by decide) ?_
      refine g_iload_n 61 dX8_kitchens_60 rfl rfl ?_
      refine g_iconst 62 (-1) dX8_kitchens_61 rfl (by decide) ?_
      refine g_icmp_eq 71 65 dX8_kitchens_62 rfl (by decide) (fun h62 => ?_) (fun h62 => ?_)
      · refine g_iload 73 dX8_kitchens_71 rfl rfl ?_
        refine g_goto 77 dX8_kitchens_73 (by decide) ?_
        refine g_istore_n 78 dX8_kitchens_77 rfl (by decide) ?_
        refine g_iload 80 dX8_kitchens_78 rfl rfl ?_
        refine g_iload_n 81 dX8_kitchens_80 rfl rfl ?_
        refine g_icmp_le 89 84 dX8_kitchens_81 rfl (by decide) (fun h81 => ?_) (fun h81 => ?_)
        · refine g_iload_n 90 dX8_kitchens_89 rfl rfl ?_
          refine g_istore_n 91 dX8_kitchens_90 rfl (by decide) ?_
          refine g_iinc 94 (_ + 1) dX8_kitchens_91 rfl rfl rfl (by decide) ?_
          refine g_goto 19 dX8_kitchens_94 (by decide) ?_
          rw [nI_1]
          refine g_lv [(0, _), (1, _), (2, _), (3, _), (4, _)] rfl ?_
          have h9 := ih (k2 + 1) (by omega)
          rw [q_fa, if_pos h62, q_lb, if_neg (Int32.not_lt.mpr h81)] at h9
          exact h9
        · refine g_iload 86 dX8_kitchens_84 rfl rfl ?_
          refine g_goto 90 dX8_kitchens_86 (by decide) ?_
          refine g_istore_n 91 dX8_kitchens_90 rfl (by decide) ?_
          refine g_iinc 94 (_ + 1) dX8_kitchens_91 rfl rfl rfl (by decide) ?_
          refine g_goto 19 dX8_kitchens_94 (by decide) ?_
          rw [nI_1]
          refine g_lv [(0, _), (1, _), (2, _), (3, _), (4, _)] rfl ?_
          have h9 := ih (k2 + 1) (by omega)
          rw [q_fa, if_pos h62, q_lb, if_pos (Int32.not_le.mp h81)] at h9
          exact h9
      · refine g_iload 67 dX8_kitchens_65 rfl rfl ?_
        refine g_iload_n 68 dX8_kitchens_67 rfl rfl ?_
        refine g_icmp_ge 76 71 dX8_kitchens_68 rfl (by decide) (fun h68 => ?_) (fun h68 => ?_)
        · refine g_iload_n 77 dX8_kitchens_76 rfl rfl ?_
          refine g_istore_n 78 dX8_kitchens_77 rfl (by decide) ?_
          refine g_iload 80 dX8_kitchens_78 rfl rfl ?_
          refine g_iload_n 81 dX8_kitchens_80 rfl rfl ?_
          refine g_icmp_le 89 84 dX8_kitchens_81 rfl (by decide) (fun h81 => ?_) (fun h81 => ?_)
          · refine g_iload_n 90 dX8_kitchens_89 rfl rfl ?_
            refine g_istore_n 91 dX8_kitchens_90 rfl (by decide) ?_
            refine g_iinc 94 (_ + 1) dX8_kitchens_91 rfl rfl rfl (by decide) ?_
            refine g_goto 19 dX8_kitchens_94 (by decide) ?_
            rw [nI_1]
            refine g_lv [(0, _), (1, _), (2, _), (3, _), (4, _)] rfl ?_
            have h9 := ih (k2 + 1) (by omega)
            rw [q_fa, if_neg h62, q_mn, if_neg (Int32.not_lt.mpr h68), q_lb, if_neg (Int32.not_lt.mpr h81)] at h9
            exact h9
          · refine g_iload 86 dX8_kitchens_84 rfl rfl ?_
            refine g_goto 90 dX8_kitchens_86 (by decide) ?_
            refine g_istore_n 91 dX8_kitchens_90 rfl (by decide) ?_
            refine g_iinc 94 (_ + 1) dX8_kitchens_91 rfl rfl rfl (by decide) ?_
            refine g_goto 19 dX8_kitchens_94 (by decide) ?_
            rw [nI_1]
            refine g_lv [(0, _), (1, _), (2, _), (3, _), (4, _)] rfl ?_
            have h9 := ih (k2 + 1) (by omega)
            rw [q_fa, if_neg h62, q_mn, if_neg (Int32.not_lt.mpr h68), q_lb, if_pos (Int32.not_le.mp h81)] at h9
            exact h9
        · refine g_iload 73 dX8_kitchens_71 rfl rfl ?_
          refine g_goto 77 dX8_kitchens_73 (by decide) ?_
          refine g_istore_n 78 dX8_kitchens_77 rfl (by decide) ?_
          refine g_iload 80 dX8_kitchens_78 rfl rfl ?_
          refine g_iload_n 81 dX8_kitchens_80 rfl rfl ?_
          refine g_icmp_le 89 84 dX8_kitchens_81 rfl (by decide) (fun h81 => ?_) (fun h81 => ?_)
          · refine g_iload_n 90 dX8_kitchens_89 rfl rfl ?_
            refine g_istore_n 91 dX8_kitchens_90 rfl (by decide) ?_
            refine g_iinc 94 (_ + 1) dX8_kitchens_91 rfl rfl rfl (by decide) ?_
            refine g_goto 19 dX8_kitchens_94 (by decide) ?_
            rw [nI_1]
            refine g_lv [(0, _), (1, _), (2, _), (3, _), (4, _)] rfl ?_
            have h9 := ih (k2 + 1) (by omega)
            rw [q_fa, if_neg h62, q_mn, if_pos (Int32.not_le.mp h68), q_lb, if_neg (Int32.not_lt.mpr h81)] at h9
            exact h9
          · refine g_iload 86 dX8_kitchens_84 rfl rfl ?_
            refine g_goto 90 dX8_kitchens_86 (by decide) ?_
            refine g_istore_n 91 dX8_kitchens_90 rfl (by decide) ?_
            refine g_iinc 94 (_ + 1) dX8_kitchens_91 rfl rfl rfl (by decide) ?_
            refine g_goto 19 dX8_kitchens_94 (by decide) ?_
            rw [nI_1]
            refine g_lv [(0, _), (1, _), (2, _), (3, _), (4, _)] rfl ?_
            have h9 := ih (k2 + 1) (by omega)
            rw [q_fa, if_neg h62, q_mn, if_pos (Int32.not_le.mp h68), q_lb, if_pos (Int32.not_le.mp h81)] at h9
            exact h9
set_option maxRecDepth 100000 in
set_option maxHeartbeats 8000000 in
theorem lp_kit {I : q_I} {μ1 : q_M} (hcn : i_cnt I ≤ 10) (hMG : ∀ i, i < 7 → q_MGI μ1 I i) (hset : ∀ j, j < 5 → μ1 128 j = i_set I j) : ∀ k i, i + k = 7 → ∀ μ, q_KI I μ1 μ i → q_G C l FX8_kitchens 3 142 142 (q_PV fun μ' ρ' => q_ρ b = ρ' ∧ q_KI I μ1 μ' 7) 142 μ (q_ρ b) [(0, .ref (q_a C 122)), (1, .int (nI (i + 1)))] [] 6 := by
  intro k
  induction k with
  | zero =>
    intro i hi μ hq
    refine g_iload_n 7 dX8_kitchens_6 rfl rfl ?_
    refine g_bipush 9 8 dX8_kitchens_7 rfl (by decide) ?_
    refine g_icmp_ge 131 12 dX8_kitchens_9 rfl (by decide) (fun h9 => ?_) (fun h9 => ?_)
    · exact g_rv dX8_kitchens_131 rfl rfl ⟨rfl, by rw [show i = 7 by omega] at hq; exact hq⟩
    · exact absurd (nI_le (a := 8) (b := i + 1) (by omega) (by omega)) h9
  | succ k ih =>
    intro i hi μ hq
    have hG := hMG i (by omega)
    refine g_iload_n 7 dX8_kitchens_6 rfl rfl ?_
    refine g_bipush 9 8 dX8_kitchens_7 rfl (by decide) ?_
    refine g_icmp_ge 131 12 dX8_kitchens_9 rfl (by decide) (fun h9 => ?_) (fun h9 => ?_)
    · exact absurd h9 (nI_ge (a := i + 1) (b := 8) (by omega) (by omega))
    · refine g_iconst 13 (-1) dX8_kitchens_12 rfl (by decide) ?_
      refine g_istore_n 14 dX8_kitchens_13 rfl (by decide) ?_
      refine g_iconst 15 (-1) dX8_kitchens_14 rfl (by decide) ?_
      refine g_istore_n 16 dX8_kitchens_15 rfl (by decide) ?_
      refine g_iconst 17 0 dX8_kitchens_16 rfl (by decide) ?_
      refine g_istore 19 dX8_kitchens_17 rfl (by decide) ?_
      have h9 := lp_kin (C := C) (l := l) (b := b) (μ := μ) (I := I) (i := i) (Po := (q_PV fun μ' ρ' => q_ρ b = ρ' ∧ q_KI I μ1 μ' 7)) (by omega) (Nat.le_trans (q_od_le _ _ _ _) hcn) (fun j hj => Nat.lt_of_lt_of_le (q_od_lt _ _ _ _ j hj) hcn) (by rw [hq.1 _ _ (by decide) (by decide)]; exact hG.2.2.2.2) (fun j hj => by rw [hq.1 _ _ (by decide) (by decide)]; exact hG.2.2.2.1 j hj) (fun r hr => by rw [hq.1 _ _ (by decide) (by decide)]; exact hG.2.1 r hr) ?_ (i_cm I i) 0 (by omega)
      · refine g_lv [(0, _), (1, _), (2, _), (3, _), (4, .int (nI 0))] rfl ?_
        exact h9
      refine g_aload_n 98 dX8_kitchens_97 rfl rfl ?_
      refine g_getR 101 _ dX8_kitchens_98 rfl f_X8_62 (by decide) rfl rfl rfl ?_
      refine g_iload_n 102 dX8_kitchens_101 rfl rfl ?_
      refine g_iload_n 103 dX8_kitchens_102 rfl rfl ?_
      refine g_aload_n 104 dX8_kitchens_103 rfl rfl ?_
      refine g_getR 107 _ dX8_kitchens_104 rfl f_X8_25 (by decide) rfl rfl rfl ?_
      refine g_iconst 108 0 dX8_kitchens_107 rfl (by decide) ?_
      refine g_iald 109 dX8_kitchens_108 rfl (by decide) rfl (vp_in_nI (n := 0) (N := 5) (by decide) (by decide)) ?_
      rw [sb_cl0, hq.1 128 0 (by decide) (by decide), hset 0 (by decide)]
      refine g_isub 110 dX8_kitchens_109 rfl ?_
      refine g_iast 111 dX8_kitchens_110 rfl (by decide) rfl (vp_in_nI (show i + 1 < 8 by omega) (by omega)) ?_
      rw [nI_clamp (show i + 1 < 2 ^ 31 by omega)]
      refine g_aload_n 112 dX8_kitchens_111 rfl rfl ?_
      refine g_getR 115 _ dX8_kitchens_112 rfl f_X8_65 (by decide) rfl rfl rfl ?_
      refine g_iload_n 116 dX8_kitchens_115 rfl rfl ?_
      refine g_iload_n 117 dX8_kitchens_116 rfl rfl ?_
      refine g_aload_n 118 dX8_kitchens_117 rfl rfl ?_
      refine g_getR 121 _ dX8_kitchens_118 rfl f_X8_25 (by decide) rfl rfl rfl ?_
      refine g_iconst 122 1 dX8_kitchens_121 rfl (by decide) ?_
      refine g_iald 123 dX8_kitchens_122 rfl (by decide) rfl (vp_in_nI (n := 1) (N := 5) (by decide) (by decide)) ?_
      rw [show (1 : Int32).toNatClampNeg = 1 from rfl, q_upc (by decide), hq.1 128 1 (by decide) (by decide), hset 1 (by decide)]
      refine g_iadd 124 dX8_kitchens_123 rfl ?_
      refine g_iast 125 dX8_kitchens_124 rfl (by decide) rfl (vp_in_nI (show i + 1 < 8 by omega) (by omega)) ?_
      rw [nI_clamp (show i + 1 < 2 ^ 31 by omega)]
      refine g_iinc 128 (_ + 1) dX8_kitchens_125 rfl rfl rfl (by decide) ?_
      refine g_goto 6 dX8_kitchens_128 (by decide) ?_
      rw [nI_1]
      refine g_lv [(0, _), (1, _)] rfl ?_
      refine ih (i + 1) (by omega) _ ⟨fun cc j g1 g2 => by rw [q_upc g2, q_upc g1]; exact hq.1 cc j g1 g2, fun x hx => ?_⟩
      by_cases q : x = i
      · subst q
        exact ⟨by rw [q_upc (by decide), q_ups]; rfl, by rw [q_ups]; rfl⟩
      · have h9 := hq.2 x (by omega)
        exact ⟨by rw [q_upc (by decide), q_upo (by omega)]; exact h9.1, by rw [q_upo (by omega), q_upc (by decide)]; exact h9.2⟩
theorem q_MG_of {μ μ' : q_M} {I : q_I} {i : Nat} (hf : ∀ cc j, cc ≠ 139 → cc ≠ 140 → cc ≠ 141 → μ' cc j = μ cc j) (h : q_MGI μ I i) : q_MGI μ' I i := by
  obtain ⟨h1, h2, h3, h4, h5⟩ := h
  exact ⟨fun r hr => by rw [hf _ _ (by decide) (by decide) (by decide)]; exact h1 r hr, fun r hr => by rw [hf _ _ (by decide) (by decide) (by decide)]; exact h2 r hr, fun j hj => by rw [hf _ _ (by decide) (by decide) (by decide)]; exact h3 j hj, fun j hj => by rw [hf _ _ (by decide) (by decide) (by decide)]; exact h4 j hj, by rw [hf _ _ (by decide) (by decide) (by decide)]; exact h5⟩
set_option maxRecDepth 100000 in
set_option maxHeartbeats 4000000 in
theorem c_kit {I : q_I} (hV : q_MV μ I) : q_Ct C l FX8_kitchens 3 142 142 [.ref (q_a C 122)] μ (q_ρ b) (q_PV fun μ' ρ' => q_ρ b = ρ' ∧ (∀ i, i < 7 → q_MGI μ' I i) ∧ (∀ x, x < 7 → μ' 139 (x + 1) = i_op I (x + 1) ∧ μ' 140 (x + 1) = i_cl I (x + 1)) ∧ ∀ c j, (c < 134 ∨ 140 < c) → μ' c j = μ c j) := by
  refine q_entry rfl (by decide) (Nat.le_of_ble_eq_true rfl) ?_
  refine g_lv [(0, _)] rfl ?_
  refine g_aload_n 1 dX8_kitchens_0 rfl rfl ?_
  refine g_Vv 4 [] _ dX8_kitchens_1 rfl m_X8_runs l_X8_177 rfl rfl rfl (by decide) (c_runs hV.1) rfl (Nat.le_of_ble_eq_true rfl) (by decide) (fun μ1 ρ1 hc9 => ?_)
  obtain ⟨rfl, hr⟩ := hc9
  refine g_iconst 5 1 dX8_kitchens_4 rfl (by decide) ?_
  refine g_istore_n 6 dX8_kitchens_5 rfl (by decide) ?_
  refine g_lv [(0, _), (1, .int (nI (0 + 1)))] rfl ?_
  have h9 := lp_kit (C := C) (l := l) (b := b) (I := I) (μ1 := μ1) hV.1.1 (fun i hi => hr.1 i hi) (fun j hj => by rw [hr.2 128 j (by decide)]; exact hV.2.1 j hj) 7 0 (by omega) μ1 ⟨fun _ _ _ _ => rfl, fun x hx => absurd hx (Nat.not_lt_zero _)⟩
  refine q_Gw h9 (fun r μ' ρ' h => ?_)
  obtain ⟨rfl, rfl, hk⟩ := h
  exact ⟨rfl, rfl, fun i hi => q_MG_of (fun cc j g1 g2 _ => hk.1 cc j g1 g2) (hr.1 i hi), hk.2, fun c j hc => by rw [hk.1 c j (by omega) (by omega)]; exact hr.2 c j (by omega)⟩
/-- the reference has worked it out -/
def q_MO (μ : q_M) (I : q_I) : Prop := (∀ i, i < 7 → q_MGI μ I i) ∧ (∀ x, x < 7 → μ 139 (x + 1) = i_op I (x + 1) ∧ μ 140 (x + 1) = i_cl I (x + 1)) ∧ ∀ x, 1 ≤ x → x ≤ i_N I → μ 141 x = nI (i_g I x)
/-- the two searches find the same -/
def q_SE (I : q_I) : Prop := ∀ m, m ≤ 7 → q_tr (q_cm2 (i_op I) (i_cl I) (i_len I) (i_set I 2)) m (i_N I) 1 (fun _ => 0) = i_se I m
theorem q_MF_I {μ : q_M} {I : q_I} (hcn : i_cnt I ≤ 10) (hG : ∀ i, i < 7 → q_MGI μ I i) (hO : ∀ x, x < 7 → μ 139 (x + 1) = i_op I (x + 1) ∧ μ 140 (x + 1) = i_cl I (x + 1)) (hs : ∀ j, j < 5 → μ 128 j = i_set I j) (hl : ∀ j, j < 7 → μ 123 (j + 1) = i_len I j) (h0 : ¬ i_set I 2 = 0) : q_MF μ (i_N I) (i_cm I) (i_op I) (i_cl I) (i_len I) (i_set I 2) := by
  refine ⟨i_N_le I, fun i hi => ⟨Nat.le_trans (q_od_le _ _ _ _) hcn, (hG i hi).2.2.2.2, i_N_iff I hi⟩, fun x h1 h2 => ?_, hl, hs 2 (by decide), h0⟩
  have := i_N_le I
  have h9 := hO (x - 1) (by omega)
  rw [show x - 1 + 1 = x by omega] at h9
  exact h9
set_option maxRecDepth 100000 in
set_option maxHeartbeats 8000000 in
theorem lp_finds {I : q_I} {μ1 : q_M} (hT : q_SE I) (hF : q_MF μ1 (i_N I) (i_cm I) (i_op I) (i_cl I) (i_len I) (i_set I 2)) : ∀ k m, m + k = i_n0 I → ∀ μ, (∀ cc j, cc ≠ 141 → μ cc j = μ1 cc j) → q_G C l FX8_finds 12 142 142 (q_PI fun v μ' ρ' => q_ρ b = ρ' ∧ v = nI (i_n0 I) ∧ (∀ cc j, cc ≠ 141 → μ' cc j = μ1 cc j) ∧ ∀ x, 1 ≤ x → x ≤ i_N I → μ' 141 x = nI (i_g I x)) 142 μ (q_ρ b) [(0, .ref (q_a C 122)), (1, .int (nI m))] [] 6 := by
  intro k
  induction k with
  | zero =>
    intro m hm μ hf
    refine g_aload_n 7 dX8_finds_6 rfl rfl ?_
    refine g_iconst 8 1 dX8_finds_7 rfl (by decide) ?_
    refine g_iload_n 9 dX8_finds_8 rfl rfl ?_
    have hn7 := i_n0_le I
    have hla : (fun s => q_lf (fun _ => 0) s 1) = (fun _ => 0) := by funext s; simp [q_lf]
    refine g_Vi 12 [_, _] _ dX8_finds_9 rfl m_X8_tries l_X8_189 rfl rfl rfl (by decide) (c_tries (N := i_N I) (most := m) (cm := i_cm I) (op := i_op I) (cl := i_cl I) (len := i_len I) (pc := i_set I 2) (by omega) (i_N I) 1 (fun _ => 0) μ (by omega) (by omega) (q_MF.of hF hf) (fun a h1 h2 => by omega)) rfl (Nat.le_of_ble_eq_true rfl) (by omega) (fun v9 μ9 ρ9 hc9 => ?_)
    obtain ⟨rfl, hsp⟩ := hc9
    rw [hla, hT m (by omega)] at hsp
    rw [show m = i_n0 I by omega, (i_n0_s I).2.1] at hsp
    refine g_if_ne 21 15 dX8_finds_12 rfl (by decide) (fun h12 => ?_) (fun h12 => ?_)
    · refine g_iload_n 22 dX8_finds_21 rfl rfl ?_
      exact g_ri dX8_finds_22 rfl rfl ⟨rfl, by rw [show m = i_n0 I by omega], fun cc j g1 => by rw [hsp.1 cc j g1]; exact hf cc j g1, hsp.2.2.2⟩
    · exact absurd (hsp.2.2.1.symm.trans h12) (by decide)
  | succ k ih =>
    intro m hm μ hf
    refine g_aload_n 7 dX8_finds_6 rfl rfl ?_
    refine g_iconst 8 1 dX8_finds_7 rfl (by decide) ?_
    refine g_iload_n 9 dX8_finds_8 rfl rfl ?_
    have hn7 := i_n0_le I
    have hla : (fun s => q_lf (fun _ => 0) s 1) = (fun _ => 0) := by funext s; simp [q_lf]
    refine g_Vi 12 [_, _] _ dX8_finds_9 rfl m_X8_tries l_X8_189 rfl rfl rfl (by decide) (c_tries (N := i_N I) (most := m) (cm := i_cm I) (op := i_op I) (cl := i_cl I) (len := i_len I) (pc := i_set I 2) (by omega) (i_N I) 1 (fun _ => 0) μ (by omega) (by omega) (q_MF.of hF hf) (fun a h1 h2 => by omega)) rfl (Nat.le_of_ble_eq_true rfl) (by omega) (fun v9 μ9 ρ9 hc9 => ?_)
    obtain ⟨rfl, hsp⟩ := hc9
    rw [hla, hT m (by omega)] at hsp
    rw [(i_n0_s I).2.2 m (by omega)] at hsp
    refine g_if_ne 21 15 dX8_finds_12 rfl (by decide) (fun h12 => ?_) (fun h12 => ?_)
    · exact absurd hsp.2.2 h12
    · refine g_iinc 18 (_ + 1) dX8_finds_15 rfl rfl rfl (by decide) ?_
      refine g_goto 6 dX8_finds_18 (by decide) ?_
      rw [nI_1]
      refine g_lv [(0, _), (1, _)] rfl ?_
      exact ih (m + 1) (by omega) _ (fun cc j g1 => by rw [hsp.1 cc j g1]; exact hf cc j g1)
set_option maxRecDepth 100000 in
set_option maxHeartbeats 4000000 in
theorem c_finds {I : q_I} (hV : q_MV μ I) (hT : q_SE I) : q_Ct C l FX8_finds 12 142 142 [.ref (q_a C 122)] μ (q_ρ b) (q_PI fun v μ' ρ' => nI (i_n0 I) = v ∧ q_ρ b = ρ' ∧ q_MO μ' I ∧ (∀ c j, (c < 134 ∨ 141 < c) → μ' c j = μ c j)) := by
  refine q_entry rfl (by decide) (Nat.le_of_ble_eq_true rfl) ?_
  refine g_lv [(0, _)] rfl ?_
  refine g_aload_n 1 dX8_finds_0 rfl rfl ?_
  refine g_Vv 4 [] _ dX8_finds_1 rfl m_X8_kitchens l_X8_195 rfl rfl rfl (by decide) (c_kit hV) rfl (Nat.le_of_ble_eq_true rfl) (by decide) (fun μ1 ρ1 hc9 => ?_)
  obtain ⟨rfl, hG, hO, hf⟩ := hc9
  have hF := q_MF_I hV.1.1 hG hO (fun j hj => by rw [hf 128 j (by decide)]; exact hV.2.1 j hj) (fun j hj => by rw [hf 123 _ (by decide)]; exact hV.2.2.1 j hj) hV.2.2.2
  refine g_iconst 5 0 dX8_finds_4 rfl (by decide) ?_
  refine g_istore_n 6 dX8_finds_5 rfl (by decide) ?_
  refine g_lv [(0, _), (1, .int (nI 0))] rfl ?_
  refine q_Gw (lp_finds hT hF (i_n0 I) 0 (by omega) μ1 (fun _ _ _ => rfl)) (fun r μ' ρ' h => ?_)
  obtain ⟨v, rfl, rfl, rfl, h2, h3⟩ := h
  exact ⟨_, rfl, rfl, rfl, ⟨fun i hi => q_MG_of (fun cc j _ _ g => h2 cc j g) (hG i hi), fun x hx => by rw [h2 _ _ (by decide), h2 _ _ (by decide)]; exact hO x hx, h3⟩, fun c j hc => by rw [h2 c j (by omega)]; exact hf c j (by omega)⟩
set_option maxRecDepth 100000 in
set_option maxHeartbeats 4000000 in
theorem c_Mask_time {I : q_I} (hV : q_MV μ I) {r i : Nat} (hr : r < i_cnt I) (hi : i < 7) : q_Ct C l FX8_time 2 142 142 [.ref (q_a C 122), .int (nI r), .int (nI i)] μ (q_ρ b) (q_is (i_tm I i r) μ (q_ρ b)) := by
  refine q_entry rfl (by decide) (Nat.le_of_ble_eq_true rfl) ?_
  refine g_lv [(0, _), (1, _), (2, _)] rfl ?_
  refine g_aload_n 1 dX8_time_0 rfl rfl ?_
  refine g_iload_n 2 dX8_time_1 rfl rfl ?_
  refine g_Vi 5 [_] _ dX8_time_2 rfl m_X8_isRacer l_X8_85 rfl rfl rfl (by decide) (c_MisRacer _) rfl (Nat.le_of_ble_eq_true rfl) (by decide) (fun v2 μ2 ρ2 hc9 => ?_)
  obtain ⟨rfl, rfl, rfl⟩ := hc9
  refine g_if_eq 24 8 dX8_time_5 rfl (by decide) (fun h5 => ?_) (fun h5 => ?_)
  · exact (q_b_0.mp h5 (by rw [hV.1.2.1]; exact q_rin hr hV.1.1)).elim
  · refine g_iload_n 9 dX8_time_8 rfl rfl ?_
    refine g_Si 12 [_] _ dX8_time_9 rfl m_X8_isStage l_X8_82 rfl (c_MisStage _) rfl (Nat.le_of_ble_eq_true rfl) (by decide) (fun v9 μ9 ρ9 hc9 => ?_)
    obtain ⟨rfl, rfl, rfl⟩ := hc9
    refine g_if_eq 24 15 dX8_time_12 rfl (by decide) (fun h12 => ?_) (fun h12 => ?_)
    · exact (q_b_0.mp h12 (q_stageI hi)).elim
    · refine g_aload_n 16 dX8_time_15 rfl rfl ?_
      refine g_iload_n 17 dX8_time_16 rfl rfl ?_
      refine g_iload_n 18 dX8_time_17 rfl rfl ?_
      have hX := hV.1.2.2.2.1 i r hi hr
      refine g_Vi 21 [_, _] _ dX8_time_18 rfl m_X8_timeOf l_X8_167 rfl rfl rfl (by decide) (c_Mtime (K := i_K I i) (by have := hV.1.1; omega) hi (hV.1.2.2.1 i hi).1 (hV.1.2.2.1 i hi).2 hX.1 hX.2.1) rfl (Nat.le_of_ble_eq_true rfl) (by decide) (fun v18 μ18 ρ18 hc9 => ?_)
      obtain ⟨rfl, rfl, rfl⟩ := hc9
      refine g_goto 25 dX8_time_21 (by decide) ?_
      exact g_ri dX8_time_25 rfl rfl ⟨hX.2.2, rfl, rfl⟩
set_option maxRecDepth 100000 in
set_option maxHeartbeats 4000000 in
theorem c_Mask_time_n {r i : Int32} (h : ¬ (q_in r 0 (μ 122 0 - 1) ∧ q_in i 0 6)) : q_Ct C l FX8_time 2 142 142 [.ref (q_a C 122), .int r, .int i] μ (q_ρ b) (q_is (-1) μ (q_ρ b)) := by
  refine q_entry rfl (by decide) (Nat.le_of_ble_eq_true rfl) ?_
  refine g_lv [(0, _), (1, _), (2, _)] rfl ?_
  refine g_aload_n 1 dX8_time_0 rfl rfl ?_
  refine g_iload_n 2 dX8_time_1 rfl rfl ?_
  refine g_Vi 5 [_] _ dX8_time_2 rfl m_X8_isRacer l_X8_85 rfl rfl rfl (by decide) (c_MisRacer _) rfl (Nat.le_of_ble_eq_true rfl) (by decide) (fun v2 μ2 ρ2 hc9 => ?_)
  obtain ⟨rfl, rfl, rfl⟩ := hc9
  refine g_if_eq 24 8 dX8_time_5 rfl (by decide) (fun h5 => ?_) (fun h5 => ?_)
  · refine g_iconst 25 (-1) dX8_time_24 rfl (by decide) ?_
    exact g_ri dX8_time_25 rfl rfl ⟨rfl, rfl, rfl⟩
  · refine g_iload_n 9 dX8_time_8 rfl rfl ?_
    refine g_Si 12 [_] _ dX8_time_9 rfl m_X8_isStage l_X8_82 rfl (c_MisStage _) rfl (Nat.le_of_ble_eq_true rfl) (by decide) (fun v9 μ9 ρ9 hc9 => ?_)
    obtain ⟨rfl, rfl, rfl⟩ := hc9
    refine g_if_eq 24 15 dX8_time_12 rfl (by decide) (fun h12 => ?_) (fun h12 => ?_)
    · refine g_iconst 25 (-1) dX8_time_24 rfl (by decide) ?_
      exact g_ri dX8_time_25 rfl rfl ⟨rfl, rfl, rfl⟩
    · exact (h ⟨q_b_n.mp h5, q_b_n.mp h12⟩).elim
set_option maxRecDepth 100000 in
set_option maxHeartbeats 4000000 in
theorem c_Mran_0 {I : q_I} (hV : q_MV μ I) {r i : Nat} (hr : r < i_cnt I) (hi : i < 7) : q_Ct C l FX8_ran 3 142 142 [.ref (q_a C 122), .int (nI r), .int (nI i), .int 0] μ (q_ρ b) (q_PI fun v μ' ρ' => (i_st I i r) = v ∧ q_ρ b = ρ' ∧ (∀ c j, (c < 134 ∨ 141 < c) → μ' c j = μ c j)) := by
  refine q_entry rfl (by decide) (Nat.le_of_ble_eq_true rfl) ?_
  refine g_lv [(0, _), (1, _), (2, _), (3, _)] rfl ?_
  refine g_aload_n 1 dX8_ran_0 rfl rfl ?_
  refine g_iload_n 2 dX8_ran_1 rfl rfl ?_
  refine g_Vi 5 [_] _ dX8_ran_2 rfl m_X8_isRacer l_X8_85 rfl rfl rfl (by decide) (c_MisRacer _) rfl (Nat.le_of_ble_eq_true rfl) (by decide) (fun v2 μ2 ρ2 hc9 => ?_)
  obtain ⟨rfl, rfl, rfl⟩ := hc9
  refine g_if_eq 24 8 dX8_ran_5 rfl (by decide) (fun h5 => ?_) (fun h5 => ?_)
  · exact (q_b_0.mp h5 (by rw [hV.1.2.1]; exact q_rin hr hV.1.1)).elim
  · refine g_iload_n 9 dX8_ran_8 rfl rfl ?_
    refine g_Si 12 [_] _ dX8_ran_9 rfl m_X8_isStage l_X8_82 rfl (c_MisStage _) rfl (Nat.le_of_ble_eq_true rfl) (by decide) (fun v9 μ9 ρ9 hc9 => ?_)
    obtain ⟨rfl, rfl, rfl⟩ := hc9
    refine g_if_eq 24 15 dX8_ran_12 rfl (by decide) (fun h12 => ?_) (fun h12 => ?_)
    · exact (q_b_0.mp h12 (q_stageI hi)).elim
    · refine g_iload_n 16 dX8_ran_15 rfl rfl ?_
      refine g_iconst 17 0 dX8_ran_16 rfl (by decide) ?_
      refine g_iconst 18 3 dX8_ran_17 rfl (by decide) ?_
      refine g_Si 21 [_, _, _] _ dX8_ran_18 rfl m_X8_isIn l_X8_71 rfl (c_isIn _ _ _) rfl (Nat.le_of_ble_eq_true rfl) (by decide) (fun v18 μ18 ρ18 hc9 => ?_)
      obtain ⟨rfl, rfl, rfl⟩ := hc9
      refine g_if_ne 26 24 dX8_ran_21 rfl (by decide) (fun h21 => ?_) (fun h21 => ?_)
      · refine g_aload_n 27 dX8_ran_26 rfl rfl ?_
        refine g_Vv 30 [] _ dX8_ran_27 rfl m_X8_runs l_X8_177 rfl rfl rfl (by decide) (c_runs hV.1) rfl (Nat.le_of_ble_eq_true rfl) (by decide) (fun μ27 ρ27 hc9 => ?_)
        obtain ⟨rfl, hr7⟩ := hc9
        have hfr : ∀ c j, (c < 134 ∨ 141 < c) → μ27 c j = μ c j := fun c j hc => hr7.2 c j (by omega)
        have hG := hr7.1
        refine g_iload_n 31 dX8_ran_30 rfl rfl ?_
        refine g_if_ne 46 34 dX8_ran_31 rfl (by decide) (fun h31 => ?_) (fun h31 => ?_)
        · exact absurd rfl h31
        · refine g_aload_n 35 dX8_ran_34 rfl rfl ?_
          refine g_getR 38 _ dX8_ran_35 rfl f_X8_47 (by decide) rfl rfl rfl ?_
          refine g_bipush 40 10 dX8_ran_38 rfl (by decide) ?_
          refine g_iload_n 41 dX8_ran_40 rfl rfl ?_
          refine g_imul 42 dX8_ran_41 rfl ?_
          refine g_iload_n 43 dX8_ran_42 rfl rfl ?_
          refine g_iadd 44 dX8_ran_43 rfl ?_
          rw [q_ix]
          refine g_iald 45 dX8_ran_44 rfl (by decide) rfl (vp_in_nI (show 10 * i + r < 70 by have := hV.1.1; omega) (by omega)) ?_
          rw [nI_clamp (show 10 * i + r < 2 ^ 31 by have := hV.1.1; omega)]
          exact g_ri dX8_ran_45 rfl rfl ⟨((hG i hi).1 r (show r < 10 by have := hV.1.1; omega)).symm, rfl, hfr⟩
      · exact (q_b_0.mp h21 (by decide)).elim
set_option maxRecDepth 100000 in
set_option maxHeartbeats 4000000 in
theorem c_Mran_1 {I : q_I} (hV : q_MV μ I) {r i : Nat} (hr : r < i_cnt I) (hi : i < 7) : q_Ct C l FX8_ran 3 142 142 [.ref (q_a C 122), .int (nI r), .int (nI i), .int 1] μ (q_ρ b) (q_PI fun v μ' ρ' => (i_ar I i r) = v ∧ q_ρ b = ρ' ∧ (∀ c j, (c < 134 ∨ 141 < c) → μ' c j = μ c j)) := by
  refine q_entry rfl (by decide) (Nat.le_of_ble_eq_true rfl) ?_
  refine g_lv [(0, _), (1, _), (2, _), (3, _)] rfl ?_
  refine g_aload_n 1 dX8_ran_0 rfl rfl ?_
  refine g_iload_n 2 dX8_ran_1 rfl rfl ?_
  refine g_Vi 5 [_] _ dX8_ran_2 rfl m_X8_isRacer l_X8_85 rfl rfl rfl (by decide) (c_MisRacer _) rfl (Nat.le_of_ble_eq_true rfl) (by decide) (fun v2 μ2 ρ2 hc9 => ?_)
  obtain ⟨rfl, rfl, rfl⟩ := hc9
  refine g_if_eq 24 8 dX8_ran_5 rfl (by decide) (fun h5 => ?_) (fun h5 => ?_)
  · exact (q_b_0.mp h5 (by rw [hV.1.2.1]; exact q_rin hr hV.1.1)).elim
  · refine g_iload_n 9 dX8_ran_8 rfl rfl ?_
    refine g_Si 12 [_] _ dX8_ran_9 rfl m_X8_isStage l_X8_82 rfl (c_MisStage _) rfl (Nat.le_of_ble_eq_true rfl) (by decide) (fun v9 μ9 ρ9 hc9 => ?_)
    obtain ⟨rfl, rfl, rfl⟩ := hc9
    refine g_if_eq 24 15 dX8_ran_12 rfl (by decide) (fun h12 => ?_) (fun h12 => ?_)
    · exact (q_b_0.mp h12 (q_stageI hi)).elim
    · refine g_iload_n 16 dX8_ran_15 rfl rfl ?_
      refine g_iconst 17 0 dX8_ran_16 rfl (by decide) ?_
      refine g_iconst 18 3 dX8_ran_17 rfl (by decide) ?_
      refine g_Si 21 [_, _, _] _ dX8_ran_18 rfl m_X8_isIn l_X8_71 rfl (c_isIn _ _ _) rfl (Nat.le_of_ble_eq_true rfl) (by decide) (fun v18 μ18 ρ18 hc9 => ?_)
      obtain ⟨rfl, rfl, rfl⟩ := hc9
      refine g_if_ne 26 24 dX8_ran_21 rfl (by decide) (fun h21 => ?_) (fun h21 => ?_)
      · refine g_aload_n 27 dX8_ran_26 rfl rfl ?_
        refine g_Vv 30 [] _ dX8_ran_27 rfl m_X8_runs l_X8_177 rfl rfl rfl (by decide) (c_runs hV.1) rfl (Nat.le_of_ble_eq_true rfl) (by decide) (fun μ27 ρ27 hc9 => ?_)
        obtain ⟨rfl, hr7⟩ := hc9
        have hfr : ∀ c j, (c < 134 ∨ 141 < c) → μ27 c j = μ c j := fun c j hc => hr7.2 c j (by omega)
        have hG := hr7.1
        refine g_iload_n 31 dX8_ran_30 rfl rfl ?_
        refine g_if_ne 46 34 dX8_ran_31 rfl (by decide) (fun h31 => ?_) (fun h31 => ?_)
        · refine g_iload_n 47 dX8_ran_46 rfl rfl ?_
          refine g_iconst 48 1 dX8_ran_47 rfl (by decide) ?_
          refine g_icmp_eq 66 51 dX8_ran_48 rfl (by decide) (fun h48 => ?_) (fun h48 => ?_)
          · refine g_aload_n 67 dX8_ran_66 rfl rfl ?_
            refine g_getR 70 _ dX8_ran_67 rfl f_X8_50 (by decide) rfl rfl rfl ?_
            refine g_bipush 72 10 dX8_ran_70 rfl (by decide) ?_
            refine g_iload_n 73 dX8_ran_72 rfl rfl ?_
            refine g_imul 74 dX8_ran_73 rfl ?_
            refine g_iload_n 75 dX8_ran_74 rfl rfl ?_
            refine g_iadd 76 dX8_ran_75 rfl ?_
            rw [q_ix]
            refine g_iald 77 dX8_ran_76 rfl (by decide) rfl (vp_in_nI (show 10 * i + r < 70 by have := hV.1.1; omega) (by omega)) ?_
            rw [nI_clamp (show 10 * i + r < 2 ^ 31 by have := hV.1.1; omega)]
            exact g_ri dX8_ran_77 rfl rfl ⟨((hG i hi).2.1 r (show r < 10 by have := hV.1.1; omega)).symm, rfl, hfr⟩
          · exact absurd rfl h48
        · exact absurd h31 (by decide)
      · exact (q_b_0.mp h21 (by decide)).elim
set_option maxRecDepth 100000 in
set_option maxHeartbeats 4000000 in
theorem c_Mran_3 {I : q_I} (hV : q_MV μ I) {r i j : Nat} (hr : r < i_cnt I) (hi : i < 7) (hj : j < i_cm I i) (hjr : i_o I i j = r) (ha : ¬ i_ar I i r = -1) : q_Ct C l FX8_ran 3 142 142 [.ref (q_a C 122), .int (nI r), .int (nI i), .int 3] μ (q_ρ b) (q_PI fun v μ' ρ' => (q_S (i_tm I) i r) = v ∧ q_ρ b = ρ' ∧ (∀ c j, (c < 134 ∨ 141 < c) → μ' c j = μ c j)) := by
  refine q_entry rfl (by decide) (Nat.le_of_ble_eq_true rfl) ?_
  refine g_lv [(0, _), (1, _), (2, _), (3, _)] rfl ?_
  refine g_aload_n 1 dX8_ran_0 rfl rfl ?_
  refine g_iload_n 2 dX8_ran_1 rfl rfl ?_
  refine g_Vi 5 [_] _ dX8_ran_2 rfl m_X8_isRacer l_X8_85 rfl rfl rfl (by decide) (c_MisRacer _) rfl (Nat.le_of_ble_eq_true rfl) (by decide) (fun v2 μ2 ρ2 hc9 => ?_)
  obtain ⟨rfl, rfl, rfl⟩ := hc9
  refine g_if_eq 24 8 dX8_ran_5 rfl (by decide) (fun h5 => ?_) (fun h5 => ?_)
  · exact (q_b_0.mp h5 (by rw [hV.1.2.1]; exact q_rin hr hV.1.1)).elim
  · refine g_iload_n 9 dX8_ran_8 rfl rfl ?_
    refine g_Si 12 [_] _ dX8_ran_9 rfl m_X8_isStage l_X8_82 rfl (c_MisStage _) rfl (Nat.le_of_ble_eq_true rfl) (by decide) (fun v9 μ9 ρ9 hc9 => ?_)
    obtain ⟨rfl, rfl, rfl⟩ := hc9
    refine g_if_eq 24 15 dX8_ran_12 rfl (by decide) (fun h12 => ?_) (fun h12 => ?_)
    · exact (q_b_0.mp h12 (q_stageI hi)).elim
    · refine g_iload_n 16 dX8_ran_15 rfl rfl ?_
      refine g_iconst 17 0 dX8_ran_16 rfl (by decide) ?_
      refine g_iconst 18 3 dX8_ran_17 rfl (by decide) ?_
      refine g_Si 21 [_, _, _] _ dX8_ran_18 rfl m_X8_isIn l_X8_71 rfl (c_isIn _ _ _) rfl (Nat.le_of_ble_eq_true rfl) (by decide) (fun v18 μ18 ρ18 hc9 => ?_)
      obtain ⟨rfl, rfl, rfl⟩ := hc9
      refine g_if_ne 26 24 dX8_ran_21 rfl (by decide) (fun h21 => ?_) (fun h21 => ?_)
      · refine g_aload_n 27 dX8_ran_26 rfl rfl ?_
        refine g_Vv 30 [] _ dX8_ran_27 rfl m_X8_runs l_X8_177 rfl rfl rfl (by decide) (c_runs hV.1) rfl (Nat.le_of_ble_eq_true rfl) (by decide) (fun μ27 ρ27 hc9 => ?_)
        obtain ⟨rfl, hr7⟩ := hc9
        have hfr : ∀ c j, (c < 134 ∨ 141 < c) → μ27 c j = μ c j := fun c j hc => hr7.2 c j (by omega)
        have hG := hr7.1
        refine g_iload_n 31 dX8_ran_30 rfl rfl ?_
        refine g_if_ne 46 34 dX8_ran_31 rfl (by decide) (fun h31 => ?_) (fun h31 => ?_)
        · refine g_iload_n 47 dX8_ran_46 rfl rfl ?_
          refine g_iconst 48 1 dX8_ran_47 rfl (by decide) ?_
          refine g_icmp_eq 66 51 dX8_ran_48 rfl (by decide) (fun h48 => ?_) (fun h48 => ?_)
          · exact absurd h48 (by decide)
          · refine g_aload_n 52 dX8_ran_51 rfl rfl ?_
            refine g_getR 55 _ dX8_ran_52 rfl f_X8_50 (by decide) rfl rfl rfl ?_
            refine g_bipush 57 10 dX8_ran_55 rfl (by decide) ?_
            refine g_iload_n 58 dX8_ran_57 rfl rfl ?_
            refine g_imul 59 dX8_ran_58 rfl ?_
            refine g_iload_n 60 dX8_ran_59 rfl rfl ?_
            refine g_iadd 61 dX8_ran_60 rfl ?_
            rw [q_ix]
            refine g_iald 62 dX8_ran_61 rfl (by decide) rfl (vp_in_nI (show 10 * i + r < 70 by have := hV.1.1; omega) (by omega)) ?_
            rw [nI_clamp (show 10 * i + r < 2 ^ 31 by have := hV.1.1; omega), (hG i hi).2.1 r (show r < 10 by have := hV.1.1; omega)]
            refine g_iconst 63 (-1) dX8_ran_62 rfl (by decide) ?_
            refine g_icmp_ne 78 66 dX8_ran_63 rfl (by decide) (fun h63 => ?_) (fun h63 => ?_)
            · refine g_iload_n 79 dX8_ran_78 rfl rfl ?_
              refine g_iconst 80 3 dX8_ran_79 rfl (by decide) ?_
              refine g_icmp_ne 95 83 dX8_ran_80 rfl (by decide) (fun h80 => ?_) (fun h80 => ?_)
              · exact absurd rfl h80
              · refine g_aload_n 84 dX8_ran_83 rfl rfl ?_
                refine g_getR 87 _ dX8_ran_84 rfl f_X8_53 (by decide) rfl rfl rfl ?_
                refine g_bipush 89 10 dX8_ran_87 rfl (by decide) ?_
                refine g_iload_n 90 dX8_ran_89 rfl rfl ?_
                refine g_imul 91 dX8_ran_90 rfl ?_
                refine g_iload_n 92 dX8_ran_91 rfl rfl ?_
                refine g_iadd 93 dX8_ran_92 rfl ?_
                rw [q_ix]
                refine g_iald 94 dX8_ran_93 rfl (by decide) rfl (vp_in_nI (show 10 * i + r < 70 by have := hV.1.1; omega) (by omega)) ?_
                rw [nI_clamp (show 10 * i + r < 2 ^ 31 by have := hV.1.1; omega)]
                exact g_ri dX8_ran_94 rfl rfl ⟨by have h9 := (hG i hi).2.2.1 j hj; rw [show (q_od (i_cnt I) (i_tm I) (i_bk I) (i + 1)).1 j = r from hjr] at h9; exact h9.symm, rfl, hfr⟩
            · exact (ha h63).elim
        · exact absurd h31 (by decide)
      · exact (q_b_0.mp h21 (by decide)).elim
set_option maxRecDepth 100000 in
set_option maxHeartbeats 4000000 in
theorem c_Mran_2z {I : q_I} (hV : q_MV μ I) {r i : Nat} (hr : r < i_cnt I) (hi : i < 7) (ha : i_ar I i r = -1) : q_Ct C l FX8_ran 3 142 142 [.ref (q_a C 122), .int (nI r), .int (nI i), .int 2] μ (q_ρ b) (q_PI fun v μ' ρ' => (-1) = v ∧ q_ρ b = ρ' ∧ (∀ c j, (c < 134 ∨ 141 < c) → μ' c j = μ c j)) := by
  refine q_entry rfl (by decide) (Nat.le_of_ble_eq_true rfl) ?_
  refine g_lv [(0, _), (1, _), (2, _), (3, _)] rfl ?_
  refine g_aload_n 1 dX8_ran_0 rfl rfl ?_
  refine g_iload_n 2 dX8_ran_1 rfl rfl ?_
  refine g_Vi 5 [_] _ dX8_ran_2 rfl m_X8_isRacer l_X8_85 rfl rfl rfl (by decide) (c_MisRacer _) rfl (Nat.le_of_ble_eq_true rfl) (by decide) (fun v2 μ2 ρ2 hc9 => ?_)
  obtain ⟨rfl, rfl, rfl⟩ := hc9
  refine g_if_eq 24 8 dX8_ran_5 rfl (by decide) (fun h5 => ?_) (fun h5 => ?_)
  · exact (q_b_0.mp h5 (by rw [hV.1.2.1]; exact q_rin hr hV.1.1)).elim
  · refine g_iload_n 9 dX8_ran_8 rfl rfl ?_
    refine g_Si 12 [_] _ dX8_ran_9 rfl m_X8_isStage l_X8_82 rfl (c_MisStage _) rfl (Nat.le_of_ble_eq_true rfl) (by decide) (fun v9 μ9 ρ9 hc9 => ?_)
    obtain ⟨rfl, rfl, rfl⟩ := hc9
    refine g_if_eq 24 15 dX8_ran_12 rfl (by decide) (fun h12 => ?_) (fun h12 => ?_)
    · exact (q_b_0.mp h12 (q_stageI hi)).elim
    · refine g_iload_n 16 dX8_ran_15 rfl rfl ?_
      refine g_iconst 17 0 dX8_ran_16 rfl (by decide) ?_
      refine g_iconst 18 3 dX8_ran_17 rfl (by decide) ?_
      refine g_Si 21 [_, _, _] _ dX8_ran_18 rfl m_X8_isIn l_X8_71 rfl (c_isIn _ _ _) rfl (Nat.le_of_ble_eq_true rfl) (by decide) (fun v18 μ18 ρ18 hc9 => ?_)
      obtain ⟨rfl, rfl, rfl⟩ := hc9
      refine g_if_ne 26 24 dX8_ran_21 rfl (by decide) (fun h21 => ?_) (fun h21 => ?_)
      · refine g_aload_n 27 dX8_ran_26 rfl rfl ?_
        refine g_Vv 30 [] _ dX8_ran_27 rfl m_X8_runs l_X8_177 rfl rfl rfl (by decide) (c_runs hV.1) rfl (Nat.le_of_ble_eq_true rfl) (by decide) (fun μ27 ρ27 hc9 => ?_)
        obtain ⟨rfl, hr7⟩ := hc9
        have hfr : ∀ c j, (c < 134 ∨ 141 < c) → μ27 c j = μ c j := fun c j hc => hr7.2 c j (by omega)
        have hG := hr7.1
        refine g_iload_n 31 dX8_ran_30 rfl rfl ?_
        refine g_if_ne 46 34 dX8_ran_31 rfl (by decide) (fun h31 => ?_) (fun h31 => ?_)
        · refine g_iload_n 47 dX8_ran_46 rfl rfl ?_
          refine g_iconst 48 1 dX8_ran_47 rfl (by decide) ?_
          refine g_icmp_eq 66 51 dX8_ran_48 rfl (by decide) (fun h48 => ?_) (fun h48 => ?_)
          · exact absurd h48 (by decide)
          · refine g_aload_n 52 dX8_ran_51 rfl rfl ?_
            refine g_getR 55 _ dX8_ran_52 rfl f_X8_50 (by decide) rfl rfl rfl ?_
            refine g_bipush 57 10 dX8_ran_55 rfl (by decide) ?_
            refine g_iload_n 58 dX8_ran_57 rfl rfl ?_
            refine g_imul 59 dX8_ran_58 rfl ?_
            refine g_iload_n 60 dX8_ran_59 rfl rfl ?_
            refine g_iadd 61 dX8_ran_60 rfl ?_
            rw [q_ix]
            refine g_iald 62 dX8_ran_61 rfl (by decide) rfl (vp_in_nI (show 10 * i + r < 70 by have := hV.1.1; omega) (by omega)) ?_
            rw [nI_clamp (show 10 * i + r < 2 ^ 31 by have := hV.1.1; omega), (hG i hi).2.1 r (show r < 10 by have := hV.1.1; omega)]
            refine g_iconst 63 (-1) dX8_ran_62 rfl (by decide) ?_
            refine g_icmp_ne 78 66 dX8_ran_63 rfl (by decide) (fun h63 => ?_) (fun h63 => ?_)
            · exact (h63 ha).elim
            · refine g_aload_n 67 dX8_ran_66 rfl rfl ?_
              refine g_getR 70 _ dX8_ran_67 rfl f_X8_50 (by decide) rfl rfl rfl ?_
              refine g_bipush 72 10 dX8_ran_70 rfl (by decide) ?_
              refine g_iload_n 73 dX8_ran_72 rfl rfl ?_
              refine g_imul 74 dX8_ran_73 rfl ?_
              refine g_iload_n 75 dX8_ran_74 rfl rfl ?_
              refine g_iadd 76 dX8_ran_75 rfl ?_
              rw [q_ix]
              refine g_iald 77 dX8_ran_76 rfl (by decide) rfl (vp_in_nI (show 10 * i + r < 70 by have := hV.1.1; omega) (by omega)) ?_
              rw [nI_clamp (show 10 * i + r < 2 ^ 31 by have := hV.1.1; omega), (hG i hi).2.1 r (show r < 10 by have := hV.1.1; omega)]
              exact g_ri dX8_ran_77 rfl rfl ⟨ha.symm, rfl, hfr⟩
        · exact absurd h31 (by decide)
      · exact (q_b_0.mp h21 (by decide)).elim
set_option maxRecDepth 100000 in
set_option maxHeartbeats 4000000 in
theorem c_Mran_3z {I : q_I} (hV : q_MV μ I) {r i : Nat} (hr : r < i_cnt I) (hi : i < 7) (ha : i_ar I i r = -1) : q_Ct C l FX8_ran 3 142 142 [.ref (q_a C 122), .int (nI r), .int (nI i), .int 3] μ (q_ρ b) (q_PI fun v μ' ρ' => (-1) = v ∧ q_ρ b = ρ' ∧ (∀ c j, (c < 134 ∨ 141 < c) → μ' c j = μ c j)) := by
  refine q_entry rfl (by decide) (Nat.le_of_ble_eq_true rfl) ?_
  refine g_lv [(0, _), (1, _), (2, _), (3, _)] rfl ?_
  refine g_aload_n 1 dX8_ran_0 rfl rfl ?_
  refine g_iload_n 2 dX8_ran_1 rfl rfl ?_
  refine g_Vi 5 [_] _ dX8_ran_2 rfl m_X8_isRacer l_X8_85 rfl rfl rfl (by decide) (c_MisRacer _) rfl (Nat.le_of_ble_eq_true rfl) (by decide) (fun v2 μ2 ρ2 hc9 => ?_)
  obtain ⟨rfl, rfl, rfl⟩ := hc9
  refine g_if_eq 24 8 dX8_ran_5 rfl (by decide) (fun h5 => ?_) (fun h5 => ?_)
  · exact (q_b_0.mp h5 (by rw [hV.1.2.1]; exact q_rin hr hV.1.1)).elim
  · refine g_iload_n 9 dX8_ran_8 rfl rfl ?_
    refine g_Si 12 [_] _ dX8_ran_9 rfl m_X8_isStage l_X8_82 rfl (c_MisStage _) rfl (Nat.le_of_ble_eq_true rfl) (by decide) (fun v9 μ9 ρ9 hc9 => ?_)
    obtain ⟨rfl, rfl, rfl⟩ := hc9
    refine g_if_eq 24 15 dX8_ran_12 rfl (by decide) (fun h12 => ?_) (fun h12 => ?_)
    · exact (q_b_0.mp h12 (q_stageI hi)).elim
    · refine g_iload_n 16 dX8_ran_15 rfl rfl ?_
      refine g_iconst 17 0 dX8_ran_16 rfl (by decide) ?_
      refine g_iconst 18 3 dX8_ran_17 rfl (by decide) ?_
      refine g_Si 21 [_, _, _] _ dX8_ran_18 rfl m_X8_isIn l_X8_71 rfl (c_isIn _ _ _) rfl (Nat.le_of_ble_eq_true rfl) (by decide) (fun v18 μ18 ρ18 hc9 => ?_)
      obtain ⟨rfl, rfl, rfl⟩ := hc9
      refine g_if_ne 26 24 dX8_ran_21 rfl (by decide) (fun h21 => ?_) (fun h21 => ?_)
      · refine g_aload_n 27 dX8_ran_26 rfl rfl ?_
        refine g_Vv 30 [] _ dX8_ran_27 rfl m_X8_runs l_X8_177 rfl rfl rfl (by decide) (c_runs hV.1) rfl (Nat.le_of_ble_eq_true rfl) (by decide) (fun μ27 ρ27 hc9 => ?_)
        obtain ⟨rfl, hr7⟩ := hc9
        have hfr : ∀ c j, (c < 134 ∨ 141 < c) → μ27 c j = μ c j := fun c j hc => hr7.2 c j (by omega)
        have hG := hr7.1
        refine g_iload_n 31 dX8_ran_30 rfl rfl ?_
        refine g_if_ne 46 34 dX8_ran_31 rfl (by decide) (fun h31 => ?_) (fun h31 => ?_)
        · refine g_iload_n 47 dX8_ran_46 rfl rfl ?_
          refine g_iconst 48 1 dX8_ran_47 rfl (by decide) ?_
          refine g_icmp_eq 66 51 dX8_ran_48 rfl (by decide) (fun h48 => ?_) (fun h48 => ?_)
          · exact absurd h48 (by decide)
          · refine g_aload_n 52 dX8_ran_51 rfl rfl ?_
            refine g_getR 55 _ dX8_ran_52 rfl f_X8_50 (by decide) rfl rfl rfl ?_
            refine g_bipush 57 10 dX8_ran_55 rfl (by decide) ?_
            refine g_iload_n 58 dX8_ran_57 rfl rfl ?_
            refine g_imul 59 dX8_ran_58 rfl ?_
            refine g_iload_n 60 dX8_ran_59 rfl rfl ?_
            refine g_iadd 61 dX8_ran_60 rfl ?_
            rw [q_ix]
            refine g_iald 62 dX8_ran_61 rfl (by decide) rfl (vp_in_nI (show 10 * i + r < 70 by have := hV.1.1; omega) (by omega)) ?_
            rw [nI_clamp (show 10 * i + r < 2 ^ 31 by have := hV.1.1; omega), (hG i hi).2.1 r (show r < 10 by have := hV.1.1; omega)]
            refine g_iconst 63 (-1) dX8_ran_62 rfl (by decide) ?_
            refine g_icmp_ne 78 66 dX8_ran_63 rfl (by decide) (fun h63 => ?_) (fun h63 => ?_)
            · exact (h63 ha).elim
            · refine g_aload_n 67 dX8_ran_66 rfl rfl ?_
              refine g_getR 70 _ dX8_ran_67 rfl f_X8_50 (by decide) rfl rfl rfl ?_
              refine g_bipush 72 10 dX8_ran_70 rfl (by decide) ?_
              refine g_iload_n 73 dX8_ran_72 rfl rfl ?_
              refine g_imul 74 dX8_ran_73 rfl ?_
              refine g_iload_n 75 dX8_ran_74 rfl rfl ?_
              refine g_iadd 76 dX8_ran_75 rfl ?_
              rw [q_ix]
              refine g_iald 77 dX8_ran_76 rfl (by decide) rfl (vp_in_nI (show 10 * i + r < 70 by have := hV.1.1; omega) (by omega)) ?_
              rw [nI_clamp (show 10 * i + r < 2 ^ 31 by have := hV.1.1; omega), (hG i hi).2.1 r (show r < 10 by have := hV.1.1; omega)]
              exact g_ri dX8_ran_77 rfl rfl ⟨ha.symm, rfl, hfr⟩
        · exact absurd h31 (by decide)
      · exact (q_b_0.mp h21 (by decide)).elim
set_option maxRecDepth 100000 in
set_option maxHeartbeats 4000000 in
theorem lp_idx {r i j m : Nat} {o : Nat → Nat} (hi : i < 7) (hj : j < m) (hm : m ≤ 10) (hr : r < 10) (ho : ∀ x, x < m → μ 137 (10 * i + x) = nI (o x) ∧ o x < 10) (hjr : o j = r) (hjf : ∀ x, x < j → ¬ o x = r) : ∀ k k2, k2 + k = j → q_G C l FX8_ran 3 142 142 (q_is (nI j) μ (q_ρ b)) 142 μ (q_ρ b) [(0, .ref (q_a C 122)), (1, .int (nI r)), (2, .int (nI i)), (4, .int (nI k2))] [] 98 := by
  intro k
  induction k with
  | zero =>
    intro k2 hK9
    refine g_aload_n 99 dX8_ran_98 rfl rfl ?_
    refine g_getR 102 _ dX8_ran_99 rfl f_X8_56 (by decide) rfl rfl rfl ?_
    refine g_bipush 104 10 dX8_ran_102 rfl (by decide) ?_
    refine g_iload_n 105 dX8_ran_104 rfl rfl ?_
    refine g_imul 106 dX8_ran_105 rfl ?_
    refine g_iload 108 dX8_ran_106 rfl rfl ?_
    refine g_iadd 109 dX8_ran_108 rfl ?_
    rw [q_ix]
    refine g_iald 110 dX8_ran_109 rfl (by decide) rfl (vp_in_nI (show 10 * i + k2 < 70 by omega) (by omega)) ?_
    have hO := (ho k2 (by omega)).2
    rw [nI_clamp (show 10 * i + k2 < 2 ^ 31 by omega), (ho k2 (by omega)).1]
    refine g_iload_n 111 dX8_ran_110 rfl rfl ?_
    refine g_icmp_eq 120 114 dX8_ran_111 rfl (by decide) (fun h111 => ?_) (fun h111 => ?_)
    · refine g_iload 122 dX8_ran_120 rfl rfl ?_
      exact g_ri dX8_ran_122 rfl rfl ⟨by rw [show k2 = j by omega], rfl, rfl⟩
    · exact (h111 (by rw [show k2 = j by omega, hjr])).elim
  | succ k ih =>
    intro k2 hK9
    refine g_aload_n 99 dX8_ran_98 rfl rfl ?_
    refine g_getR 102 _ dX8_ran_99 rfl f_X8_56 (by decide) rfl rfl rfl ?_
    refine g_bipush 104 10 dX8_ran_102 rfl (by decide) ?_
    refine g_iload_n 105 dX8_ran_104 rfl rfl ?_
    refine g_imul 106 dX8_ran_105 rfl ?_
    refine g_iload 108 dX8_ran_106 rfl rfl ?_
    refine g_iadd 109 dX8_ran_108 rfl ?_
    rw [q_ix]
    refine g_iald 110 dX8_ran_109 rfl (by decide) rfl (vp_in_nI (show 10 * i + k2 < 70 by omega) (by omega)) ?_
    have hO := (ho k2 (by omega)).2
    rw [nI_clamp (show 10 * i + k2 < 2 ^ 31 by omega), (ho k2 (by omega)).1]
    refine g_iload_n 111 dX8_ran_110 rfl rfl ?_
    refine g_icmp_eq 120 114 dX8_ran_111 rfl (by decide) (fun h111 => ?_) (fun h111 => ?_)
    · exact (hjf k2 (by omega) ((nI_eq (by omega) (by omega)).mp h111)).elim
    · refine g_iinc 117 (_ + 1) dX8_ran_114 rfl rfl rfl (by decide) ?_
      refine g_goto 98 dX8_ran_117 (by decide) ?_
      rw [nI_1]
      refine g_lv [(0, _), (1, _), (2, _), (4, _)] rfl ?_
      exact ih (k2 + 1) (by omega)
set_option maxRecDepth 100000 in
set_option maxHeartbeats 4000000 in
theorem c_Mran_2 {I : q_I} (hV : q_MV μ I) {r i j : Nat} (hr : r < i_cnt I) (hi : i < 7) (hj : j < i_cm I i) (hjr : i_o I i j = r) (hjf : ∀ x, x < j → ¬ i_o I i x = r) (ha : ¬ i_ar I i r = -1) : q_Ct C l FX8_ran 3 142 142 [.ref (q_a C 122), .int (nI r), .int (nI i), .int 2] μ (q_ρ b) (q_PI fun v μ' ρ' => (nI j) = v ∧ q_ρ b = ρ' ∧ (∀ c j, (c < 134 ∨ 141 < c) → μ' c j = μ c j)) := by
  refine q_entry rfl (by decide) (Nat.le_of_ble_eq_true rfl) ?_
  refine g_lv [(0, _), (1, _), (2, _), (3, _)] rfl ?_
  refine g_aload_n 1 dX8_ran_0 rfl rfl ?_
  refine g_iload_n 2 dX8_ran_1 rfl rfl ?_
  refine g_Vi 5 [_] _ dX8_ran_2 rfl m_X8_isRacer l_X8_85 rfl rfl rfl (by decide) (c_MisRacer _) rfl (Nat.le_of_ble_eq_true rfl) (by decide) (fun v2 μ2 ρ2 hc9 => ?_)
  obtain ⟨rfl, rfl, rfl⟩ := hc9
  refine g_if_eq 24 8 dX8_ran_5 rfl (by decide) (fun h5 => ?_) (fun h5 => ?_)
  · exact (q_b_0.mp h5 (by rw [hV.1.2.1]; exact q_rin hr hV.1.1)).elim
  · refine g_iload_n 9 dX8_ran_8 rfl rfl ?_
    refine g_Si 12 [_] _ dX8_ran_9 rfl m_X8_isStage l_X8_82 rfl (c_MisStage _) rfl (Nat.le_of_ble_eq_true rfl) (by decide) (fun v9 μ9 ρ9 hc9 => ?_)
    obtain ⟨rfl, rfl, rfl⟩ := hc9
    refine g_if_eq 24 15 dX8_ran_12 rfl (by decide) (fun h12 => ?_) (fun h12 => ?_)
    · exact (q_b_0.mp h12 (q_stageI hi)).elim
    · refine g_iload_n 16 dX8_ran_15 rfl rfl ?_
      refine g_iconst 17 0 dX8_ran_16 rfl (by decide) ?_
      refine g_iconst 18 3 dX8_ran_17 rfl (by decide) ?_
      refine g_Si 21 [_, _, _] _ dX8_ran_18 rfl m_X8_isIn l_X8_71 rfl (c_isIn _ _ _) rfl (Nat.le_of_ble_eq_true rfl) (by decide) (fun v18 μ18 ρ18 hc9 => ?_)
      obtain ⟨rfl, rfl, rfl⟩ := hc9
      refine g_if_ne 26 24 dX8_ran_21 rfl (by decide) (fun h21 => ?_) (fun h21 => ?_)
      · refine g_aload_n 27 dX8_ran_26 rfl rfl ?_
        refine g_Vv 30 [] _ dX8_ran_27 rfl m_X8_runs l_X8_177 rfl rfl rfl (by decide) (c_runs hV.1) rfl (Nat.le_of_ble_eq_true rfl) (by decide) (fun μ27 ρ27 hc9 => ?_)
        obtain ⟨rfl, hr7⟩ := hc9
        have hfr : ∀ c j, (c < 134 ∨ 141 < c) → μ27 c j = μ c j := fun c j hc => hr7.2 c j (by omega)
        have hG := hr7.1
        refine g_iload_n 31 dX8_ran_30 rfl rfl ?_
        refine g_if_ne 46 34 dX8_ran_31 rfl (by decide) (fun h31 => ?_) (fun h31 => ?_)
        · refine g_iload_n 47 dX8_ran_46 rfl rfl ?_
          refine g_iconst 48 1 dX8_ran_47 rfl (by decide) ?_
          refine g_icmp_eq 66 51 dX8_ran_48 rfl (by decide) (fun h48 => ?_) (fun h48 => ?_)
          · exact absurd h48 (by decide)
          · refine g_aload_n 52 dX8_ran_51 rfl rfl ?_
            refine g_getR 55 _ dX8_ran_52 rfl f_X8_50 (by decide) rfl rfl rfl ?_
            refine g_bipush 57 10 dX8_ran_55 rfl (by decide) ?_
            refine g_iload_n 58 dX8_ran_57 rfl rfl ?_
            refine g_imul 59 dX8_ran_58 rfl ?_
            refine g_iload_n 60 dX8_ran_59 rfl rfl ?_
            refine g_iadd 61 dX8_ran_60 rfl ?_
            rw [q_ix]
            refine g_iald 62 dX8_ran_61 rfl (by decide) rfl (vp_in_nI (show 10 * i + r < 70 by have := hV.1.1; omega) (by omega)) ?_
            rw [nI_clamp (show 10 * i + r < 2 ^ 31 by have := hV.1.1; omega), (hG i hi).2.1 r (show r < 10 by have := hV.1.1; omega)]
            refine g_iconst 63 (-1) dX8_ran_62 rfl (by decide) ?_
            refine g_icmp_ne 78 66 dX8_ran_63 rfl (by decide) (fun h63 => ?_) (fun h63 => ?_)
            · refine g_iload_n 79 dX8_ran_78 rfl rfl ?_
              refine g_iconst 80 3 dX8_ran_79 rfl (by decide) ?_
              refine g_icmp_ne 95 83 dX8_ran_80 rfl (by decide) (fun h80 => ?_) (fun h80 => ?_)
              · refine g_iconst 96 0 dX8_ran_95 rfl (by decide) ?_
                refine g_istore 98 dX8_ran_96 rfl (by decide) ?_
                refine g_lv [(0, _), (1, _), (2, _), (4, .int (nI 0))] rfl ?_
                have hcn := hV.1.1
                have hle : i_cm I i ≤ 10 := Nat.le_trans (q_od_le _ _ _ _) hcn
                refine q_Gw (lp_idx (m := i_cm I i) (o := i_o I i) hi hj hle (by omega) (fun x hx => ⟨(hG i hi).2.2.2.1 x hx, Nat.lt_of_lt_of_le (q_od_lt _ _ _ _ x hx) hcn⟩) hjr hjf j 0 (by omega)) (fun r μ' ρ' h => ?_)
                obtain ⟨v, rfl, rfl, rfl, rfl⟩ := h
                exact ⟨_, rfl, rfl, rfl, hfr⟩
              · exact absurd h80 (by decide)
            · exact (ha h63).elim
        · exact absurd h31 (by decide)
      · exact (q_b_0.mp h21 (by decide)).elim
set_option maxRecDepth 100000 in
set_option maxHeartbeats 4000000 in
theorem c_Mran_n {r i k : Int32} (h : ¬ (q_in r 0 (μ 122 0 - 1) ∧ q_in i 0 6 ∧ q_in k 0 3)) : q_Ct C l FX8_ran 3 142 142 [.ref (q_a C 122), .int r, .int i, .int k] μ (q_ρ b) (q_is (-1) μ (q_ρ b)) := by
  refine q_entry rfl (by decide) (Nat.le_of_ble_eq_true rfl) ?_
  refine g_lv [(0, _), (1, _), (2, _), (3, _)] rfl ?_
  refine g_aload_n 1 dX8_ran_0 rfl rfl ?_
  refine g_iload_n 2 dX8_ran_1 rfl rfl ?_
  refine g_Vi 5 [_] _ dX8_ran_2 rfl m_X8_isRacer l_X8_85 rfl rfl rfl (by decide) (c_MisRacer _) rfl (Nat.le_of_ble_eq_true rfl) (by decide) (fun v2 μ2 ρ2 hc9 => ?_)
  obtain ⟨rfl, rfl, rfl⟩ := hc9
  refine g_if_eq 24 8 dX8_ran_5 rfl (by decide) (fun h5 => ?_) (fun h5 => ?_)
  · refine g_iconst 25 (-1) dX8_ran_24 rfl (by decide) ?_
    exact g_ri dX8_ran_25 rfl rfl ⟨rfl, rfl, rfl⟩
  · refine g_iload_n 9 dX8_ran_8 rfl rfl ?_
    refine g_Si 12 [_] _ dX8_ran_9 rfl m_X8_isStage l_X8_82 rfl (c_MisStage _) rfl (Nat.le_of_ble_eq_true rfl) (by decide) (fun v9 μ9 ρ9 hc9 => ?_)
    obtain ⟨rfl, rfl, rfl⟩ := hc9
    refine g_if_eq 24 15 dX8_ran_12 rfl (by decide) (fun h12 => ?_) (fun h12 => ?_)
    · refine g_iconst 25 (-1) dX8_ran_24 rfl (by decide) ?_
      exact g_ri dX8_ran_25 rfl rfl ⟨rfl, rfl, rfl⟩
    · refine g_iload_n 16 dX8_ran_15 rfl rfl ?_
      refine g_iconst 17 0 dX8_ran_16 rfl (by decide) ?_
      refine g_iconst 18 3 dX8_ran_17 rfl (by decide) ?_
      refine g_Si 21 [_, _, _] _ dX8_ran_18 rfl m_X8_isIn l_X8_71 rfl (c_isIn _ _ _) rfl (Nat.le_of_ble_eq_true rfl) (by decide) (fun v18 μ18 ρ18 hc9 => ?_)
      obtain ⟨rfl, rfl, rfl⟩ := hc9
      refine g_if_ne 26 24 dX8_ran_21 rfl (by decide) (fun h21 => ?_) (fun h21 => ?_)
      · exact (h ⟨q_b_n.mp h5, q_b_n.mp h12, q_b_n.mp h21⟩).elim
      · refine g_iconst 25 (-1) dX8_ran_24 rfl (by decide) ?_
        exact g_ri dX8_ran_25 rfl rfl ⟨rfl, rfl, rfl⟩
set_option maxRecDepth 100000 in
set_option maxHeartbeats 4000000 in
theorem c_Mstd {I : q_I} (hV : q_MV μ I) {i p : Nat} (hi : i < 7) (hp : p < i_cm I i) : q_Ct C l FX8_standing 3 142 142 [.ref (q_a C 122), .int (nI i), .int (nI p)] μ (q_ρ b) (q_PI fun v μ' ρ' => (nI (i_o I i p)) = v ∧ q_ρ b = ρ' ∧ (∀ c j, (c < 134 ∨ 141 < c) → μ' c j = μ c j)) := by
  refine q_entry rfl (by decide) (Nat.le_of_ble_eq_true rfl) ?_
  refine g_lv [(0, _), (1, _), (2, _)] rfl ?_
  refine g_iload_n 1 dX8_standing_0 rfl rfl ?_
  refine g_Si 4 [_] _ dX8_standing_1 rfl m_X8_isStage l_X8_82 rfl (c_MisStage _) rfl (Nat.le_of_ble_eq_true rfl) (by decide) (fun v1 μ1 ρ1 hc9 => ?_)
  obtain ⟨rfl, rfl, rfl⟩ := hc9
  refine g_if_ne 9 7 dX8_standing_4 rfl (by decide) (fun h4 => ?_) (fun h4 => ?_)
  · refine g_aload_n 10 dX8_standing_9 rfl rfl ?_
    refine g_Vv 13 [] _ dX8_standing_10 rfl m_X8_runs l_X8_177 rfl rfl rfl (by decide) (c_runs hV.1) rfl (Nat.le_of_ble_eq_true rfl) (by decide) (fun μ10 ρ10 hc9 => ?_)
    obtain ⟨rfl, hr7⟩ := hc9
    have hfr : ∀ c j, (c < 134 ∨ 141 < c) → μ10 c j = μ c j := fun c j hc => hr7.2 c j (by omega)
    have hG := hr7.1
    refine g_iload_n 14 dX8_standing_13 rfl rfl ?_
    refine g_iconst 15 0 dX8_standing_14 rfl (by decide) ?_
    refine g_aload_n 16 dX8_standing_15 rfl rfl ?_
    refine g_getR 19 _ dX8_standing_16 rfl f_X8_59 (by decide) rfl rfl rfl ?_
    refine g_iload_n 20 dX8_standing_19 rfl rfl ?_
    refine g_iald 21 dX8_standing_20 rfl (by decide) rfl (vp_in_nI hi (by omega)) ?_
    rw [nI_clamp (show i < 2 ^ 31 by omega), (hG i hi).2.2.2.2]
    refine g_iconst 22 1 dX8_standing_21 rfl (by decide) ?_
    refine g_isub 23 dX8_standing_22 rfl ?_
    refine g_Si 26 [_, _, _] _ dX8_standing_23 rfl m_X8_isIn l_X8_71 rfl (c_isIn _ _ _) rfl (Nat.le_of_ble_eq_true rfl) (by decide) (fun v23 μ23 ρ23 hc9 => ?_)
    obtain ⟨rfl, rfl, rfl⟩ := hc9
    refine g_if_eq 43 29 dX8_standing_26 rfl (by decide) (fun h26 => ?_) (fun h26 => ?_)
    · exact (q_b_0.mp h26 (q_inmI hp (Nat.le_trans (Nat.le_trans (q_od_le _ _ _ _) hV.1.1) (by decide)))).elim
    · refine g_aload_n 30 dX8_standing_29 rfl rfl ?_
      refine g_getR 33 _ dX8_standing_30 rfl f_X8_56 (by decide) rfl rfl rfl ?_
      refine g_bipush 35 10 dX8_standing_33 rfl (by decide) ?_
      refine g_iload_n 36 dX8_standing_35 rfl rfl ?_
      refine g_imul 37 dX8_standing_36 rfl ?_
      refine g_iload_n 38 dX8_standing_37 rfl rfl ?_
      refine g_iadd 39 dX8_standing_38 rfl ?_
      have hcm : i_cm I i ≤ 10 := Nat.le_trans (q_od_le _ _ _ _) hV.1.1
      rw [q_ix]
      refine g_iald 40 dX8_standing_39 rfl (by decide) rfl (vp_in_nI (show 10 * i + p < 70 by omega) (by omega)) ?_
      rw [nI_clamp (show 10 * i + p < 2 ^ 31 by omega)]
      refine g_goto 44 dX8_standing_40 (by decide) ?_
      exact g_ri dX8_standing_44 rfl rfl ⟨((hG i hi).2.2.2.1 p hp).symm, rfl, hfr⟩
  · exact (q_b_0.mp h4 (q_stageI hi)).elim
set_option maxRecDepth 100000 in
set_option maxHeartbeats 4000000 in
theorem c_Mstd_o {I : q_I} (hV : q_MV μ I) {i : Nat} {p : Int32} (hi : i < 7) (hp : ¬ q_in p 0 (nI (i_cm I i) - 1)) : q_Ct C l FX8_standing 3 142 142 [.ref (q_a C 122), .int (nI i), .int p] μ (q_ρ b) (q_PI fun v μ' ρ' => (-1) = v ∧ q_ρ b = ρ' ∧ (∀ c j, (c < 134 ∨ 141 < c) → μ' c j = μ c j)) := by
  refine q_entry rfl (by decide) (Nat.le_of_ble_eq_true rfl) ?_
  refine g_lv [(0, _), (1, _), (2, _)] rfl ?_
  refine g_iload_n 1 dX8_standing_0 rfl rfl ?_
  refine g_Si 4 [_] _ dX8_standing_1 rfl m_X8_isStage l_X8_82 rfl (c_MisStage _) rfl (Nat.le_of_ble_eq_true rfl) (by decide) (fun v1 μ1 ρ1 hc9 => ?_)
  obtain ⟨rfl, rfl, rfl⟩ := hc9
  refine g_if_ne 9 7 dX8_standing_4 rfl (by decide) (fun h4 => ?_) (fun h4 => ?_)
  · refine g_aload_n 10 dX8_standing_9 rfl rfl ?_
    refine g_Vv 13 [] _ dX8_standing_10 rfl m_X8_runs l_X8_177 rfl rfl rfl (by decide) (c_runs hV.1) rfl (Nat.le_of_ble_eq_true rfl) (by decide) (fun μ10 ρ10 hc9 => ?_)
    obtain ⟨rfl, hr7⟩ := hc9
    have hfr : ∀ c j, (c < 134 ∨ 141 < c) → μ10 c j = μ c j := fun c j hc => hr7.2 c j (by omega)
    have hG := hr7.1
    refine g_iload_n 14 dX8_standing_13 rfl rfl ?_
    refine g_iconst 15 0 dX8_standing_14 rfl (by decide) ?_
    refine g_aload_n 16 dX8_standing_15 rfl rfl ?_
    refine g_getR 19 _ dX8_standing_16 rfl f_X8_59 (by decide) rfl rfl rfl ?_
    refine g_iload_n 20 dX8_standing_19 rfl rfl ?_
    refine g_iald 21 dX8_standing_20 rfl (by decide) rfl (vp_in_nI hi (by omega)) ?_
    rw [nI_clamp (show i < 2 ^ 31 by omega), (hG i hi).2.2.2.2]
    refine g_iconst 22 1 dX8_standing_21 rfl (by decide) ?_
    refine g_isub 23 dX8_standing_22 rfl ?_
    refine g_Si 26 [_, _, _] _ dX8_standing_23 rfl m_X8_isIn l_X8_71 rfl (c_isIn _ _ _) rfl (Nat.le_of_ble_eq_true rfl) (by decide) (fun v23 μ23 ρ23 hc9 => ?_)
    obtain ⟨rfl, rfl, rfl⟩ := hc9
    refine g_if_eq 43 29 dX8_standing_26 rfl (by decide) (fun h26 => ?_) (fun h26 => ?_)
    · refine g_iconst 44 (-1) dX8_standing_43 rfl (by decide) ?_
      exact g_ri dX8_standing_44 rfl rfl ⟨rfl, rfl, hfr⟩
    · exact (hp (q_b_n.mp h26)).elim
  · exact (q_b_0.mp h4 (q_stageI hi)).elim
set_option maxRecDepth 100000 in
set_option maxHeartbeats 4000000 in
theorem c_Mstd_n {i p : Int32} (h : ¬ q_in i 0 6) : q_Ct C l FX8_standing 3 142 142 [.ref (q_a C 122), .int i, .int p] μ (q_ρ b) (q_is (-1) μ (q_ρ b)) := by
  refine q_entry rfl (by decide) (Nat.le_of_ble_eq_true rfl) ?_
  refine g_lv [(0, _), (1, _), (2, _)] rfl ?_
  refine g_iload_n 1 dX8_standing_0 rfl rfl ?_
  refine g_Si 4 [_] _ dX8_standing_1 rfl m_X8_isStage l_X8_82 rfl (c_MisStage _) rfl (Nat.le_of_ble_eq_true rfl) (by decide) (fun v1 μ1 ρ1 hc9 => ?_)
  obtain ⟨rfl, rfl, rfl⟩ := hc9
  refine g_if_ne 9 7 dX8_standing_4 rfl (by decide) (fun h4 => ?_) (fun h4 => ?_)
  · exact (h (q_b_n.mp h4)).elim
  · refine g_iconst 8 (-1) dX8_standing_7 rfl (by decide) ?_
    exact g_ri dX8_standing_8 rfl rfl ⟨rfl, rfl, rfl⟩
set_option maxRecDepth 100000 in
set_option maxHeartbeats 4000000 in
theorem c_Mof_0 {I : q_I} (hV : q_MV μ I) (hT : q_SE I) {i : Nat} (hi : i < 7) : q_Ct C l FX8_of 13 142 142 [.ref (q_a C 122), .int (nI (i + 1)), .int 0] μ (q_ρ b) (q_PI fun v μ' ρ' => (nI (i_cm I i)) = v ∧ q_ρ b = ρ' ∧ (∀ c j, (c < 134 ∨ 141 < c) → μ' c j = μ c j)) := by
  refine q_entry rfl (by decide) (Nat.le_of_ble_eq_true rfl) ?_
  refine g_lv [(0, _), (1, _), (2, _)] rfl ?_
  refine g_iload_n 1 dX8_of_0 rfl rfl ?_
  refine g_Si 4 [_] _ dX8_of_1 rfl m_X8_isCamp l_X8_78 rfl (c_MisCamp _) rfl (Nat.le_of_ble_eq_true rfl) (by decide) (fun v1 μ1 ρ1 hc9 => ?_)
  obtain ⟨rfl, rfl, rfl⟩ := hc9
  refine g_if_ne 9 7 dX8_of_4 rfl (by decide) (fun h4 => ?_) (fun h4 => ?_)
  · refine g_aload_n 10 dX8_of_9 rfl rfl ?_
    refine g_Vi 13 [] _ dX8_of_10 rfl m_X8_finds l_X8_198 rfl rfl rfl (by decide) (c_finds hV hT) rfl (Nat.le_of_ble_eq_true rfl) (by decide) (fun v10 μ10 ρ10 hc9 => ?_)
    obtain ⟨rfl, rfl, hok, hfr⟩ := hc9
    refine g_pop 14 dX8_of_13 rfl rfl ?_
    refine g_aload_n 15 dX8_of_14 rfl rfl ?_
    refine g_getR 18 _ dX8_of_15 rfl f_X8_59 (by decide) rfl rfl rfl ?_
    refine g_iload_n 19 dX8_of_18 rfl rfl ?_
    refine g_iconst 20 1 dX8_of_19 rfl (by decide) ?_
    refine g_isub 21 dX8_of_20 rfl ?_
    rw [nI_pred]
    refine g_iald 22 dX8_of_21 rfl (by decide) rfl (vp_in_nI hi (by omega)) ?_
    rw [nI_clamp (show i < 2 ^ 31 by omega), (hok.1 i hi).2.2.2.2]
    have hcmI : (q_od (i_cnt I) (i_tm I) (i_bk I) (i + 1)).2 = i_cm I i := rfl
    rw [hcmI]
    refine g_istore_n 23 dX8_of_22 rfl (by decide) ?_
    refine g_iload_n 24 dX8_of_23 rfl rfl ?_
    refine g_tabIn 64 dX8_of_24 (by decide) (by decide) rfl (by decide) ?_
    refine g_iload_n 65 dX8_of_64 rfl rfl ?_
    exact g_ri dX8_of_65 rfl rfl ⟨rfl, rfl, hfr⟩
  · exact (q_b_0.mp h4 (q_campI hi)).elim
set_option maxRecDepth 100000 in
set_option maxHeartbeats 4000000 in
theorem c_Mof_1 {I : q_I} (hV : q_MV μ I) (hT : q_SE I) {i : Nat} (hi : i < 7) : q_Ct C l FX8_of 13 142 142 [.ref (q_a C 122), .int (nI (i + 1)), .int 1] μ (q_ρ b) (q_PI fun v μ' ρ' => (if 0 < i_cm I i then (i_op I (i + 1)) else -1) = v ∧ q_ρ b = ρ' ∧ (∀ c j, (c < 134 ∨ 141 < c) → μ' c j = μ c j)) := by
  refine q_entry rfl (by decide) (Nat.le_of_ble_eq_true rfl) ?_
  refine g_lv [(0, _), (1, _), (2, _)] rfl ?_
  refine g_iload_n 1 dX8_of_0 rfl rfl ?_
  refine g_Si 4 [_] _ dX8_of_1 rfl m_X8_isCamp l_X8_78 rfl (c_MisCamp _) rfl (Nat.le_of_ble_eq_true rfl) (by decide) (fun v1 μ1 ρ1 hc9 => ?_)
  obtain ⟨rfl, rfl, rfl⟩ := hc9
  refine g_if_ne 9 7 dX8_of_4 rfl (by decide) (fun h4 => ?_) (fun h4 => ?_)
  · refine g_aload_n 10 dX8_of_9 rfl rfl ?_
    refine g_Vi 13 [] _ dX8_of_10 rfl m_X8_finds l_X8_198 rfl rfl rfl (by decide) (c_finds hV hT) rfl (Nat.le_of_ble_eq_true rfl) (by decide) (fun v10 μ10 ρ10 hc9 => ?_)
    obtain ⟨rfl, rfl, hok, hfr⟩ := hc9
    refine g_pop 14 dX8_of_13 rfl rfl ?_
    refine g_aload_n 15 dX8_of_14 rfl rfl ?_
    refine g_getR 18 _ dX8_of_15 rfl f_X8_59 (by decide) rfl rfl rfl ?_
    refine g_iload_n 19 dX8_of_18 rfl rfl ?_
    refine g_iconst 20 1 dX8_of_19 rfl (by decide) ?_
    refine g_isub 21 dX8_of_20 rfl ?_
    rw [nI_pred]
    refine g_iald 22 dX8_of_21 rfl (by decide) rfl (vp_in_nI hi (by omega)) ?_
    rw [nI_clamp (show i < 2 ^ 31 by omega), (hok.1 i hi).2.2.2.2]
    have hcmI : (q_od (i_cnt I) (i_tm I) (i_bk I) (i + 1)).2 = i_cm I i := rfl
    rw [hcmI]
    refine g_istore_n 23 dX8_of_22 rfl (by decide) ?_
    refine g_iload_n 24 dX8_of_23 rfl rfl ?_
    refine g_tabIn 66 dX8_of_24 (by decide) (by decide) rfl (by decide) ?_
    refine g_iload_n 67 dX8_of_66 rfl rfl ?_
    refine g_if_ne 74 70 dX8_of_67 rfl (by decide) (fun h67 => ?_) (fun h67 => ?_)
    · have hpos : 0 < i_cm I i := by
        rcases Nat.eq_zero_or_pos (i_cm I i) with q | q
        · rw [q] at h67; exact absurd rfl h67
        · exact q
      refine g_aload_n 75 dX8_of_74 rfl rfl ?_
      refine g_getR 78 _ dX8_of_75 rfl f_X8_62 (by decide) rfl rfl rfl ?_
      refine g_iload_n 79 dX8_of_78 rfl rfl ?_
      refine g_iald 80 dX8_of_79 rfl (by decide) rfl (vp_in_nI (show i + 1 < 8 by omega) (by omega)) ?_
      rw [nI_clamp (show i + 1 < 2 ^ 31 by omega)]
      exact g_ri dX8_of_80 rfl rfl ⟨by rw [if_pos hpos, (hok.2.1 i hi).1], rfl, hfr⟩
    · refine g_iconst 71 (-1) dX8_of_70 rfl (by decide) ?_
      refine g_goto 80 dX8_of_71 (by decide) ?_
      exact g_ri dX8_of_80 rfl rfl ⟨if_neg (fun q => nI_ne0 q (by have : i_cm I i ≤ 10 := Nat.le_trans (q_od_le _ _ _ _) hV.1.1; omega) h67), rfl, hfr⟩
  · exact (q_b_0.mp h4 (q_campI hi)).elim
set_option maxRecDepth 100000 in
set_option maxHeartbeats 4000000 in
theorem c_Mof_2 {I : q_I} (hV : q_MV μ I) (hT : q_SE I) {i : Nat} (hi : i < 7) : q_Ct C l FX8_of 13 142 142 [.ref (q_a C 122), .int (nI (i + 1)), .int 2] μ (q_ρ b) (q_PI fun v μ' ρ' => (if 0 < i_cm I i then (i_cl I (i + 1)) else -1) = v ∧ q_ρ b = ρ' ∧ (∀ c j, (c < 134 ∨ 141 < c) → μ' c j = μ c j)) := by
  refine q_entry rfl (by decide) (Nat.le_of_ble_eq_true rfl) ?_
  refine g_lv [(0, _), (1, _), (2, _)] rfl ?_
  refine g_iload_n 1 dX8_of_0 rfl rfl ?_
  refine g_Si 4 [_] _ dX8_of_1 rfl m_X8_isCamp l_X8_78 rfl (c_MisCamp _) rfl (Nat.le_of_ble_eq_true rfl) (by decide) (fun v1 μ1 ρ1 hc9 => ?_)
  obtain ⟨rfl, rfl, rfl⟩ := hc9
  refine g_if_ne 9 7 dX8_of_4 rfl (by decide) (fun h4 => ?_) (fun h4 => ?_)
  · refine g_aload_n 10 dX8_of_9 rfl rfl ?_
    refine g_Vi 13 [] _ dX8_of_10 rfl m_X8_finds l_X8_198 rfl rfl rfl (by decide) (c_finds hV hT) rfl (Nat.le_of_ble_eq_true rfl) (by decide) (fun v10 μ10 ρ10 hc9 => ?_)
    obtain ⟨rfl, rfl, hok, hfr⟩ := hc9
    refine g_pop 14 dX8_of_13 rfl rfl ?_
    refine g_aload_n 15 dX8_of_14 rfl rfl ?_
    refine g_getR 18 _ dX8_of_15 rfl f_X8_59 (by decide) rfl rfl rfl ?_
    refine g_iload_n 19 dX8_of_18 rfl rfl ?_
    refine g_iconst 20 1 dX8_of_19 rfl (by decide) ?_
    refine g_isub 21 dX8_of_20 rfl ?_
    rw [nI_pred]
    refine g_iald 22 dX8_of_21 rfl (by decide) rfl (vp_in_nI hi (by omega)) ?_
    rw [nI_clamp (show i < 2 ^ 31 by omega), (hok.1 i hi).2.2.2.2]
    have hcmI : (q_od (i_cnt I) (i_tm I) (i_bk I) (i + 1)).2 = i_cm I i := rfl
    rw [hcmI]
    refine g_istore_n 23 dX8_of_22 rfl (by decide) ?_
    refine g_iload_n 24 dX8_of_23 rfl rfl ?_
    refine g_tabIn 81 dX8_of_24 (by decide) (by decide) rfl (by decide) ?_
    refine g_iload_n 82 dX8_of_81 rfl rfl ?_
    refine g_if_ne 89 85 dX8_of_82 rfl (by decide) (fun h82 => ?_) (fun h82 => ?_)
    · have hpos : 0 < i_cm I i := by
        rcases Nat.eq_zero_or_pos (i_cm I i) with q | q
        · rw [q] at h82; exact absurd rfl h82
        · exact q
      refine g_aload_n 90 dX8_of_89 rfl rfl ?_
      refine g_getR 93 _ dX8_of_90 rfl f_X8_65 (by decide) rfl rfl rfl ?_
      refine g_iload_n 94 dX8_of_93 rfl rfl ?_
      refine g_iald 95 dX8_of_94 rfl (by decide) rfl (vp_in_nI (show i + 1 < 8 by omega) (by omega)) ?_
      rw [nI_clamp (show i + 1 < 2 ^ 31 by omega)]
      exact g_ri dX8_of_95 rfl rfl ⟨by rw [if_pos hpos, (hok.2.1 i hi).2], rfl, hfr⟩
    · refine g_iconst 86 (-1) dX8_of_85 rfl (by decide) ?_
      refine g_goto 95 dX8_of_86 (by decide) ?_
      exact g_ri dX8_of_95 rfl rfl ⟨if_neg (fun q => nI_ne0 q (by have : i_cm I i ≤ 10 := Nat.le_trans (q_od_le _ _ _ _) hV.1.1; omega) h82), rfl, hfr⟩
  · exact (q_b_0.mp h4 (q_campI hi)).elim
set_option maxRecDepth 100000 in
set_option maxHeartbeats 4000000 in
theorem c_Mof_3 {I : q_I} (hV : q_MV μ I) (hT : q_SE I) {i : Nat} (hi : i < 7) : q_Ct C l FX8_of 13 142 142 [.ref (q_a C 122), .int (nI (i + 1)), .int 3] μ (q_ρ b) (q_PI fun v μ' ρ' => (if 0 < i_cm I i then (nI (i_g I (i + 1))) else -1) = v ∧ q_ρ b = ρ' ∧ (∀ c j, (c < 134 ∨ 141 < c) → μ' c j = μ c j)) := by
  refine q_entry rfl (by decide) (Nat.le_of_ble_eq_true rfl) ?_
  refine g_lv [(0, _), (1, _), (2, _)] rfl ?_
  refine g_iload_n 1 dX8_of_0 rfl rfl ?_
  refine g_Si 4 [_] _ dX8_of_1 rfl m_X8_isCamp l_X8_78 rfl (c_MisCamp _) rfl (Nat.le_of_ble_eq_true rfl) (by decide) (fun v1 μ1 ρ1 hc9 => ?_)
  obtain ⟨rfl, rfl, rfl⟩ := hc9
  refine g_if_ne 9 7 dX8_of_4 rfl (by decide) (fun h4 => ?_) (fun h4 => ?_)
  · refine g_aload_n 10 dX8_of_9 rfl rfl ?_
    refine g_Vi 13 [] _ dX8_of_10 rfl m_X8_finds l_X8_198 rfl rfl rfl (by decide) (c_finds hV hT) rfl (Nat.le_of_ble_eq_true rfl) (by decide) (fun v10 μ10 ρ10 hc9 => ?_)
    obtain ⟨rfl, rfl, hok, hfr⟩ := hc9
    refine g_pop 14 dX8_of_13 rfl rfl ?_
    refine g_aload_n 15 dX8_of_14 rfl rfl ?_
    refine g_getR 18 _ dX8_of_15 rfl f_X8_59 (by decide) rfl rfl rfl ?_
    refine g_iload_n 19 dX8_of_18 rfl rfl ?_
    refine g_iconst 20 1 dX8_of_19 rfl (by decide) ?_
    refine g_isub 21 dX8_of_20 rfl ?_
    rw [nI_pred]
    refine g_iald 22 dX8_of_21 rfl (by decide) rfl (vp_in_nI hi (by omega)) ?_
    rw [nI_clamp (show i < 2 ^ 31 by omega), (hok.1 i hi).2.2.2.2]
    have hcmI : (q_od (i_cnt I) (i_tm I) (i_bk I) (i + 1)).2 = i_cm I i := rfl
    rw [hcmI]
    refine g_istore_n 23 dX8_of_22 rfl (by decide) ?_
    refine g_iload_n 24 dX8_of_23 rfl rfl ?_
    refine g_tabIn 96 dX8_of_24 (by decide) (by decide) rfl (by decide) ?_
    refine g_iload_n 97 dX8_of_96 rfl rfl ?_
    refine g_if_ne 104 100 dX8_of_97 rfl (by decide) (fun h97 => ?_) (fun h97 => ?_)
    · have hpos : 0 < i_cm I i := by
        rcases Nat.eq_zero_or_pos (i_cm I i) with q | q
        · rw [q] at h97; exact absurd rfl h97
        · exact q
      refine g_aload_n 105 dX8_of_104 rfl rfl ?_
      refine g_getR 108 _ dX8_of_105 rfl f_X8_68 (by decide) rfl rfl rfl ?_
      refine g_iload_n 109 dX8_of_108 rfl rfl ?_
      refine g_iald 110 dX8_of_109 rfl (by decide) rfl (vp_in_nI (show i + 1 < 8 by omega) (by omega)) ?_
      rw [nI_clamp (show i + 1 < 2 ^ 31 by omega)]
      exact g_ri dX8_of_110 rfl rfl ⟨by rw [if_pos hpos, hok.2.2 (i + 1) (by omega) (by have := (i_N_iff I hi).mpr hpos; omega)], rfl, hfr⟩
    · refine g_iconst 101 (-1) dX8_of_100 rfl (by decide) ?_
      refine g_goto 110 dX8_of_101 (by decide) ?_
      exact g_ri dX8_of_110 rfl rfl ⟨if_neg (fun q => nI_ne0 q (by have : i_cm I i ≤ 10 := Nat.le_trans (q_od_le _ _ _ _) hV.1.1; omega) h97), rfl, hfr⟩
  · exact (q_b_0.mp h4 (q_campI hi)).elim
set_option maxRecDepth 100000 in
set_option maxHeartbeats 4000000 in
theorem c_Mof_4 {I : q_I} (hV : q_MV μ I) (hT : q_SE I) {i : Nat} (hi : i < 7) : q_Ct C l FX8_of 13 142 142 [.ref (q_a C 122), .int (nI (i + 1)), .int 4] μ (q_ρ b) (q_PI fun v μ' ρ' => (i_set I 3 + nI (i_cm I i)) = v ∧ q_ρ b = ρ' ∧ (∀ c j, (c < 134 ∨ 141 < c) → μ' c j = μ c j)) := by
  refine q_entry rfl (by decide) (Nat.le_of_ble_eq_true rfl) ?_
  refine g_lv [(0, _), (1, _), (2, _)] rfl ?_
  refine g_iload_n 1 dX8_of_0 rfl rfl ?_
  refine g_Si 4 [_] _ dX8_of_1 rfl m_X8_isCamp l_X8_78 rfl (c_MisCamp _) rfl (Nat.le_of_ble_eq_true rfl) (by decide) (fun v1 μ1 ρ1 hc9 => ?_)
  obtain ⟨rfl, rfl, rfl⟩ := hc9
  refine g_if_ne 9 7 dX8_of_4 rfl (by decide) (fun h4 => ?_) (fun h4 => ?_)
  · refine g_aload_n 10 dX8_of_9 rfl rfl ?_
    refine g_Vi 13 [] _ dX8_of_10 rfl m_X8_finds l_X8_198 rfl rfl rfl (by decide) (c_finds hV hT) rfl (Nat.le_of_ble_eq_true rfl) (by decide) (fun v10 μ10 ρ10 hc9 => ?_)
    obtain ⟨rfl, rfl, hok, hfr⟩ := hc9
    refine g_pop 14 dX8_of_13 rfl rfl ?_
    refine g_aload_n 15 dX8_of_14 rfl rfl ?_
    refine g_getR 18 _ dX8_of_15 rfl f_X8_59 (by decide) rfl rfl rfl ?_
    refine g_iload_n 19 dX8_of_18 rfl rfl ?_
    refine g_iconst 20 1 dX8_of_19 rfl (by decide) ?_
    refine g_isub 21 dX8_of_20 rfl ?_
    rw [nI_pred]
    refine g_iald 22 dX8_of_21 rfl (by decide) rfl (vp_in_nI hi (by omega)) ?_
    rw [nI_clamp (show i < 2 ^ 31 by omega), (hok.1 i hi).2.2.2.2]
    have hcmI : (q_od (i_cnt I) (i_tm I) (i_bk I) (i + 1)).2 = i_cm I i := rfl
    rw [hcmI]
    refine g_istore_n 23 dX8_of_22 rfl (by decide) ?_
    refine g_iload_n 24 dX8_of_23 rfl rfl ?_
    refine g_tabIn 111 dX8_of_24 (by decide) (by decide) rfl (by decide) ?_
    refine g_aload_n 112 dX8_of_111 rfl rfl ?_
    refine g_getR 115 _ dX8_of_112 rfl f_X8_25 (by decide) rfl rfl rfl ?_
    refine g_iconst 116 3 dX8_of_115 rfl (by decide) ?_
    refine g_iald 117 dX8_of_116 rfl (by decide) rfl (vp_in_nI (n := 3) (N := 5) (by decide) (by decide)) ?_
    rw [show (3 : Int32).toNatClampNeg = 3 from rfl, show μ10 128 3 = i_set I 3 from by rw [hfr 128 3 (by decide)]; exact hV.2.1 3 (by decide)]
    refine g_iload_n 118 dX8_of_117 rfl rfl ?_
    refine g_iadd 119 dX8_of_118 rfl ?_
    exact g_ri dX8_of_119 rfl rfl ⟨rfl, rfl, hfr⟩
  · exact (q_b_0.mp h4 (q_campI hi)).elim
set_option maxRecDepth 100000 in
set_option maxHeartbeats 4000000 in
theorem c_Mof_5 {I : q_I} (hV : q_MV μ I) (hT : q_SE I) {i : Nat} (hi : i < 7) : q_Ct C l FX8_of 13 142 142 [.ref (q_a C 122), .int (nI (i + 1)), .int 5] μ (q_ρ b) (q_PI fun v μ' ρ' => (((i_set I 3 + nI (i_cm I i)) * i_set I 4 + 999) / 1000) = v ∧ q_ρ b = ρ' ∧ (∀ c j, (c < 134 ∨ 141 < c) → μ' c j = μ c j)) := by
  refine q_entry rfl (by decide) (Nat.le_of_ble_eq_true rfl) ?_
  refine g_lv [(0, _), (1, _), (2, _)] rfl ?_
  refine g_iload_n 1 dX8_of_0 rfl rfl ?_
  refine g_Si 4 [_] _ dX8_of_1 rfl m_X8_isCamp l_X8_78 rfl (c_MisCamp _) rfl (Nat.le_of_ble_eq_true rfl) (by decide) (fun v1 μ1 ρ1 hc9 => ?_)
  obtain ⟨rfl, rfl, rfl⟩ := hc9
  refine g_if_ne 9 7 dX8_of_4 rfl (by decide) (fun h4 => ?_) (fun h4 => ?_)
  · refine g_aload_n 10 dX8_of_9 rfl rfl ?_
    refine g_Vi 13 [] _ dX8_of_10 rfl m_X8_finds l_X8_198 rfl rfl rfl (by decide) (c_finds hV hT) rfl (Nat.le_of_ble_eq_true rfl) (by decide) (fun v10 μ10 ρ10 hc9 => ?_)
    obtain ⟨rfl, rfl, hok, hfr⟩ := hc9
    refine g_pop 14 dX8_of_13 rfl rfl ?_
    refine g_aload_n 15 dX8_of_14 rfl rfl ?_
    refine g_getR 18 _ dX8_of_15 rfl f_X8_59 (by decide) rfl rfl rfl ?_
    refine g_iload_n 19 dX8_of_18 rfl rfl ?_
    refine g_iconst 20 1 dX8_of_19 rfl (by decide) ?_
    refine g_isub 21 dX8_of_20 rfl ?_
    rw [nI_pred]
    refine g_iald 22 dX8_of_21 rfl (by decide) rfl (vp_in_nI hi (by omega)) ?_
    rw [nI_clamp (show i < 2 ^ 31 by omega), (hok.1 i hi).2.2.2.2]
    have hcmI : (q_od (i_cnt I) (i_tm I) (i_bk I) (i + 1)).2 = i_cm I i := rfl
    rw [hcmI]
    refine g_istore_n 23 dX8_of_22 rfl (by decide) ?_
    refine g_iload_n 24 dX8_of_23 rfl rfl ?_
    refine g_tabIn 120 dX8_of_24 (by decide) (by decide) rfl (by decide) ?_
    refine g_aload_n 121 dX8_of_120 rfl rfl ?_
    refine g_getR 124 _ dX8_of_121 rfl f_X8_25 (by decide) rfl rfl rfl ?_
    refine g_iconst 125 3 dX8_of_124 rfl (by decide) ?_
    refine g_iald 126 dX8_of_125 rfl (by decide) rfl (vp_in_nI (n := 3) (N := 5) (by decide) (by decide)) ?_
    rw [show (3 : Int32).toNatClampNeg = 3 from rfl, show μ10 128 3 = i_set I 3 from by rw [hfr 128 3 (by decide)]; exact hV.2.1 3 (by decide)]
    refine g_iload_n 127 dX8_of_126 rfl rfl ?_
    refine g_iadd 128 dX8_of_127 rfl ?_
    refine g_aload_n 129 dX8_of_128 rfl rfl ?_
    refine g_getR 132 _ dX8_of_129 rfl f_X8_25 (by decide) rfl rfl rfl ?_
    refine g_iconst 133 4 dX8_of_132 rfl (by decide) ?_
    refine g_iald 134 dX8_of_133 rfl (by decide) rfl (vp_in_nI (n := 4) (N := 5) (by decide) (by decide)) ?_
    rw [show (4 : Int32).toNatClampNeg = 4 from rfl, show μ10 128 4 = i_set I 4 from by rw [hfr 128 4 (by decide)]; exact hV.2.1 4 (by decide)]
    refine g_imul 135 dX8_of_134 rfl ?_
    refine g_sipush 138 999 dX8_of_135 rfl (by decide) ?_
    refine g_iadd 139 dX8_of_138 rfl ?_
    refine g_sipush 142 1000 dX8_of_139 rfl (by decide) ?_
    refine g_idiv 143 dX8_of_142 rfl (by decide) ?_
    exact g_ri dX8_of_143 rfl rfl ⟨rfl, rfl, hfr⟩
  · exact (q_b_0.mp h4 (q_campI hi)).elim
set_option maxRecDepth 100000 in
set_option maxHeartbeats 4000000 in
theorem c_Mof_o {I : q_I} (hV : q_MV μ I) (hT : q_SE I) {i : Nat} (hi : i < 7) {k : Int32} (hk : ¬ q_in k 0 5) : q_Ct C l FX8_of 13 142 142 [.ref (q_a C 122), .int (nI (i + 1)), .int k] μ (q_ρ b) (q_PI fun v μ' ρ' => (-1) = v ∧ q_ρ b = ρ' ∧ (∀ c j, (c < 134 ∨ 141 < c) → μ' c j = μ c j)) := by
  refine q_entry rfl (by decide) (Nat.le_of_ble_eq_true rfl) ?_
  refine g_lv [(0, _), (1, _), (2, _)] rfl ?_
  refine g_iload_n 1 dX8_of_0 rfl rfl ?_
  refine g_Si 4 [_] _ dX8_of_1 rfl m_X8_isCamp l_X8_78 rfl (c_MisCamp _) rfl (Nat.le_of_ble_eq_true rfl) (by decide) (fun v1 μ1 ρ1 hc9 => ?_)
  obtain ⟨rfl, rfl, rfl⟩ := hc9
  refine g_if_ne 9 7 dX8_of_4 rfl (by decide) (fun h4 => ?_) (fun h4 => ?_)
  · refine g_aload_n 10 dX8_of_9 rfl rfl ?_
    refine g_Vi 13 [] _ dX8_of_10 rfl m_X8_finds l_X8_198 rfl rfl rfl (by decide) (c_finds hV hT) rfl (Nat.le_of_ble_eq_true rfl) (by decide) (fun v10 μ10 ρ10 hc9 => ?_)
    obtain ⟨rfl, rfl, hok, hfr⟩ := hc9
    refine g_pop 14 dX8_of_13 rfl rfl ?_
    refine g_aload_n 15 dX8_of_14 rfl rfl ?_
    refine g_getR 18 _ dX8_of_15 rfl f_X8_59 (by decide) rfl rfl rfl ?_
    refine g_iload_n 19 dX8_of_18 rfl rfl ?_
    refine g_iconst 20 1 dX8_of_19 rfl (by decide) ?_
    refine g_isub 21 dX8_of_20 rfl ?_
    rw [nI_pred]
    refine g_iald 22 dX8_of_21 rfl (by decide) rfl (vp_in_nI hi (by omega)) ?_
    rw [nI_clamp (show i < 2 ^ 31 by omega), (hok.1 i hi).2.2.2.2]
    have hcmI : (q_od (i_cnt I) (i_tm I) (i_bk I) (i + 1)).2 = i_cm I i := rfl
    rw [hcmI]
    refine g_istore_n 23 dX8_of_22 rfl (by decide) ?_
    refine g_iload_n 24 dX8_of_23 rfl rfl ?_
    have h9 : k.toInt < 0 ∨ 5 < k.toInt := by
      have e1 : q_in k 0 5 ↔ ((0 : Int32).toInt ≤ k.toInt ∧ k.toInt ≤ (5 : Int32).toInt) := by simp only [q_in, Int32.le_iff_toInt_le]
      rw [e1] at hk
      have e2 : (0 : Int32).toInt = 0 := rfl
      have e3 : (5 : Int32).toInt = 5 := rfl
      omega
    refine g_tabOut 144 dX8_of_24 h9 (by decide) ?_
    refine g_iconst 145 (-1) dX8_of_144 rfl (by decide) ?_
    exact g_ri dX8_of_145 rfl rfl ⟨rfl, rfl, hfr⟩
  · exact (q_b_0.mp h4 (q_campI hi)).elim
set_option maxRecDepth 100000 in
set_option maxHeartbeats 4000000 in
theorem c_Mof_n {i k : Int32} (h : ¬ q_in i 1 7) : q_Ct C l FX8_of 13 142 142 [.ref (q_a C 122), .int i, .int k] μ (q_ρ b) (q_is (-1) μ (q_ρ b)) := by
  refine q_entry rfl (by decide) (Nat.le_of_ble_eq_true rfl) ?_
  refine g_lv [(0, _), (1, _), (2, _)] rfl ?_
  refine g_iload_n 1 dX8_of_0 rfl rfl ?_
  refine g_Si 4 [_] _ dX8_of_1 rfl m_X8_isCamp l_X8_78 rfl (c_MisCamp _) rfl (Nat.le_of_ble_eq_true rfl) (by decide) (fun v1 μ1 ρ1 hc9 => ?_)
  obtain ⟨rfl, rfl, rfl⟩ := hc9
  refine g_if_ne 9 7 dX8_of_4 rfl (by decide) (fun h4 => ?_) (fun h4 => ?_)
  · exact (h (q_b_n.mp h4)).elim
  · refine g_iconst 8 (-1) dX8_of_7 rfl (by decide) ?_
    exact g_ri dX8_of_8 rfl rfl ⟨rfl, rfl, rfl⟩
set_option maxRecDepth 100000 in
set_option maxHeartbeats 4000000 in
theorem c_Msets {I : q_I} (hV : q_MV μ I) (hT : q_SE I) : q_Ct C l FX8_sets 13 142 142 [.ref (q_a C 122)] μ (q_ρ b) (q_PI fun v μ' ρ' => (nI (i_n0 I)) = v ∧ q_ρ b = ρ' ∧ (∀ c j, (c < 134 ∨ 141 < c) → μ' c j = μ c j)) := by
  refine q_entry rfl (by decide) (Nat.le_of_ble_eq_true rfl) ?_
  refine g_lv [(0, _)] rfl ?_
  refine g_aload_n 1 dX8_sets_0 rfl rfl ?_
  refine g_Vi 4 [] _ dX8_sets_1 rfl m_X8_finds l_X8_198 rfl rfl rfl (by decide) (c_finds hV hT) rfl (Nat.le_of_ble_eq_true rfl) (by decide) (fun v1 μ1 ρ1 hc9 => ?_)
  obtain ⟨rfl, rfl, hok, hfr⟩ := hc9
  exact g_ri dX8_sets_4 rfl rfl ⟨rfl, rfl, hfr⟩
end MA
