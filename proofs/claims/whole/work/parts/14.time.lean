/-! ===== times ===== -/
theorem k_13 (i : Nat) (h : i < 7) : q_kd (13 + i) = (10, 10) := by
  have h9 : ∀ i, i < 7 → q_kd (13 + i) = (10, 10) := by decide
  exact h9 i h
theorem k_21 (i : Nat) (h : i < 7) : q_kd (21 + i) = (10, 10) := by
  have h9 : ∀ i, i < 7 → q_kd (21 + i) = (10, 10) := by decide
  exact h9 i h
theorem k_29 (i : Nat) (h : i < 7) : q_kd (29 + i) = (10, 10) := by
  have h9 : ∀ i, i < 7 → q_kd (29 + i) = (10, 10) := by decide
  exact h9 i h
theorem k_37 (i : Nat) (h : i < 7) : q_kd (37 + i) = (10, 10) := by
  have h9 : ∀ i, i < 7 → q_kd (37 + i) = (10, 10) := by decide
  exact h9 i h
theorem k_45 (i : Nat) (h : i < 7) : q_kd (45 + i) = (10, 10) := by
  have h9 : ∀ i, i < 7 → q_kd (45 + i) = (10, 10) := by decide
  exact h9 i h
theorem k_53 (i : Nat) (h : i < 7) : q_kd (53 + i) = (10, 10) := by
  have h9 : ∀ i, i < 7 → q_kd (53 + i) = (10, 10) := by decide
  exact h9 i h
theorem k_73 (i : Nat) (h : i < 7) : q_kd (73 + i) = (10, 4) := by
  have h9 : ∀ i, i < 7 → q_kd (73 + i) = (10, 4) := by decide
  exact h9 i h
theorem k_81 (i : Nat) (h : i < 7) : q_kd (81 + i) = (10, 4) := by
  have h9 : ∀ i, i < 7 → q_kd (81 + i) = (10, 4) := by decide
  exact h9 i h
theorem k_89 (i : Nat) (h : i < 7) : q_kd (89 + i) = (10, 4) := by
  have h9 : ∀ i, i < 7 → q_kd (89 + i) = (10, 4) := by decide
  exact h9 i h
theorem k_99 (i : Nat) (h : i < 7) : q_kd (99 + i) = (10, 4) := by
  have h9 : ∀ i, i < 7 → q_kd (99 + i) = (10, 4) := by decide
  exact h9 i h
theorem k_107 (i : Nat) (h : i < 7) : q_kd (107 + i) = (10, 4) := by
  have h9 : ∀ i, i < 7 → q_kd (107 + i) = (10, 4) := by decide
  exact h9 i h
theorem k_115 (i : Nat) (h : i < 7) : q_kd (115 + i) = (10, 4) := by
  have h9 : ∀ i, i < 7 → q_kd (115 + i) = (10, 4) := by decide
  exact h9 i h
def q_mn (x y : Int32) : Int32 := if y < x then y else x
def q_tf (sp len : Int32) (fr to zs : Nat → Int32) : Nat → Int64 × Int64 × Int32
  | 0 => (0, 1, len)
  | z + 1 => ((q_tf sp len fr to zs z).1 * (q_mn sp (zs z)).toInt64 + (q_mn (to z) len - q_mn (fr z) len).toInt64 * 60 * (q_tf sp len fr to zs z).2.1, (q_tf sp len fr to zs z).2.1 * (q_mn sp (zs z)).toInt64, (q_tf sp len fr to zs z).2.2 - (q_mn (to z) len - q_mn (fr z) len))
def q_time (sp len : Int32) (fr to zs : Nat → Int32) (k : Nat) : Int32 := q_dv ((q_tf sp len fr to zs k).1 * sp.toInt64 + (q_tf sp len fr to zs k).2.2.toInt64 * 60 * (q_tf sp len fr to zs k).2.1) ((q_tf sp len fr to zs k).2.1 * sp.toInt64)
def q_ls (x y : Int32) : Int32 := if x < y then x else y
def q_tm (sp len : Int32) (fr to zs : Nat → Int32) : Nat → Int64 × Int64 × Int32
  | 0 => (0, sp.toInt64, len)
  | z + 1 => if q_ls (to z) len - q_ls (fr z) len = 0 ∨ sp ≤ zs z then q_tm sp len fr to zs z else ((q_tm sp len fr to zs z).1 * (zs z).toInt64 + 60 * (q_ls (to z) len - q_ls (fr z) len).toInt64 * (q_tm sp len fr to zs z).2.1, (q_tm sp len fr to zs z).2.1 * (zs z).toInt64, (q_tm sp len fr to zs z).2.2 - (q_ls (to z) len - q_ls (fr z) len))
def q_mtime (sp len : Int32) (fr to zs : Nat → Int32) (k : Nat) : Int32 := (((q_tm sp len fr to zs k).1 + 60 * (q_tm sp len fr to zs k).2.2.toInt64 * ((q_tm sp len fr to zs k).2.1 / sp.toInt64) + (q_tm sp len fr to zs k).2.1 - 1) / (q_tm sp len fr to zs k).2.1).toInt32
section TM
variable {C : q_C} {l : Launch} {μ : q_M} {b : Bool}
set_option maxRecDepth 100000 in
set_option maxHeartbeats 4000000 in
theorem lp_time {r i K : Nat} {sp len : Int32} (hr : r = 70 ∨ r = 96) (hi7 : i < 7) (hK : K ≤ 4) (hc : μ (r + 1) i = nI K) : ∀ k z, z + k = K → q_G C l FX3_timeFor 1 142 142 (q_is (q_time sp len (μ (r + 3 + i)) (μ (r + 11 + i)) (μ (r + 19 + i)) K) μ (q_ρ b)) 142 μ (q_ρ b) [(0, .int sp), (1, .int len), (2, .ref (q_a C r)), (3, .int (nI i)), (4, .long (q_tf sp len (μ (r + 3 + i)) (μ (r + 11 + i)) (μ (r + 19 + i)) z).1), (6, .long (q_tf sp len (μ (r + 3 + i)) (μ (r + 11 + i)) (μ (r + 19 + i)) z).2.1), (8, .int (q_tf sp len (μ (r + 3 + i)) (μ (r + 11 + i)) (μ (r + 19 + i)) z).2.2), (9, .int (nI z))] [] 12 := by
  intro k
  induction k with
  | zero =>
    intro z hi
    rcases hr with rfl | rfl
    all_goals
      refine g_iload 14 dX3_timeFor_12 rfl rfl ?_
      refine g_aload_n 15 dX3_timeFor_14 rfl rfl ?_
      refine g_getR 18 _ dX3_timeFor_15 rfl f_X3_97 (by decide) rfl rfl rfl ?_
      refine g_iload_n 19 dX3_timeFor_18 rfl rfl ?_
      refine g_iald 20 dX3_timeFor_19 rfl (by decide) rfl (vp_in_nI hi7 (by omega)) ?_
      rw [nI_clamp (show i < 2 ^ 31 by omega)]
      rw [show μ _ i = nI K from hc]
      refine g_icmp_ge 113 23 dX3_timeFor_20 rfl (by decide) (fun h20 => ?_) (fun h20 => ?_)
      · refine g_lload 115 dX3_timeFor_113 rfl rfl ?_
        refine g_iload_n 116 dX3_timeFor_115 rfl rfl ?_
        refine g_i2l 117 dX3_timeFor_116 rfl ?_
        refine g_lmul 118 dX3_timeFor_117 rfl ?_
        refine g_iload 120 dX3_timeFor_118 rfl rfl ?_
        refine g_i2l 121 dX3_timeFor_120 rfl ?_
        refine g_ldc2 124 60 dX3_timeFor_121 rfl n_X3_110 ?_
        refine g_lmul 125 dX3_timeFor_124 rfl ?_
        refine g_lload 127 dX3_timeFor_125 rfl rfl ?_
        refine g_lmul 128 dX3_timeFor_127 rfl ?_
        refine g_ladd 129 dX3_timeFor_128 rfl ?_
        refine g_lstore 131 dX3_timeFor_129 rfl (by decide) ?_
        refine g_lload 133 dX3_timeFor_131 rfl rfl ?_
        refine g_lload 135 dX3_timeFor_133 rfl rfl ?_
        refine g_iload_n 136 dX3_timeFor_135 rfl rfl ?_
        refine g_i2l 137 dX3_timeFor_136 rfl ?_
        refine g_lmul 138 dX3_timeFor_137 rfl ?_
        refine g_SNi 141 [_, _] _ dX3_timeFor_138 rfl m_X7_divideUpwards l_X3_112 rfl (c_divUp _ _) rfl (Nat.le_of_ble_eq_true rfl) (by decide) (fun v138 μ138 ρ138 hc9 => ?_)
        obtain ⟨rfl, rfl, rfl⟩ := hc9
        exact g_ri dX3_timeFor_141 rfl rfl ⟨by rw [show z = K by omega]; rfl, rfl, rfl⟩
      · exact absurd (nI_le (by omega) (by omega)) h20
  | succ k ih =>
    intro z hi
    rcases hr with rfl | rfl
    all_goals
      refine g_iload 14 dX3_timeFor_12 rfl rfl ?_
      refine g_aload_n 15 dX3_timeFor_14 rfl rfl ?_
      refine g_getR 18 _ dX3_timeFor_15 rfl f_X3_97 (by decide) rfl rfl rfl ?_
      refine g_iload_n 19 dX3_timeFor_18 rfl rfl ?_
      refine g_iald 20 dX3_timeFor_19 rfl (by decide) rfl (vp_in_nI hi7 (by omega)) ?_
      rw [nI_clamp (show i < 2 ^ 31 by omega)]
      rw [show μ _ i = nI K from hc]
      refine g_icmp_ge 113 23 dX3_timeFor_20 rfl (by decide) (fun h20 => ?_) (fun h20 => ?_)
      · exact absurd h20 (nI_ge (by omega) (by omega))
      · refine g_iload 25 dX3_timeFor_23 rfl rfl ?_
        refine g_iconst 26 4 dX3_timeFor_25 rfl (by decide) ?_
        refine g_icmp_ge 113 29 dX3_timeFor_26 rfl (by decide) (fun h26 => ?_) (fun h26 => ?_)
        · exact absurd h26 (nI_ge (a := z) (b := 4) (by omega) (by omega))
        · refine g_aload_n 30 dX3_timeFor_29 rfl rfl ?_
          refine g_getR 33 _ dX3_timeFor_30 rfl f_X3_102 (by decide) rfl rfl rfl ?_
          refine g_iload_n 34 dX3_timeFor_33 rfl rfl ?_
          refine g_aald 35 _ dX3_timeFor_34 rfl (by decide) rfl (vp_in_nI hi7 (by omega)) rfl ?_
          refine g_iload 37 dX3_timeFor_35 rfl rfl ?_
          rw [nI_clamp (show i < 2 ^ 31 by omega)]
          refine g_iald 38 dX3_timeFor_37 rfl (by omega) (by first | exact k_81 i hi7 | exact k_107 i hi7) (vp_in_nI (show z < 4 by omega) (by omega)) ?_
          rw [nI_clamp (show z < 2 ^ 31 by omega)]
          refine g_iload_n 39 dX3_timeFor_38 rfl rfl ?_
          refine g_min 42 dX3_timeFor_39 rfl a_X3_80 a_min_s a_ini a_min_c (by decide) (Nat.le_of_ble_eq_true rfl) ?_
          refine g_aload_n 43 dX3_timeFor_42 rfl rfl ?_
          refine g_getR 46 _ dX3_timeFor_43 rfl f_X3_105 (by decide) rfl rfl rfl ?_
          refine g_iload_n 47 dX3_timeFor_46 rfl rfl ?_
          refine g_aald 48 _ dX3_timeFor_47 rfl (by decide) rfl (vp_in_nI hi7 (by omega)) rfl ?_
          refine g_iload 50 dX3_timeFor_48 rfl rfl ?_
          rw [nI_clamp (show i < 2 ^ 31 by omega)]
          refine g_iald 51 dX3_timeFor_50 rfl (by omega) (by first | exact k_73 i hi7 | exact k_99 i hi7) (vp_in_nI (show z < 4 by omega) (by omega)) ?_
          rw [nI_clamp (show z < 2 ^ 31 by omega)]
          refine g_iload_n 52 dX3_timeFor_51 rfl rfl ?_
          refine g_min 55 dX3_timeFor_52 rfl a_X3_80 a_min_s a_ini a_min_c (by decide) (Nat.le_of_ble_eq_true rfl) ?_
          refine g_isub 56 dX3_timeFor_55 rfl ?_
          refine g_istore 58 dX3_timeFor_56 rfl (by decide) ?_
          refine g_iload_n 59 dX3_timeFor_58 rfl rfl ?_
          refine g_aload_n 60 dX3_timeFor_59 rfl rfl ?_
          refine g_getR 63 _ dX3_timeFor_60 rfl f_X3_108 (by decide) rfl rfl rfl ?_
          refine g_iload_n 64 dX3_timeFor_63 rfl rfl ?_
          refine g_aald 65 _ dX3_timeFor_64 rfl (by decide) rfl (vp_in_nI hi7 (by omega)) rfl ?_
          refine g_iload 67 dX3_timeFor_65 rfl rfl ?_
          rw [nI_clamp (show i < 2 ^ 31 by omega)]
          refine g_iald 68 dX3_timeFor_67 rfl (by omega) (by first | exact k_89 i hi7 | exact k_115 i hi7) (vp_in_nI (show z < 4 by omega) (by omega)) ?_
          rw [nI_clamp (show z < 2 ^ 31 by omega)]
          refine g_min 71 dX3_timeFor_68 rfl a_X3_80 a_min_s a_ini a_min_c (by decide) (Nat.le_of_ble_eq_true rfl) ?_
          refine g_istore 73 dX3_timeFor_71 rfl (by decide) ?_
          refine g_lload 75 dX3_timeFor_73 rfl rfl ?_
          refine g_iload 77 dX3_timeFor_75 rfl rfl ?_
          refine g_i2l 78 dX3_timeFor_77 rfl ?_
          refine g_lmul 79 dX3_timeFor_78 rfl ?_
          refine g_iload 81 dX3_timeFor_79 rfl rfl ?_
          refine g_i2l 82 dX3_timeFor_81 rfl ?_
          refine g_ldc2 85 60 dX3_timeFor_82 rfl n_X3_110 ?_
          refine g_lmul 86 dX3_timeFor_85 rfl ?_
          refine g_lload 88 dX3_timeFor_86 rfl rfl ?_
          refine g_lmul 89 dX3_timeFor_88 rfl ?_
          refine g_ladd 90 dX3_timeFor_89 rfl ?_
          refine g_lstore 92 dX3_timeFor_90 rfl (by decide) ?_
          refine g_lload 94 dX3_timeFor_92 rfl rfl ?_
          refine g_iload 96 dX3_timeFor_94 rfl rfl ?_
          refine g_i2l 97 dX3_timeFor_96 rfl ?_
          refine g_lmul 98 dX3_timeFor_97 rfl ?_
          refine g_lstore 100 dX3_timeFor_98 rfl (by decide) ?_
          refine g_iload 102 dX3_timeFor_100 rfl rfl ?_
          refine g_iload 104 dX3_timeFor_102 rfl rfl ?_
          refine g_isub 105 dX3_timeFor_104 rfl ?_
          refine g_istore 107 dX3_timeFor_105 rfl (by decide) ?_
          refine g_iinc 110 (_ + 1) dX3_timeFor_107 rfl rfl rfl (by decide) ?_
          refine g_goto 12 dX3_timeFor_110 (by decide) ?_
          rw [nI_1]
          refine g_lv [(0, _), (1, _), (2, _), (3, _), (4, _), (6, _), (8, _), (9, _)] rfl ?_
          exact ih (z + 1) (by omega)
set_option maxRecDepth 100000 in
set_option maxHeartbeats 4000000 in
theorem c_time {r i K : Nat} (sp len : Int32) (hr : r = 70 ∨ r = 96) (hi7 : i < 7) (hK : K ≤ 4) (hc : μ (r + 1) i = nI K) : q_Ct C l FX3_timeFor 1 142 142 [.int sp, .int len, .ref (q_a C r), .int (nI i)] μ (q_ρ b) (q_is (q_time sp len (μ (r + 3 + i)) (μ (r + 11 + i)) (μ (r + 19 + i)) K) μ (q_ρ b)) := by
  refine q_entry rfl (by decide) (Nat.le_of_ble_eq_true rfl) ?_
  refine g_lv [(0, _), (1, _), (2, _), (3, _)] rfl ?_
  refine g_lconst 1 0 dX3_timeFor_0 rfl (by decide) ?_
  refine g_lstore 3 dX3_timeFor_1 rfl (by decide) ?_
  refine g_lconst 4 1 dX3_timeFor_3 rfl (by decide) ?_
  refine g_lstore 6 dX3_timeFor_4 rfl (by decide) ?_
  refine g_iload_n 7 dX3_timeFor_6 rfl rfl ?_
  refine g_istore 9 dX3_timeFor_7 rfl (by decide) ?_
  refine g_iconst 10 0 dX3_timeFor_9 rfl (by decide) ?_
  refine g_istore 12 dX3_timeFor_10 rfl (by decide) ?_
  refine g_lv [(0, _), (1, _), (2, _), (3, _), (4, .long 0), (6, .long 1), (8, _), (9, .int 0)] rfl ?_
  exact lp_time hr hi7 hK hc K 0 (by omega)
end TM
section TL2
variable {C : q_C} {l : Launch} {μ : q_M} {ρ : q_R}
set_option maxRecDepth 100000 in
set_option maxHeartbeats 4000000 in
theorem c_lesser (x y : Int32) : q_Ct C l FX8_lesser 0 142 142 [.int x, .int y] μ ρ (q_is (q_ls x y) μ ρ) := by
  refine q_entry rfl (by decide) (Nat.le_of_ble_eq_true rfl) ?_
  refine g_lv [(0, _), (1, _)] rfl ?_
  refine g_iload_n 1 dX8_lesser_0 rfl rfl ?_
  refine g_iload_n 2 dX8_lesser_1 rfl rfl ?_
  refine g_icmp_ge 9 5 dX8_lesser_2 rfl (by decide) (fun h2 => ?_) (fun h2 => ?_)
  · refine g_iload_n 10 dX8_lesser_9 rfl rfl ?_
    exact g_ri dX8_lesser_10 rfl rfl ⟨if_neg (fun q => absurd h2 (Int32.not_le.mpr q)), rfl, rfl⟩
  · refine g_iload_n 6 dX8_lesser_5 rfl rfl ?_
    refine g_goto 10 dX8_lesser_6 (by decide) ?_
    exact g_ri dX8_lesser_10 rfl rfl ⟨if_pos (Int32.not_le.mp h2), rfl, rfl⟩
end TL2
section TM2
variable {C : q_C} {l : Launch} {μ : q_M} {b : Bool}
set_option maxRecDepth 100000 in
set_option maxHeartbeats 4000000 in
theorem lp_Mtime {r i K : Nat} (hr : r < 10) (hi7 : i < 7) (hK : K ≤ 4) (hc : μ 129 i = nI K) (hs : ¬ (μ 125 r).toInt64 = 0) (hb : ¬ (q_tm (μ 125 r) (μ 123 (i + 1)) (fun z => μ 130 (12 * i + 3 * z)) (fun z => μ 130 (12 * i + 3 * z + 1)) (fun z => μ 130 (12 * i + 3 * z + 2)) K).2.1 = 0) : ∀ k z, z + k = K → q_G C l FX8_timeOf 1 142 142 (q_is (q_mtime (μ 125 r) (μ 123 (i + 1)) (fun z => μ 130 (12 * i + 3 * z)) (fun z => μ 130 (12 * i + 3 * z + 1)) (fun z => μ 130 (12 * i + 3 * z + 2)) K) μ (q_ρ b)) 142 μ (q_ρ b) [(0, .ref (q_a C 122)), (1, .int (nI r)), (2, .int (nI i)), (3, .int (μ 123 (i + 1))), (4, .int (q_tm (μ 125 r) (μ 123 (i + 1)) (fun z => μ 130 (12 * i + 3 * z)) (fun z => μ 130 (12 * i + 3 * z + 1)) (fun z => μ 130 (12 * i + 3 * z + 2)) z).2.2), (5, .long (q_tm (μ 125 r) (μ 123 (i + 1)) (fun z => μ 130 (12 * i + 3 * z)) (fun z => μ 130 (12 * i + 3 * z + 1)) (fun z => μ 130 (12 * i + 3 * z + 2)) z).2.1), (7, .long (q_tm (μ 125 r) (μ 123 (i + 1)) (fun z => μ 130 (12 * i + 3 * z)) (fun z => μ 130 (12 * i + 3 * z + 1)) (fun z => μ 130 (12 * i + 3 * z + 2)) z).1), (9, .int (nI z))] [] 24 := by
  intro k
  induction k with
  | zero =>
    intro z hi
    refine g_iload 26 dX8_timeOf_24 rfl rfl ?_
    refine g_aload_n 27 dX8_timeOf_26 rfl rfl ?_
    refine g_getR 30 _ dX8_timeOf_27 rfl f_X8_28 (by decide) rfl rfl rfl ?_
    refine g_iload_n 31 dX8_timeOf_30 rfl rfl ?_
    refine g_iald 32 dX8_timeOf_31 rfl (by decide) rfl (vp_in_nI hi7 (by omega)) ?_
    rw [nI_clamp (show i < 2 ^ 31 by omega)]
    rw [hc]
    refine g_icmp_ge 153 35 dX8_timeOf_32 rfl (by decide) (fun h32 => ?_) (fun h32 => ?_)
    · rw [show z = K by omega]
      refine g_lload 155 dX8_timeOf_153 rfl rfl ?_
      refine g_ldc2 158 60 dX8_timeOf_155 rfl n_X8_165 ?_
      refine g_iload 160 dX8_timeOf_158 rfl rfl ?_
      refine g_i2l 161 dX8_timeOf_160 rfl ?_
      refine g_lmul 162 dX8_timeOf_161 rfl ?_
      refine g_lload 164 dX8_timeOf_162 rfl rfl ?_
      refine g_aload_n 165 dX8_timeOf_164 rfl rfl ?_
      refine g_getR 168 _ dX8_timeOf_165 rfl f_X8_16 (by decide) rfl rfl rfl ?_
      refine g_iload_n 169 dX8_timeOf_168 rfl rfl ?_
      refine g_iald 170 dX8_timeOf_169 rfl (by decide) rfl (vp_in_nI hr (by omega)) ?_
      rw [nI_clamp (show r < 2 ^ 31 by omega)]
      refine g_i2l 171 dX8_timeOf_170 rfl ?_
      refine g_ldiv 172 dX8_timeOf_171 rfl hs ?_
      refine g_lmul 173 dX8_timeOf_172 rfl ?_
      refine g_ladd 174 dX8_timeOf_173 rfl ?_
      refine g_lstore 176 dX8_timeOf_174 rfl (by decide) ?_
      refine g_lload 178 dX8_timeOf_176 rfl rfl ?_
      refine g_lload 180 dX8_timeOf_178 rfl rfl ?_
      refine g_ladd 181 dX8_timeOf_180 rfl ?_
      refine g_lconst 182 1 dX8_timeOf_181 rfl (by decide) ?_
      refine g_lsub 183 dX8_timeOf_182 rfl ?_
      refine g_lload 185 dX8_timeOf_183 rfl rfl ?_
      refine g_ldiv 186 dX8_timeOf_185 rfl hb ?_
      refine g_l2i 187 dX8_timeOf_186 rfl ?_
      exact g_ri dX8_timeOf_187 rfl rfl ⟨rfl, rfl, rfl⟩
    · exact absurd (nI_le (by omega) (by omega)) h32
  | succ k ih =>
    intro z hi
    refine g_iload 26 dX8_timeOf_24 rfl rfl ?_
    refine g_aload_n 27 dX8_timeOf_26 rfl rfl ?_
    refine g_getR 30 _ dX8_timeOf_27 rfl f_X8_28 (by decide) rfl rfl rfl ?_
    refine g_iload_n 31 dX8_timeOf_30 rfl rfl ?_
    refine g_iald 32 dX8_timeOf_31 rfl (by decide) rfl (vp_in_nI hi7 (by omega)) ?_
    rw [nI_clamp (show i < 2 ^ 31 by omega)]
    rw [hc]
    refine g_icmp_ge 153 35 dX8_timeOf_32 rfl (by decide) (fun h32 => ?_) (fun h32 => ?_)
    · exact absurd h32 (nI_ge (by omega) (by omega))
    · refine g_bipush 37 12 dX8_timeOf_35 rfl (by decide) ?_
      refine g_iload_n 38 dX8_timeOf_37 rfl rfl ?_
      refine g_imul 39 dX8_timeOf_38 rfl ?_
      refine g_iconst 40 3 dX8_timeOf_39 rfl (by decide) ?_
      refine g_iload 42 dX8_timeOf_40 rfl rfl ?_
      refine g_imul 43 dX8_timeOf_42 rfl ?_
      refine g_iadd 44 dX8_timeOf_43 rfl ?_
      rw [show (12 : Int32) * nI i + 3 * nI z = nI (12 * i + 3 * z) from by rw [show (12 : Int32) * nI i = nI (12 * i) from pk_mul 12 i, show (3 : Int32) * nI z = nI (3 * z) from pk_mul 3 z, nI_add]]
      refine g_istore 46 dX8_timeOf_44 rfl (by decide) ?_
      refine g_aload_n 47 dX8_timeOf_46 rfl rfl ?_
      refine g_getR 50 _ dX8_timeOf_47 rfl f_X8_31 (by decide) rfl rfl rfl ?_
      refine g_iload 52 dX8_timeOf_50 rfl rfl ?_
      refine g_iconst 53 1 dX8_timeOf_52 rfl (by decide) ?_
      refine g_iadd 54 dX8_timeOf_53 rfl ?_
      rw [nI_1]
      refine g_iald 55 dX8_timeOf_54 rfl (by decide) rfl (vp_in_nI (show 12 * i + 3 * z + 1 < 84 by omega) (by omega)) ?_
      rw [nI_clamp (show 12 * i + 3 * z + 1 < 2 ^ 31 by omega)]
      refine g_iload_n 56 dX8_timeOf_55 rfl rfl ?_
      refine g_Si 59 [_, _] _ dX8_timeOf_56 rfl m_X8_lesser l_X8_161 rfl (c_lesser _ _) rfl (Nat.le_of_ble_eq_true rfl) (by decide) (fun v56 μ56 ρ56 hc9 => ?_)
      obtain ⟨rfl, rfl, rfl⟩ := hc9
      refine g_aload_n 60 dX8_timeOf_59 rfl rfl ?_
      refine g_getR 63 _ dX8_timeOf_60 rfl f_X8_31 (by decide) rfl rfl rfl ?_
      refine g_iload 65 dX8_timeOf_63 rfl rfl ?_
      refine g_iald 66 dX8_timeOf_65 rfl (by decide) rfl (vp_in_nI (show 12 * i + 3 * z < 84 by omega) (by omega)) ?_
      rw [nI_clamp (show 12 * i + 3 * z < 2 ^ 31 by omega)]
      refine g_iload_n 67 dX8_timeOf_66 rfl rfl ?_
      refine g_Si 70 [_, _] _ dX8_timeOf_67 rfl m_X8_lesser l_X8_161 rfl (c_lesser _ _) rfl (Nat.le_of_ble_eq_true rfl) (by decide) (fun v67 μ67 ρ67 hc9 => ?_)
      obtain ⟨rfl, rfl, rfl⟩ := hc9
      refine g_isub 71 dX8_timeOf_70 rfl ?_
      refine g_istore 73 dX8_timeOf_71 rfl (by decide) ?_
      refine g_iload 75 dX8_timeOf_73 rfl rfl ?_
      refine g_if_eq 147 78 dX8_timeOf_75 rfl (by decide) (fun h75 => ?_) (fun h75 => ?_)
      · refine g_iinc 150 (_ + 1) dX8_timeOf_147 rfl rfl rfl (by decide) ?_
        refine g_goto 24 dX8_timeOf_150 (by decide) ?_
        rw [nI_1]
        refine g_lv [(0, _), (1, _), (2, _), (3, _), (4, _), (5, _), (7, _), (9, _)] rfl ?_
        have h9 := ih (z + 1) (by omega)
        rw [q_tm, if_pos (Or.inl h75)] at h9
        exact h9
      · refine g_aload_n 79 dX8_timeOf_78 rfl rfl ?_
        refine g_getR 82 _ dX8_timeOf_79 rfl f_X8_31 (by decide) rfl rfl rfl ?_
        refine g_iload 84 dX8_timeOf_82 rfl rfl ?_
        refine g_iconst 85 2 dX8_timeOf_84 rfl (by decide) ?_
        refine g_iadd 86 dX8_timeOf_85 rfl ?_
        rw [show nI (12 * i + 3 * z) + 2 = nI (12 * i + 3 * z + 2) from nI_add _ 2]
        refine g_iald 87 dX8_timeOf_86 rfl (by decide) rfl (vp_in_nI (show 12 * i + 3 * z + 2 < 84 by omega) (by omega)) ?_
        rw [nI_clamp (show 12 * i + 3 * z + 2 < 2 ^ 31 by omega)]
        refine g_aload_n 88 dX8_timeOf_87 rfl rfl ?_
        refine g_getR 91 _ dX8_timeOf_88 rfl f_X8_16 (by decide) rfl rfl rfl ?_
        refine g_iload_n 92 dX8_timeOf_91 rfl rfl ?_
        refine g_iald 93 dX8_timeOf_92 rfl (by decide) rfl (vp_in_nI hr (by omega)) ?_
        rw [nI_clamp (show r < 2 ^ 31 by omega)]
        refine g_icmp_lt 99 96 dX8_timeOf_93 rfl (by decide) (fun h93 => ?_) (fun h93 => ?_)
        · refine g_iload 101 dX8_timeOf_99 rfl rfl ?_
          refine g_iload 103 dX8_timeOf_101 rfl rfl ?_
          refine g_isub 104 dX8_timeOf_103 rfl ?_
          refine g_istore 106 dX8_timeOf_104 rfl (by decide) ?_
          refine g_lload 108 dX8_timeOf_106 rfl rfl ?_
          refine g_aload_n 109 dX8_timeOf_108 rfl rfl ?_
          refine g_getR 112 _ dX8_timeOf_109 rfl f_X8_31 (by decide) rfl rfl rfl ?_
          refine g_iload 114 dX8_timeOf_112 rfl rfl ?_
          refine g_iconst 115 2 dX8_timeOf_114 rfl (by decide) ?_
          refine g_iadd 116 dX8_timeOf_115 rfl ?_
          rw [show nI (12 * i + 3 * z) + 2 = nI (12 * i + 3 * z + 2) from nI_add _ 2]
          refine g_iald 117 dX8_timeOf_116 rfl (by decide) rfl (vp_in_nI (show 12 * i + 3 * z + 2 < 84 by omega) (by omega)) ?_
          rw [nI_clamp (show 12 * i + 3 * z + 2 < 2 ^ 31 by omega)]
          refine g_i2l 118 dX8_timeOf_117 rfl ?_
          refine g_lmul 119 dX8_timeOf_118 rfl ?_
          refine g_ldc2 122 60 dX8_timeOf_119 rfl n_X8_165 ?_
          refine g_iload 124 dX8_timeOf_122 rfl rfl ?_
          refine g_i2l 125 dX8_timeOf_124 rfl ?_
          refine g_lmul 126 dX8_timeOf_125 rfl ?_
          refine g_lload 128 dX8_timeOf_126 rfl rfl ?_
          refine g_lmul 129 dX8_timeOf_128 rfl ?_
          refine g_ladd 130 dX8_timeOf_129 rfl ?_
          refine g_lstore 132 dX8_timeOf_130 rfl (by decide) ?_
          refine g_lload 134 dX8_timeOf_132 rfl rfl ?_
          refine g_aload_n 135 dX8_timeOf_134 rfl rfl ?_
          refine g_getR 138 _ dX8_timeOf_135 rfl f_X8_31 (by decide) rfl rfl rfl ?_
          refine g_iload 140 dX8_timeOf_138 rfl rfl ?_
          refine g_iconst 141 2 dX8_timeOf_140 rfl (by decide) ?_
          refine g_iadd 142 dX8_timeOf_141 rfl ?_
          rw [show nI (12 * i + 3 * z) + 2 = nI (12 * i + 3 * z + 2) from nI_add _ 2]
          refine g_iald 143 dX8_timeOf_142 rfl (by decide) rfl (vp_in_nI (show 12 * i + 3 * z + 2 < 84 by omega) (by omega)) ?_
          rw [nI_clamp (show 12 * i + 3 * z + 2 < 2 ^ 31 by omega)]
          refine g_i2l 144 dX8_timeOf_143 rfl ?_
          refine g_lmul 145 dX8_timeOf_144 rfl ?_
          refine g_lstore 147 dX8_timeOf_145 rfl (by decide) ?_
          refine g_iinc 150 (_ + 1) dX8_timeOf_147 rfl rfl rfl (by decide) ?_
          refine g_goto 24 dX8_timeOf_150 (by decide) ?_
          rw [nI_1]
          refine g_lv [(0, _), (1, _), (2, _), (3, _), (4, _), (5, _), (7, _), (9, _)] rfl ?_
          have h9 := ih (z + 1) (by omega)
          rw [q_tm, if_neg (fun q => q.elim h75 (fun q2 => absurd h93 (Int32.not_lt.mpr q2)))] at h9
          exact h9
        · refine g_goto 147 dX8_timeOf_96 (by decide) ?_
          refine g_iinc 150 (_ + 1) dX8_timeOf_147 rfl rfl rfl (by decide) ?_
          refine g_goto 24 dX8_timeOf_150 (by decide) ?_
          rw [nI_1]
          refine g_lv [(0, _), (1, _), (2, _), (3, _), (4, _), (5, _), (7, _), (9, _)] rfl ?_
          have h9 := ih (z + 1) (by omega)
          rw [q_tm, if_pos (Or.inr (Int32.not_lt.mp h93))] at h9
          exact h9
set_option maxRecDepth 100000 in
set_option maxHeartbeats 4000000 in
theorem c_Mtime {r i K : Nat} (hr : r < 10) (hi7 : i < 7) (hK : K ≤ 4) (hc : μ 129 i = nI K) (hs : ¬ (μ 125 r).toInt64 = 0) (hb : ¬ (q_tm (μ 125 r) (μ 123 (i + 1)) (fun z => μ 130 (12 * i + 3 * z)) (fun z => μ 130 (12 * i + 3 * z + 1)) (fun z => μ 130 (12 * i + 3 * z + 2)) K).2.1 = 0) : q_Ct C l FX8_timeOf 1 142 142 [.ref (q_a C 122), .int (nI r), .int (nI i)] μ (q_ρ b) (q_is (q_mtime (μ 125 r) (μ 123 (i + 1)) (fun z => μ 130 (12 * i + 3 * z)) (fun z => μ 130 (12 * i + 3 * z + 1)) (fun z => μ 130 (12 * i + 3 * z + 2)) K) μ (q_ρ b)) := by
  refine q_entry rfl (by decide) (Nat.le_of_ble_eq_true rfl) ?_
  refine g_lv [(0, _), (1, _), (2, _)] rfl ?_
  refine g_aload_n 1 dX8_timeOf_0 rfl rfl ?_
  refine g_iload_n 2 dX8_timeOf_1 rfl rfl ?_
  refine g_Vi 5 [_] _ dX8_timeOf_2 rfl m_X8_length l_X8_88 rfl rfl rfl (by decide) (c_Mlength _ (by rw [nI_1]; exact vp_in_nI (show i + 1 < 8 by omega) (by omega))) rfl (Nat.le_of_ble_eq_true rfl) (by decide) (fun v2 μ2 ρ2 hc9 => ?_)
  obtain ⟨rfl, rfl, rfl⟩ := hc9
  rw [nI_1, nI_clamp (show i + 1 < 2 ^ 31 by omega)]
  refine g_istore_n 6 dX8_timeOf_5 rfl (by decide) ?_
  refine g_iload_n 7 dX8_timeOf_6 rfl rfl ?_
  refine g_istore 9 dX8_timeOf_7 rfl (by decide) ?_
  refine g_aload_n 10 dX8_timeOf_9 rfl rfl ?_
  refine g_getR 13 _ dX8_timeOf_10 rfl f_X8_16 (by decide) rfl rfl rfl ?_
  refine g_iload_n 14 dX8_timeOf_13 rfl rfl ?_
  refine g_iald 15 dX8_timeOf_14 rfl (by decide) rfl (vp_in_nI hr (by omega)) ?_
  rw [nI_clamp (show r < 2 ^ 31 by omega)]
  refine g_i2l 16 dX8_timeOf_15 rfl ?_
  refine g_lstore 18 dX8_timeOf_16 rfl (by decide) ?_
  refine g_lconst 19 0 dX8_timeOf_18 rfl (by decide) ?_
  refine g_lstore 21 dX8_timeOf_19 rfl (by decide) ?_
  refine g_iconst 22 0 dX8_timeOf_21 rfl (by decide) ?_
  refine g_istore 24 dX8_timeOf_22 rfl (by decide) ?_
  refine g_lv [(0, _), (1, _), (2, _), (3, _), (4, _), (5, _), (7, .long 0), (9, .int 0)] rfl ?_
  exact lp_Mtime hr hi7 hK hc hs hb K 0 (by omega)
end TM2
