/-! ===== sweepers: the class ===== -/
def q_u (x y : Int32) : Int32 := (x.toUInt32 >>> (y.toUInt32 &&& Int32.toUInt32 31)).toInt32
def q_p1 (x : Int32) : Int32 := x - (q_u x 1 &&& 1431655765)
def q_p2 (x : Int32) : Int32 := (x &&& 858993459) + (q_u x 2 &&& 858993459)
def q_p3 (x : Int32) : Int32 := (x + q_u x 4) &&& 252645135
def q_p4 (x : Int32) : Int32 := x + q_u x 8
def q_p5 (x : Int32) : Int32 := x + q_u x 16
def q_pc (x : Int32) : Int32 := q_p5 (q_p4 (q_p3 (q_p2 (q_p1 x)))) &&& 63
def q_bd (bk st : Nat → Int32) (i : Nat) : Nat → Int32
  | 0 => 0
  | r + 1 => if bk r = nI i ∧ ¬ st r = -1 then q_bd bk st i r ||| (1 <<< (nI r &&& 31)) else q_bd bk st i r
theorem q_bd_congr {bk bk' st st' : Nat → Int32} {i : Nat} : ∀ m, (∀ r, r < m → bk r = bk' r ∧ st r = st' r) → q_bd bk st i m = q_bd bk' st' i m
  | 0, _ => rfl
  | m + 1, h => by unfold q_bd; rw [q_bd_congr m (fun r hr => h r (by omega)), (h m (by omega)).1, (h m (by omega)).2]
section SW0
variable {C : q_C} {l : Launch} {μ : q_M} {ρ : q_R}
set_option maxRecDepth 100000 in
set_option maxHeartbeats 4000000 in
theorem c_bit (x : Int32) : q_Ct C l FJ6_bitCount_0f7a4 0 142 142 [.int x] μ ρ (q_is (q_pc x) μ ρ) := by
  refine q_entry rfl (by decide) (Nat.le_of_ble_eq_true rfl) ?_
  refine g_lv [(0, _)] rfl ?_
  refine g_iload_n 1 dJ6_bitCount_0f7a4_0 rfl rfl ?_
  refine g_iload_n 2 dJ6_bitCount_0f7a4_1 rfl rfl ?_
  refine g_iconst 3 1 dJ6_bitCount_0f7a4_2 rfl (by decide) ?_
  refine g_iushr 4 dJ6_bitCount_0f7a4_3 rfl ?_
  refine g_ldcw 7 1431655765 dJ6_bitCount_0f7a4_4 rfl n_J6_265 ?_
  refine g_iand 8 dJ6_bitCount_0f7a4_7 rfl ?_
  refine g_isub 9 dJ6_bitCount_0f7a4_8 rfl ?_
  refine g_istore_n 10 dJ6_bitCount_0f7a4_9 rfl (by decide) ?_
  refine g_iload_n 11 dJ6_bitCount_0f7a4_10 rfl rfl ?_
  refine g_ldcw 14 858993459 dJ6_bitCount_0f7a4_11 rfl n_J6_266 ?_
  refine g_iand 15 dJ6_bitCount_0f7a4_14 rfl ?_
  refine g_iload_n 16 dJ6_bitCount_0f7a4_15 rfl rfl ?_
  refine g_iconst 17 2 dJ6_bitCount_0f7a4_16 rfl (by decide) ?_
  refine g_iushr 18 dJ6_bitCount_0f7a4_17 rfl ?_
  refine g_ldcw 21 858993459 dJ6_bitCount_0f7a4_18 rfl n_J6_266 ?_
  refine g_iand 22 dJ6_bitCount_0f7a4_21 rfl ?_
  refine g_iadd 23 dJ6_bitCount_0f7a4_22 rfl ?_
  refine g_istore_n 24 dJ6_bitCount_0f7a4_23 rfl (by decide) ?_
  refine g_iload_n 25 dJ6_bitCount_0f7a4_24 rfl rfl ?_
  refine g_iload_n 26 dJ6_bitCount_0f7a4_25 rfl rfl ?_
  refine g_iconst 27 4 dJ6_bitCount_0f7a4_26 rfl (by decide) ?_
  refine g_iushr 28 dJ6_bitCount_0f7a4_27 rfl ?_
  refine g_iadd 29 dJ6_bitCount_0f7a4_28 rfl ?_
  refine g_ldcw 32 252645135 dJ6_bitCount_0f7a4_29 rfl n_J6_267 ?_
  refine g_iand 33 dJ6_bitCount_0f7a4_32 rfl ?_
  refine g_istore_n 34 dJ6_bitCount_0f7a4_33 rfl (by decide) ?_
  refine g_iload_n 35 dJ6_bitCount_0f7a4_34 rfl rfl ?_
  refine g_iload_n 36 dJ6_bitCount_0f7a4_35 rfl rfl ?_
  refine g_bipush 38 8 dJ6_bitCount_0f7a4_36 rfl (by decide) ?_
  refine g_iushr 39 dJ6_bitCount_0f7a4_38 rfl ?_
  refine g_iadd 40 dJ6_bitCount_0f7a4_39 rfl ?_
  refine g_istore_n 41 dJ6_bitCount_0f7a4_40 rfl (by decide) ?_
  refine g_iload_n 42 dJ6_bitCount_0f7a4_41 rfl rfl ?_
  refine g_iload_n 43 dJ6_bitCount_0f7a4_42 rfl rfl ?_
  refine g_bipush 45 16 dJ6_bitCount_0f7a4_43 rfl (by decide) ?_
  refine g_iushr 46 dJ6_bitCount_0f7a4_45 rfl ?_
  refine g_iadd 47 dJ6_bitCount_0f7a4_46 rfl ?_
  refine g_istore_n 48 dJ6_bitCount_0f7a4_47 rfl (by decide) ?_
  refine g_iload_n 49 dJ6_bitCount_0f7a4_48 rfl rfl ?_
  refine g_bipush 51 63 dJ6_bitCount_0f7a4_49 rfl (by decide) ?_
  refine g_iand 52 dJ6_bitCount_0f7a4_51 rfl ?_
  exact g_ri dJ6_bitCount_0f7a4_52 rfl rfl ⟨rfl, rfl, rfl⟩
end SW0
section SW
variable {C : q_C} {l : Launch} {μ : q_M} {b : Bool}
set_option maxRecDepth 100000 in
set_option maxHeartbeats 4000000 in
theorem lp_brk {i m : Nat} (hi : i < 7) (hm : m ≤ 10) (hc : μ 4 3 = nI m) : ∀ k r2, r2 + k = m → q_G C l FX3_brokenDown 2 142 142 (q_is (q_bd (μ 6) (μ (21 + i)) i m) μ (q_ρ b)) 142 μ (q_ρ b) [(0, .ref (q_a C 11)), (1, .int (nI i)), (2, .ref (q_a C 4)), (3, .int (q_bd (μ 6) (μ (21 + i)) i r2)), (4, .int (nI r2))] [] 5 := by
  intro k
  induction k with
  | zero =>
    intro r2 hK9
    refine g_iload 7 dX3_brokenDown_5 rfl rfl ?_
    refine g_aload_n 8 dX3_brokenDown_7 rfl rfl ?_
    refine g_getI 11 dX3_brokenDown_8 rfl f_X3_50 (by decide) rfl rfl ?_
    rw [hc]
    refine g_icmp_ge 58 14 dX3_brokenDown_11 rfl (by decide) (fun h11 => ?_) (fun h11 => ?_)
    · refine g_iload_n 59 dX3_brokenDown_58 rfl rfl ?_
      exact g_ri dX3_brokenDown_59 rfl rfl ⟨by rw [show r2 = m by omega], rfl, rfl⟩
    · exact absurd (nI_le (by omega) (by omega)) h11
  | succ k ih =>
    intro r2 hK9
    refine g_iload 7 dX3_brokenDown_5 rfl rfl ?_
    refine g_aload_n 8 dX3_brokenDown_7 rfl rfl ?_
    refine g_getI 11 dX3_brokenDown_8 rfl f_X3_50 (by decide) rfl rfl ?_
    rw [hc]
    refine g_icmp_ge 58 14 dX3_brokenDown_11 rfl (by decide) (fun h11 => ?_) (fun h11 => ?_)
    · exact absurd h11 (nI_ge (by omega) (by omega))
    · refine g_iload_n 15 dX3_brokenDown_14 rfl rfl ?_
      refine g_SNi 18 [_] _ dX3_brokenDown_15 rfl m_X7_isStage l_X3_73 rfl (c_isStage _) rfl (Nat.le_of_ble_eq_true rfl) (by decide) (fun v15 μ15 ρ15 hc9 => ?_)
      obtain ⟨rfl, rfl, rfl⟩ := hc9
      refine g_if_eq 52 21 dX3_brokenDown_18 rfl (by decide) (fun h18 => ?_) (fun h18 => ?_)
      · exact (q_b_0.mp h18 (q_stageI hi)).elim
      · refine g_aload_n 22 dX3_brokenDown_21 rfl rfl ?_
        refine g_getR 25 _ dX3_brokenDown_22 rfl f_X3_77 (by decide) rfl rfl rfl ?_
        refine g_iload 27 dX3_brokenDown_25 rfl rfl ?_
        refine g_iald 28 dX3_brokenDown_27 rfl (by decide) rfl (vp_in_nI (show r2 < 10 by omega) (by omega)) ?_
        rw [nI_clamp (show r2 < 2 ^ 31 by omega)]
        refine g_iload_n 29 dX3_brokenDown_28 rfl rfl ?_
        refine g_icmp_ne 52 32 dX3_brokenDown_29 rfl (by decide) (fun h29 => ?_) (fun h29 => ?_)
        · refine g_iinc 55 (_ + 1) dX3_brokenDown_52 rfl rfl rfl (by decide) ?_
          refine g_goto 5 dX3_brokenDown_55 (by decide) ?_
          rw [nI_1]
          refine g_lv [(0, _), (1, _), (2, _), (3, _), (4, _)] rfl ?_
          have h9 := ih (r2 + 1) (by omega)
          rw [q_bd, if_neg (fun q => h29 q.1)] at h9
          exact h9
        · refine g_aload_n 33 dX3_brokenDown_32 rfl rfl ?_
          refine g_getR 36 _ dX3_brokenDown_33 rfl f_X3_16 (by decide) rfl rfl rfl ?_
          refine g_iload_n 37 dX3_brokenDown_36 rfl rfl ?_
          refine g_aald 38 _ dX3_brokenDown_37 rfl (by decide) rfl (vp_in_nI hi (by omega)) rfl ?_
          rw [nI_clamp (show i < 2 ^ 31 by omega)]
          refine g_iload 40 dX3_brokenDown_38 rfl rfl ?_
          refine g_iald 41 dX3_brokenDown_40 rfl (by omega) (k_21 i hi) (vp_in_nI (show r2 < 10 by omega) (by omega)) ?_
          rw [nI_clamp (show r2 < 2 ^ 31 by omega)]
          refine g_iconst 42 (-1) dX3_brokenDown_41 rfl (by decide) ?_
          refine g_icmp_eq 52 45 dX3_brokenDown_42 rfl (by decide) (fun h42 => ?_) (fun h42 => ?_)
          · refine g_iinc 55 (_ + 1) dX3_brokenDown_52 rfl rfl rfl (by decide) ?_
            refine g_goto 5 dX3_brokenDown_55 (by decide) ?_
            rw [nI_1]
            refine g_lv [(0, _), (1, _), (2, _), (3, _), (4, _)] rfl ?_
            have h9 := ih (r2 + 1) (by omega)
            rw [q_bd, if_neg (fun q => q.2 h42)] at h9
            exact h9
          · refine g_iload_n 46 dX3_brokenDown_45 rfl rfl ?_
            refine g_iconst 47 1 dX3_brokenDown_46 rfl (by decide) ?_
            refine g_iload 49 dX3_brokenDown_47 rfl rfl ?_
            refine g_ishl 50 dX3_brokenDown_49 rfl ?_
            refine g_ior 51 dX3_brokenDown_50 rfl ?_
            refine g_istore_n 52 dX3_brokenDown_51 rfl (by decide) ?_
            refine g_iinc 55 (_ + 1) dX3_brokenDown_52 rfl rfl rfl (by decide) ?_
            refine g_goto 5 dX3_brokenDown_55 (by decide) ?_
            rw [nI_1]
            refine g_lv [(0, _), (1, _), (2, _), (3, _), (4, _)] rfl ?_
            have h9 := ih (r2 + 1) (by omega)
            rw [q_bd, if_pos ⟨h29, h42⟩] at h9
            exact h9
set_option maxRecDepth 100000 in
set_option maxHeartbeats 4000000 in
theorem c_brk {i m : Nat} (hi : i < 7) (hm : m ≤ 10) (hc : μ 4 3 = nI m) : q_Ct C l FX3_brokenDown 2 142 142 [.ref (q_a C 11), .int (nI i), .ref (q_a C 4)] μ (q_ρ b) (q_is (q_bd (μ 6) (μ (21 + i)) i m) μ (q_ρ b)) := by
  refine q_entry rfl (by decide) (Nat.le_of_ble_eq_true rfl) ?_
  refine g_lv [(0, _), (1, _), (2, _)] rfl ?_
  refine g_iconst 1 0 dX3_brokenDown_0 rfl (by decide) ?_
  refine g_istore_n 2 dX3_brokenDown_1 rfl (by decide) ?_
  refine g_iconst 3 0 dX3_brokenDown_2 rfl (by decide) ?_
  refine g_istore 5 dX3_brokenDown_3 rfl (by decide) ?_
  refine g_lv [(0, _), (1, _), (2, _), (3, _), (4, .int (nI 0))] rfl ?_
  exact lp_brk hi hm hc m 0 (by omega)
set_option maxRecDepth 100000 in
set_option maxHeartbeats 4000000 in
theorem c_lstart {i : Nat} (hi : i < 7) : q_Ct C l FX3_lastStart 2 142 142 [.ref (q_a C 11), .int (nI i)] μ (q_ρ b) (q_is (μ 62 i + 2 * (μ 61 i - 1)) μ (q_ρ b)) := by
  refine q_entry rfl (by decide) (Nat.le_of_ble_eq_true rfl) ?_
  refine g_lv [(0, _), (1, _)] rfl ?_
  refine g_iload_n 1 dX3_lastStart_0 rfl rfl ?_
  refine g_SNi 4 [_] _ dX3_lastStart_1 rfl m_X7_isStage l_X3_73 rfl (c_isStage _) rfl (Nat.le_of_ble_eq_true rfl) (by decide) (fun v1 μ1 ρ1 hc9 => ?_)
  obtain ⟨rfl, rfl, rfl⟩ := hc9
  refine g_if_eq 27 7 dX3_lastStart_4 rfl (by decide) (fun h4 => ?_) (fun h4 => ?_)
  · exact (q_b_0.mp h4 (q_stageI hi)).elim
  · refine g_aload_n 8 dX3_lastStart_7 rfl rfl ?_
    refine g_getR 11 _ dX3_lastStart_8 rfl f_X3_38 (by decide) rfl rfl rfl ?_
    refine g_iload_n 12 dX3_lastStart_11 rfl rfl ?_
    refine g_iald 13 dX3_lastStart_12 rfl (by decide) rfl (vp_in_nI hi (by omega)) ?_
    rw [nI_clamp (show i < 2 ^ 31 by omega)]
    refine g_iconst 14 2 dX3_lastStart_13 rfl (by decide) ?_
    refine g_aload_n 15 dX3_lastStart_14 rfl rfl ?_
    refine g_getR 18 _ dX3_lastStart_15 rfl f_X3_35 (by decide) rfl rfl rfl ?_
    refine g_iload_n 19 dX3_lastStart_18 rfl rfl ?_
    refine g_iald 20 dX3_lastStart_19 rfl (by decide) rfl (vp_in_nI hi (by omega)) ?_
    rw [nI_clamp (show i < 2 ^ 31 by omega)]
    refine g_iconst 21 1 dX3_lastStart_20 rfl (by decide) ?_
    refine g_isub 22 dX3_lastStart_21 rfl ?_
    refine g_imul 23 dX3_lastStart_22 rfl ?_
    refine g_iadd 24 dX3_lastStart_23 rfl ?_
    refine g_goto 28 dX3_lastStart_24 (by decide) ?_
    exact g_ri dX3_lastStart_28 rfl rfl ⟨rfl, rfl, rfl⟩
set_option maxRecDepth 100000 in
set_option maxHeartbeats 4000000 in
theorem c_scome {i : Nat} (t : Int32) (hi : i < 7) : q_Ct C l FX7_sweepersCome 3 142 142 [.ref (q_a C 0), .int (nI i), .int t] μ (q_ρ b) (q_is (μ 62 i + 2 * (μ 61 i - 1) + 60 + q_dv ((μ 2 i).toInt64 * 60) (30 : Int32).toInt64 + 15 * t) μ (q_ρ b)) := by
  refine q_entry rfl (by decide) (Nat.le_of_ble_eq_true rfl) ?_
  refine g_lv [(0, _), (1, _), (2, _)] rfl ?_
  refine g_aload_n 1 dX7_sweepersCome_0 rfl rfl ?_
  refine g_getR 4 _ dX7_sweepersCome_1 rfl f_X7_40 (by decide) rfl rfl rfl ?_
  refine g_iload_n 5 dX7_sweepersCome_4 rfl rfl ?_
  refine g_Vi 8 [_] _ dX7_sweepersCome_5 rfl m_X3_lastStart l_X7_200 rfl rfl rfl (by decide) (c_lstart hi) rfl (Nat.le_of_ble_eq_true rfl) (by decide) (fun v5 μ5 ρ5 hc9 => ?_)
  obtain ⟨rfl, rfl, rfl⟩ := hc9
  refine g_bipush 10 60 dX7_sweepersCome_8 rfl (by decide) ?_
  refine g_iadd 11 dX7_sweepersCome_10 rfl ?_
  refine g_istore_n 12 dX7_sweepersCome_11 rfl (by decide) ?_
  refine g_iload_n 13 dX7_sweepersCome_12 rfl rfl ?_
  refine g_aload_n 14 dX7_sweepersCome_13 rfl rfl ?_
  refine g_getR 17 _ dX7_sweepersCome_14 rfl f_X7_12 (by decide) rfl rfl rfl ?_
  refine g_getR 20 _ dX7_sweepersCome_17 rfl f_X7_77 (by decide) rfl rfl rfl ?_
  refine g_iload_n 21 dX7_sweepersCome_20 rfl rfl ?_
  refine g_iald 22 dX7_sweepersCome_21 rfl (by decide) rfl (vp_in_nI hi (by omega)) ?_
  rw [nI_clamp (show i < 2 ^ 31 by omega)]
  refine g_bipush 24 30 dX7_sweepersCome_22 rfl (by decide) ?_
  refine g_Si 27 [_, _] _ dX7_sweepersCome_24 rfl m_X7_minutesFor l_X7_203 rfl (c_minFor _ _) rfl (Nat.le_of_ble_eq_true rfl) (by decide) (fun v24 μ24 ρ24 hc9 => ?_)
  obtain ⟨rfl, rfl, rfl⟩ := hc9
  refine g_iadd 28 dX7_sweepersCome_27 rfl ?_
  refine g_bipush 30 15 dX7_sweepersCome_28 rfl (by decide) ?_
  refine g_iload_n 31 dX7_sweepersCome_30 rfl rfl ?_
  refine g_imul 32 dX7_sweepersCome_31 rfl ?_
  refine g_iadd 33 dX7_sweepersCome_32 rfl ?_
  exact g_ri dX7_sweepersCome_33 rfl rfl ⟨rfl, rfl, rfl⟩
def i_bd (I : q_I) (i : Nat) : Int32 := q_bd (i_bk I) (i_st I i) i (i_cnt I)
def i_come (I : q_I) (i : Nat) (t : Int32) : Int32 := i_bg I i + 2 * (nI (i_od I i).2 - 1) + 60 + q_dv ((i_len I i).toInt64 * 60) (30 : Int32).toInt64 + 15 * t
set_option maxRecDepth 100000 in
set_option maxHeartbeats 4000000 in
theorem c_swp_0 {I : q_I} (hV : q_IV μ b I) (hst : μ 0 9 = 1 ∨ (μ 0 9 = 0 ∧ q_OK μ I)) {i : Nat} (hi : i < 7) : q_Ct C l FX7_sweep 15 142 142 [.ref (q_a C 0), .int (nI i), .int 0] μ (q_ρ b) (q_PI fun v μ' ρ' => (q_dv (q_pc (i_bd I i)).toInt64 4) = v ∧ q_ρ b = ρ' ∧ q_OK μ' I ∧ μ' 0 9 = 0 ∧ (∀ c j, (c < 13 ∨ 68 < c) → ¬ (c = 0 ∧ j = 9) → μ' c j = μ c j)) := by
  refine q_entry rfl (by decide) (Nat.le_of_ble_eq_true rfl) ?_
  refine g_lv [(0, _), (1, _), (2, _)] rfl ?_
  refine g_iload_n 1 dX7_sweep_0 rfl rfl ?_
  refine g_Si 4 [_] _ dX7_sweep_1 rfl m_X7_isStage l_X7_84 rfl (c_isStage _) rfl (Nat.le_of_ble_eq_true rfl) (by decide) (fun v1 μ1 ρ1 hc9 => ?_)
  obtain ⟨rfl, rfl, rfl⟩ := hc9
  refine g_if_ne 9 7 dX7_sweep_4 rfl (by decide) (fun h4 => ?_) (fun h4 => ?_)
  · refine g_aload_n 10 dX7_sweep_9 rfl rfl ?_
    refine g_Vv 13 [] _ dX7_sweep_10 rfl m_X7_settle l_X7_136 rfl rfl rfl (by decide) (c_settle hV hst) rfl (Nat.le_of_ble_eq_true rfl) (by decide) (fun μ10 ρ10 hc9 => ?_)
    obtain ⟨rfl, hok, hz, hfr⟩ := hc9
    refine g_aload_n 14 dX7_sweep_13 rfl rfl ?_
    refine g_getR 17 _ dX7_sweep_14 rfl f_X7_40 (by decide) rfl rfl rfl ?_
    refine g_iload_n 18 dX7_sweep_17 rfl rfl ?_
    refine g_aload_n 19 dX7_sweep_18 rfl rfl ?_
    refine g_getR 22 _ dX7_sweep_19 rfl f_X7_19 (by decide) rfl rfl rfl ?_
    refine g_Vi 25 [_, _] _ dX7_sweep_22 rfl m_X3_brokenDown l_X7_185 rfl rfl rfl (by decide) (c_brk (m := i_cnt I) hi hV.2.1 (by rw [hfr 4 3 (by decide) (by decide)]; exact hV.2.2.1)) rfl (Nat.le_of_ble_eq_true rfl) (by decide) (fun v22 μ22 ρ22 hc9 => ?_)
    obtain ⟨rfl, rfl, rfl⟩ := hc9
    have hcn := hV.2.1
    rw [show q_bd (μ10 6) (μ10 (21 + i)) i (i_cnt I) = i_bd I i from q_bd_congr _ (fun r hr => ⟨by rw [hfr 6 r (by decide) (by omega), ← hV.1]; rfl, (hok.1 i hi).2.1 r (by omega)⟩)]
    refine g_istore_n 26 dX7_sweep_25 rfl (by decide) ?_
    refine g_iload_n 27 dX7_sweep_26 rfl rfl ?_
    refine g_Si 30 [_] _ dX7_sweep_27 rfl m_J6_bitCount_0f7a4 l_X7_189 rfl (c_bit _) rfl (Nat.le_of_ble_eq_true rfl) (by decide) (fun v27 μ27 ρ27 hc9 => ?_)
    obtain ⟨rfl, rfl, rfl⟩ := hc9
    refine g_istore 32 dX7_sweep_30 rfl (by decide) ?_
    refine g_iload_n 33 dX7_sweep_32 rfl rfl ?_
    refine g_tabIn 60 dX7_sweep_33 (by decide) (by decide) rfl (by decide) ?_
    refine g_iload 62 dX7_sweep_60 rfl rfl ?_
    refine g_i2l 63 dX7_sweep_62 rfl ?_
    refine g_ldc2 66 4 dX7_sweep_63 rfl n_X7_194 ?_
    refine g_Si 69 [_, _] _ dX7_sweep_66 rfl m_X7_divideUpwards l_X7_172 rfl (c_divUp _ _) rfl (Nat.le_of_ble_eq_true rfl) (by decide) (fun v66 μ66 ρ66 hc9 => ?_)
    obtain ⟨rfl, rfl, rfl⟩ := hc9
    exact g_ri dX7_sweep_69 rfl rfl ⟨rfl, rfl, hok, hz, hfr⟩
  · exact (q_b_0.mp h4 (q_stageI hi)).elim
set_option maxRecDepth 100000 in
set_option maxHeartbeats 4000000 in
theorem c_swp_1 {I : q_I} (hV : q_IV μ b I) (hst : μ 0 9 = 1 ∨ (μ 0 9 = 0 ∧ q_OK μ I)) {i : Nat} (hi : i < 7) : q_Ct C l FX7_sweep 15 142 142 [.ref (q_a C 0), .int (nI i), .int 1] μ (q_ρ b) (q_PI fun v μ' ρ' => (i_bd I i) = v ∧ q_ρ b = ρ' ∧ q_OK μ' I ∧ μ' 0 9 = 0 ∧ (∀ c j, (c < 13 ∨ 68 < c) → ¬ (c = 0 ∧ j = 9) → μ' c j = μ c j)) := by
  refine q_entry rfl (by decide) (Nat.le_of_ble_eq_true rfl) ?_
  refine g_lv [(0, _), (1, _), (2, _)] rfl ?_
  refine g_iload_n 1 dX7_sweep_0 rfl rfl ?_
  refine g_Si 4 [_] _ dX7_sweep_1 rfl m_X7_isStage l_X7_84 rfl (c_isStage _) rfl (Nat.le_of_ble_eq_true rfl) (by decide) (fun v1 μ1 ρ1 hc9 => ?_)
  obtain ⟨rfl, rfl, rfl⟩ := hc9
  refine g_if_ne 9 7 dX7_sweep_4 rfl (by decide) (fun h4 => ?_) (fun h4 => ?_)
  · refine g_aload_n 10 dX7_sweep_9 rfl rfl ?_
    refine g_Vv 13 [] _ dX7_sweep_10 rfl m_X7_settle l_X7_136 rfl rfl rfl (by decide) (c_settle hV hst) rfl (Nat.le_of_ble_eq_true rfl) (by decide) (fun μ10 ρ10 hc9 => ?_)
    obtain ⟨rfl, hok, hz, hfr⟩ := hc9
    refine g_aload_n 14 dX7_sweep_13 rfl rfl ?_
    refine g_getR 17 _ dX7_sweep_14 rfl f_X7_40 (by decide) rfl rfl rfl ?_
    refine g_iload_n 18 dX7_sweep_17 rfl rfl ?_
    refine g_aload_n 19 dX7_sweep_18 rfl rfl ?_
    refine g_getR 22 _ dX7_sweep_19 rfl f_X7_19 (by decide) rfl rfl rfl ?_
    refine g_Vi 25 [_, _] _ dX7_sweep_22 rfl m_X3_brokenDown l_X7_185 rfl rfl rfl (by decide) (c_brk (m := i_cnt I) hi hV.2.1 (by rw [hfr 4 3 (by decide) (by decide)]; exact hV.2.2.1)) rfl (Nat.le_of_ble_eq_true rfl) (by decide) (fun v22 μ22 ρ22 hc9 => ?_)
    obtain ⟨rfl, rfl, rfl⟩ := hc9
    have hcn := hV.2.1
    rw [show q_bd (μ10 6) (μ10 (21 + i)) i (i_cnt I) = i_bd I i from q_bd_congr _ (fun r hr => ⟨by rw [hfr 6 r (by decide) (by omega), ← hV.1]; rfl, (hok.1 i hi).2.1 r (by omega)⟩)]
    refine g_istore_n 26 dX7_sweep_25 rfl (by decide) ?_
    refine g_iload_n 27 dX7_sweep_26 rfl rfl ?_
    refine g_Si 30 [_] _ dX7_sweep_27 rfl m_J6_bitCount_0f7a4 l_X7_189 rfl (c_bit _) rfl (Nat.le_of_ble_eq_true rfl) (by decide) (fun v27 μ27 ρ27 hc9 => ?_)
    obtain ⟨rfl, rfl, rfl⟩ := hc9
    refine g_istore 32 dX7_sweep_30 rfl (by decide) ?_
    refine g_iload_n 33 dX7_sweep_32 rfl rfl ?_
    refine g_tabIn 70 dX7_sweep_33 (by decide) (by decide) rfl (by decide) ?_
    refine g_iload_n 71 dX7_sweep_70 rfl rfl ?_
    exact g_ri dX7_sweep_71 rfl rfl ⟨rfl, rfl, hok, hz, hfr⟩
  · exact (q_b_0.mp h4 (q_stageI hi)).elim
set_option maxRecDepth 100000 in
set_option maxHeartbeats 4000000 in
theorem c_swp_2 {I : q_I} (hV : q_IV μ b I) (hst : μ 0 9 = 1 ∨ (μ 0 9 = 0 ∧ q_OK μ I)) {i : Nat} (hi : i < 7) : q_Ct C l FX7_sweep 15 142 142 [.ref (q_a C 0), .int (nI i), .int 2] μ (q_ρ b) (q_PI fun v μ' ρ' => (if q_pc (i_bd I i) ≤ 0 then -1 else i_come I i (q_pc (i_bd I i))) = v ∧ q_ρ b = ρ' ∧ q_OK μ' I ∧ μ' 0 9 = 0 ∧ (∀ c j, (c < 13 ∨ 68 < c) → ¬ (c = 0 ∧ j = 9) → μ' c j = μ c j)) := by
  refine q_entry rfl (by decide) (Nat.le_of_ble_eq_true rfl) ?_
  refine g_lv [(0, _), (1, _), (2, _)] rfl ?_
  refine g_iload_n 1 dX7_sweep_0 rfl rfl ?_
  refine g_Si 4 [_] _ dX7_sweep_1 rfl m_X7_isStage l_X7_84 rfl (c_isStage _) rfl (Nat.le_of_ble_eq_true rfl) (by decide) (fun v1 μ1 ρ1 hc9 => ?_)
  obtain ⟨rfl, rfl, rfl⟩ := hc9
  refine g_if_ne 9 7 dX7_sweep_4 rfl (by decide) (fun h4 => ?_) (fun h4 => ?_)
  · refine g_aload_n 10 dX7_sweep_9 rfl rfl ?_
    refine g_Vv 13 [] _ dX7_sweep_10 rfl m_X7_settle l_X7_136 rfl rfl rfl (by decide) (c_settle hV hst) rfl (Nat.le_of_ble_eq_true rfl) (by decide) (fun μ10 ρ10 hc9 => ?_)
    obtain ⟨rfl, hok, hz, hfr⟩ := hc9
    refine g_aload_n 14 dX7_sweep_13 rfl rfl ?_
    refine g_getR 17 _ dX7_sweep_14 rfl f_X7_40 (by decide) rfl rfl rfl ?_
    refine g_iload_n 18 dX7_sweep_17 rfl rfl ?_
    refine g_aload_n 19 dX7_sweep_18 rfl rfl ?_
    refine g_getR 22 _ dX7_sweep_19 rfl f_X7_19 (by decide) rfl rfl rfl ?_
    refine g_Vi 25 [_, _] _ dX7_sweep_22 rfl m_X3_brokenDown l_X7_185 rfl rfl rfl (by decide) (c_brk (m := i_cnt I) hi hV.2.1 (by rw [hfr 4 3 (by decide) (by decide)]; exact hV.2.2.1)) rfl (Nat.le_of_ble_eq_true rfl) (by decide) (fun v22 μ22 ρ22 hc9 => ?_)
    obtain ⟨rfl, rfl, rfl⟩ := hc9
    have hcn := hV.2.1
    rw [show q_bd (μ10 6) (μ10 (21 + i)) i (i_cnt I) = i_bd I i from q_bd_congr _ (fun r hr => ⟨by rw [hfr 6 r (by decide) (by omega), ← hV.1]; rfl, (hok.1 i hi).2.1 r (by omega)⟩)]
    refine g_istore_n 26 dX7_sweep_25 rfl (by decide) ?_
    refine g_iload_n 27 dX7_sweep_26 rfl rfl ?_
    refine g_Si 30 [_] _ dX7_sweep_27 rfl m_J6_bitCount_0f7a4 l_X7_189 rfl (c_bit _) rfl (Nat.le_of_ble_eq_true rfl) (by decide) (fun v27 μ27 ρ27 hc9 => ?_)
    obtain ⟨rfl, rfl, rfl⟩ := hc9
    refine g_istore 32 dX7_sweep_30 rfl (by decide) ?_
    refine g_iload_n 33 dX7_sweep_32 rfl rfl ?_
    refine g_tabIn 72 dX7_sweep_33 (by decide) (by decide) rfl (by decide) ?_
    refine g_iload 74 dX7_sweep_72 rfl rfl ?_
    refine g_if_le 87 77 dX7_sweep_74 rfl (by decide) (fun h74 => ?_) (fun h74 => ?_)
    · refine g_iconst 88 (-1) dX7_sweep_87 rfl (by decide) ?_
      exact g_ri dX7_sweep_88 rfl rfl ⟨if_pos h74, rfl, hok, hz, hfr⟩
    · refine g_aload_n 78 dX7_sweep_77 rfl rfl ?_
      refine g_iload_n 79 dX7_sweep_78 rfl rfl ?_
      refine g_iload 81 dX7_sweep_79 rfl rfl ?_
      refine g_Vi 84 [_, _] _ dX7_sweep_81 rfl m_X7_sweepersCome l_X7_196 rfl rfl rfl (by decide) (c_scome _ hi) rfl (Nat.le_of_ble_eq_true rfl) (by decide) (fun v81 μ81 ρ81 hc9 => ?_)
      obtain ⟨rfl, rfl, rfl⟩ := hc9
      rw [(hok.1 i hi).2.2.2.2.2.2.2.2, (hok.1 i hi).2.2.2.2.2.2.2.1, hfr 2 i (by decide) (by omega), show μ 2 i = i_len I i from by rw [← hV.1]; rfl]
      refine g_goto 88 dX7_sweep_84 (by decide) ?_
      exact g_ri dX7_sweep_88 rfl rfl ⟨if_neg h74, rfl, hok, hz, hfr⟩
  · exact (q_b_0.mp h4 (q_stageI hi)).elim
set_option maxRecDepth 100000 in
set_option maxHeartbeats 4000000 in
theorem c_swp_o {I : q_I} (hV : q_IV μ b I) (hst : μ 0 9 = 1 ∨ (μ 0 9 = 0 ∧ q_OK μ I)) {i : Nat} {k : Int32} (hi : i < 7) (hk : ¬ q_in k 0 2) : q_Ct C l FX7_sweep 15 142 142 [.ref (q_a C 0), .int (nI i), .int k] μ (q_ρ b) (q_PI fun v μ' ρ' => (-1) = v ∧ q_ρ b = ρ' ∧ q_OK μ' I ∧ μ' 0 9 = 0 ∧ (∀ c j, (c < 13 ∨ 68 < c) → ¬ (c = 0 ∧ j = 9) → μ' c j = μ c j)) := by
  refine q_entry rfl (by decide) (Nat.le_of_ble_eq_true rfl) ?_
  refine g_lv [(0, _), (1, _), (2, _)] rfl ?_
  refine g_iload_n 1 dX7_sweep_0 rfl rfl ?_
  refine g_Si 4 [_] _ dX7_sweep_1 rfl m_X7_isStage l_X7_84 rfl (c_isStage _) rfl (Nat.le_of_ble_eq_true rfl) (by decide) (fun v1 μ1 ρ1 hc9 => ?_)
  obtain ⟨rfl, rfl, rfl⟩ := hc9
  refine g_if_ne 9 7 dX7_sweep_4 rfl (by decide) (fun h4 => ?_) (fun h4 => ?_)
  · refine g_aload_n 10 dX7_sweep_9 rfl rfl ?_
    refine g_Vv 13 [] _ dX7_sweep_10 rfl m_X7_settle l_X7_136 rfl rfl rfl (by decide) (c_settle hV hst) rfl (Nat.le_of_ble_eq_true rfl) (by decide) (fun μ10 ρ10 hc9 => ?_)
    obtain ⟨rfl, hok, hz, hfr⟩ := hc9
    refine g_aload_n 14 dX7_sweep_13 rfl rfl ?_
    refine g_getR 17 _ dX7_sweep_14 rfl f_X7_40 (by decide) rfl rfl rfl ?_
    refine g_iload_n 18 dX7_sweep_17 rfl rfl ?_
    refine g_aload_n 19 dX7_sweep_18 rfl rfl ?_
    refine g_getR 22 _ dX7_sweep_19 rfl f_X7_19 (by decide) rfl rfl rfl ?_
    refine g_Vi 25 [_, _] _ dX7_sweep_22 rfl m_X3_brokenDown l_X7_185 rfl rfl rfl (by decide) (c_brk (m := i_cnt I) hi hV.2.1 (by rw [hfr 4 3 (by decide) (by decide)]; exact hV.2.2.1)) rfl (Nat.le_of_ble_eq_true rfl) (by decide) (fun v22 μ22 ρ22 hc9 => ?_)
    obtain ⟨rfl, rfl, rfl⟩ := hc9
    have hcn := hV.2.1
    rw [show q_bd (μ10 6) (μ10 (21 + i)) i (i_cnt I) = i_bd I i from q_bd_congr _ (fun r hr => ⟨by rw [hfr 6 r (by decide) (by omega), ← hV.1]; rfl, (hok.1 i hi).2.1 r (by omega)⟩)]
    refine g_istore_n 26 dX7_sweep_25 rfl (by decide) ?_
    refine g_iload_n 27 dX7_sweep_26 rfl rfl ?_
    refine g_Si 30 [_] _ dX7_sweep_27 rfl m_J6_bitCount_0f7a4 l_X7_189 rfl (c_bit _) rfl (Nat.le_of_ble_eq_true rfl) (by decide) (fun v27 μ27 ρ27 hc9 => ?_)
    obtain ⟨rfl, rfl, rfl⟩ := hc9
    refine g_istore 32 dX7_sweep_30 rfl (by decide) ?_
    refine g_iload_n 33 dX7_sweep_32 rfl rfl ?_
    have h9 : k.toInt < 0 ∨ 2 < k.toInt := by
      have e1 : q_in k 0 2 ↔ ((0 : Int32).toInt ≤ k.toInt ∧ k.toInt ≤ (2 : Int32).toInt) := by simp only [q_in, Int32.le_iff_toInt_le]
      rw [e1] at hk
      have e2 : (0 : Int32).toInt = 0 := rfl
      have e3 : (2 : Int32).toInt = 2 := rfl
      omega
    refine g_tabOut 89 dX7_sweep_33 h9 (by decide) ?_
    refine g_iconst 90 (-1) dX7_sweep_89 rfl (by decide) ?_
    exact g_ri dX7_sweep_90 rfl rfl ⟨rfl, rfl, hok, hz, hfr⟩
  · exact (q_b_0.mp h4 (q_stageI hi)).elim
set_option maxRecDepth 100000 in
set_option maxHeartbeats 4000000 in
theorem c_swp_n {i k : Int32} (h : ¬ q_in i 0 6) : q_Ct C l FX7_sweep 15 142 142 [.ref (q_a C 0), .int i, .int k] μ (q_ρ b) (q_is (-1) μ (q_ρ b)) := by
  refine q_entry rfl (by decide) (Nat.le_of_ble_eq_true rfl) ?_
  refine g_lv [(0, _), (1, _), (2, _)] rfl ?_
  refine g_iload_n 1 dX7_sweep_0 rfl rfl ?_
  refine g_Si 4 [_] _ dX7_sweep_1 rfl m_X7_isStage l_X7_84 rfl (c_isStage _) rfl (Nat.le_of_ble_eq_true rfl) (by decide) (fun v1 μ1 ρ1 hc9 => ?_)
  obtain ⟨rfl, rfl, rfl⟩ := hc9
  refine g_if_ne 9 7 dX7_sweep_4 rfl (by decide) (fun h4 => ?_) (fun h4 => ?_)
  · exact (h (q_b_n.mp h4)).elim
  · refine g_iconst 8 (-1) dX7_sweep_7 rfl (by decide) ?_
    exact g_ri dX7_sweep_8 rfl rfl ⟨rfl, rfl, rfl⟩
end SW
