/-! ===== kitchens: pure ===== -/
def q_fa (ar : Nat → Int32) (o : Nat → Nat) : Nat → Int32
  | 0 => -1
  | k + 1 => if q_fa ar o k = -1 then ar (o k) else q_mn (q_fa ar o k) (ar (o k))
def q_lb (ar : Nat → Int32) (o : Nat → Nat) : Nat → Int32
  | 0 => -1
  | k + 1 => if q_lb ar o k < ar (o k) then ar (o k) else q_lb ar o k
/-- camp c can be done by a set that did camp a -/
def q_cn (op cl km : Nat → Int32) (pc : Int32) (c a : Nat) : Bool := decide (cl a + q_dv ((km c - km a).toInt64 * 60) pc.toInt64 ≤ op c)
/-- the first of n sets, from s on, with which it goes on -/
def q_ft (T : Nat → Option (Nat → Nat)) : Nat → Nat → Option (Nat → Nat)
  | 0, _ => none
  | n + 1, s => match T s with
    | some g => some g
    | none => q_ft T n (s + 1)
def q_la (la : Nat → Nat) (s c : Nat) : Nat → Nat := fun t => if t = s then c else la t
/-- camps c .. of f in all, shared out as the class does -/
def q_se (can : Nat → Nat → Bool) (most : Nat) : Nat → Nat → Nat → (Nat → Nat) → Option (Nat → Nat)
  | 0, _, _, _ => some (fun _ => 0)
  | f + 1, c, used, la => q_ft (fun s => if s = used ∨ can c (la s) = true then (q_se can most f (c + 1) (if s = used then used + 1 else used) (q_la la s c)).map (fun g x => if x = c then s else g x) else none) (min (used + 1) most) 0
abbrev q_tr1 (can : Nat → Nat → Bool) (most f c used : Nat) (la : Nat → Nat) (s : Nat) : Option (Nat → Nat) := if s = used ∨ can c (la s) = true then (q_se can most f (c + 1) (if s = used then used + 1 else used) (q_la la s c)).map (fun g x => if x = c then s else g x) else none
def q_shP (N c : Nat) (res : Option (Nat → Nat)) (μ : q_M) (v : Int32) (μ' : q_M) : Prop :=
  (∀ cc j, cc ≠ 66 → cc ≠ 68 → μ' cc j = μ cc j) ∧ (∀ x, x < c → μ' 66 x = μ 66 x) ∧
  match res with
  | some g => v = 1 ∧ ∀ x, c ≤ x → x ≤ N → μ' 66 x = nI (g x)
  | none => v = 0 ∧ ∀ s, μ' 68 s = μ 68 s
/-- what the search reads and leaves -/
def q_KF (μ : q_M) (N : Nat) (op cl km : Nat → Int32) (pc : Int32) : Prop := μ 63 6 = nI N ∧ μ 63 7 = pc ∧ μ 64 = op ∧ μ 65 = cl ∧ μ 67 = km
theorem q_KF.of {μ μ' : q_M} {N : Nat} {op cl km : Nat → Int32} {pc : Int32} (h : q_KF μ N op cl km pc) (hf : ∀ cc j, cc ≠ 66 → cc ≠ 68 → μ' cc j = μ cc j) : q_KF μ' N op cl km pc := by
  obtain ⟨h1, h2, h3, h4, h5⟩ := h
  exact ⟨by rw [hf _ _ (by decide) (by decide)]; exact h1, by rw [hf _ _ (by decide) (by decide)]; exact h2, by rw [← h3]; funext j; exact hf _ _ (by decide) (by decide), by rw [← h4]; funext j; exact hf _ _ (by decide) (by decide), by rw [← h5]; funext j; exact hf _ _ (by decide) (by decide)⟩
section KT
variable {C : q_C} {l : Launch} {μ : q_M} {b : Bool}
set_option maxRecDepth 100000 in
set_option maxHeartbeats 4000000 in
theorem lp_fa {i m : Nat} {o : Nat → Nat} (hi : i < 7) (hm : m ≤ 10) (hcm : μ 60 i = nI m) (ho : ∀ j, j < m → μ (53 + i) j = nI (o j) ∧ o j < 10) : ∀ k k2, k2 + k = m → q_G C l FX3_firstArrival 2 142 142 (q_is (q_fa (μ (29 + i)) o m) μ (q_ρ b)) 142 μ (q_ρ b) [(0, .ref (q_a C 11)), (1, .int (nI i)), (2, .int (q_fa (μ (29 + i)) o k2)), (3, .int (nI k2))] [] 4 := by
  intro k
  induction k with
  | zero =>
    intro k2 hK9
    refine g_iload_n 5 dX3_firstArrival_4 rfl rfl ?_
    refine g_SNi 8 [_] _ dX3_firstArrival_5 rfl m_X7_isStage l_X3_73 rfl (c_isStage _) rfl (Nat.le_of_ble_eq_true rfl) (by decide) (fun v5 μ5 ρ5 hc9 => ?_)
    obtain ⟨rfl, rfl, rfl⟩ := hc9
    refine g_if_eq 61 11 dX3_firstArrival_8 rfl (by decide) (fun h8 => ?_) (fun h8 => ?_)
    · exact (q_b_0.mp h8 (q_stageI hi)).elim
    · refine g_iload_n 12 dX3_firstArrival_11 rfl rfl ?_
      refine g_aload_n 13 dX3_firstArrival_12 rfl rfl ?_
      refine g_getR 16 _ dX3_firstArrival_13 rfl f_X3_31 (by decide) rfl rfl rfl ?_
      refine g_iload_n 17 dX3_firstArrival_16 rfl rfl ?_
      refine g_iald 18 dX3_firstArrival_17 rfl (by decide) rfl (vp_in_nI hi (by omega)) ?_
      rw [nI_clamp (show i < 2 ^ 31 by omega), hcm]
      refine g_icmp_ge 61 21 dX3_firstArrival_18 rfl (by decide) (fun h18 => ?_) (fun h18 => ?_)
      · refine g_iload_n 62 dX3_firstArrival_61 rfl rfl ?_
        exact g_ri dX3_firstArrival_62 rfl rfl ⟨by rw [show k2 = m by omega], rfl, rfl⟩
      · exact absurd (nI_le (by omega) (by omega)) h18
  | succ k ih =>
    intro k2 hK9
    refine g_iload_n 5 dX3_firstArrival_4 rfl rfl ?_
    refine g_SNi 8 [_] _ dX3_firstArrival_5 rfl m_X7_isStage l_X3_73 rfl (c_isStage _) rfl (Nat.le_of_ble_eq_true rfl) (by decide) (fun v5 μ5 ρ5 hc9 => ?_)
    obtain ⟨rfl, rfl, rfl⟩ := hc9
    refine g_if_eq 61 11 dX3_firstArrival_8 rfl (by decide) (fun h8 => ?_) (fun h8 => ?_)
    · exact (q_b_0.mp h8 (q_stageI hi)).elim
    · refine g_iload_n 12 dX3_firstArrival_11 rfl rfl ?_
      refine g_aload_n 13 dX3_firstArrival_12 rfl rfl ?_
      refine g_getR 16 _ dX3_firstArrival_13 rfl f_X3_31 (by decide) rfl rfl rfl ?_
      refine g_iload_n 17 dX3_firstArrival_16 rfl rfl ?_
      refine g_iald 18 dX3_firstArrival_17 rfl (by decide) rfl (vp_in_nI hi (by omega)) ?_
      rw [nI_clamp (show i < 2 ^ 31 by omega), hcm]
      refine g_icmp_ge 61 21 dX3_firstArrival_18 rfl (by decide) (fun h18 => ?_) (fun h18 => ?_)
      · exact absurd h18 (nI_ge (by omega) (by omega))
      · refine g_aload_n 22 dX3_firstArrival_21 rfl rfl ?_
        refine g_getR 25 _ dX3_firstArrival_22 rfl f_X3_19 (by decide) rfl rfl rfl ?_
        refine g_iload_n 26 dX3_firstArrival_25 rfl rfl ?_
        refine g_aald 27 _ dX3_firstArrival_26 rfl (by decide) rfl (vp_in_nI hi (by omega)) rfl ?_
        rw [nI_clamp (show i < 2 ^ 31 by omega)]
        refine g_aload_n 28 dX3_firstArrival_27 rfl rfl ?_
        refine g_getR 31 _ dX3_firstArrival_28 rfl f_X3_28 (by decide) rfl rfl rfl ?_
        refine g_iload_n 32 dX3_firstArrival_31 rfl rfl ?_
        refine g_aald 33 _ dX3_firstArrival_32 rfl (by decide) rfl (vp_in_nI hi (by omega)) rfl ?_
        rw [nI_clamp (show i < 2 ^ 31 by omega)]
        refine g_iload_n 34 dX3_firstArrival_33 rfl rfl ?_
        refine g_iald 35 dX3_firstArrival_34 rfl (by omega) (k_53 i hi) (vp_in_nI (show k2 < 10 by omega) (by omega)) ?_
        rw [nI_clamp (show k2 < 2 ^ 31 by omega), (ho k2 (by omega)).1]
        refine g_iald 36 dX3_firstArrival_35 rfl (by omega) (k_29 i hi) (vp_in_nI (ho k2 (by omega)).2 (by omega)) ?_
        rw [nI_clamp (show o k2 < 2 ^ 31 from by have := (ho k2 (by omega)).2; omega)]
        refine g_istore 38 dX3_firstArrival_36 rfl (by decide) ?_
        refine g_iload_n 39 dX3_firstArrival_38 rfl rfl ?_
        refine g_iconst 40 (-1) dX3_firstArrival_39 rfl (by decide) ?_
        refine g_icmp_ne 48 43 dX3_firstArrival_40 rfl (by decide) (fun h40 => ?_) (fun h40 => ?_)
        · refine g_iload_n 49 dX3_firstArrival_48 rfl rfl ?_
          refine g_iload 51 dX3_firstArrival_49 rfl rfl ?_
          refine g_min 54 dX3_firstArrival_51 rfl a_X3_80 a_min_s a_ini a_min_c (by decide) (Nat.le_of_ble_eq_true rfl) ?_
          refine g_istore_n 55 dX3_firstArrival_54 rfl (by decide) ?_
          refine g_iinc 58 (_ + 1) dX3_firstArrival_55 rfl rfl rfl (by decide) ?_
          refine g_goto 4 dX3_firstArrival_58 (by decide) ?_
          rw [nI_1]
          refine g_lv [(0, _), (1, _), (2, _), (3, _)] rfl ?_
          have h9 := ih (k2 + 1) (by omega)
          rw [q_fa, if_neg h40] at h9
          exact h9
        · refine g_iload 45 dX3_firstArrival_43 rfl rfl ?_
          refine g_goto 54 dX3_firstArrival_45 (by decide) ?_
          refine g_istore_n 55 dX3_firstArrival_54 rfl (by decide) ?_
          refine g_iinc 58 (_ + 1) dX3_firstArrival_55 rfl rfl rfl (by decide) ?_
          refine g_goto 4 dX3_firstArrival_58 (by decide) ?_
          rw [nI_1]
          refine g_lv [(0, _), (1, _), (2, _), (3, _)] rfl ?_
          have h9 := ih (k2 + 1) (by omega)
          rw [q_fa, if_pos h40] at h9
          exact h9
set_option maxRecDepth 100000 in
set_option maxHeartbeats 4000000 in
theorem c_fa {i m : Nat} {o : Nat → Nat} (hi : i < 7) (hm : m ≤ 10) (hcm : μ 60 i = nI m) (ho : ∀ j, j < m → μ (53 + i) j = nI (o j) ∧ o j < 10) : q_Ct C l FX3_firstArrival 2 142 142 [.ref (q_a C 11), .int (nI i)] μ (q_ρ b) (q_is (q_fa (μ (29 + i)) o m) μ (q_ρ b)) := by
  refine q_entry rfl (by decide) (Nat.le_of_ble_eq_true rfl) ?_
  refine g_lv [(0, _), (1, _)] rfl ?_
  refine g_iconst 1 (-1) dX3_firstArrival_0 rfl (by decide) ?_
  refine g_istore_n 2 dX3_firstArrival_1 rfl (by decide) ?_
  refine g_iconst 3 0 dX3_firstArrival_2 rfl (by decide) ?_
  refine g_istore_n 4 dX3_firstArrival_3 rfl (by decide) ?_
  refine g_lv [(0, _), (1, _), (2, _), (3, .int (nI 0))] rfl ?_
  exact lp_fa hi hm hcm ho m 0 (by omega)
set_option maxRecDepth 100000 in
set_option maxHeartbeats 4000000 in
theorem lp_lb {i m : Nat} {o : Nat → Nat} (hi : i < 7) (hm : m ≤ 10) (hcm : μ 60 i = nI m) (ho : ∀ j, j < m → μ (53 + i) j = nI (o j) ∧ o j < 10) : ∀ k k2, k2 + k = m → q_G C l FX3_lastArrival 2 142 142 (q_is (q_lb (μ (29 + i)) o m) μ (q_ρ b)) 142 μ (q_ρ b) [(0, .ref (q_a C 11)), (1, .int (nI i)), (2, .int (q_lb (μ (29 + i)) o k2)), (3, .int (nI k2))] [] 4 := by
  intro k
  induction k with
  | zero =>
    intro k2 hK9
    refine g_iload_n 5 dX3_lastArrival_4 rfl rfl ?_
    refine g_SNi 8 [_] _ dX3_lastArrival_5 rfl m_X7_isStage l_X3_73 rfl (c_isStage _) rfl (Nat.le_of_ble_eq_true rfl) (by decide) (fun v5 μ5 ρ5 hc9 => ?_)
    obtain ⟨rfl, rfl, rfl⟩ := hc9
    refine g_if_eq 47 11 dX3_lastArrival_8 rfl (by decide) (fun h8 => ?_) (fun h8 => ?_)
    · exact (q_b_0.mp h8 (q_stageI hi)).elim
    · refine g_iload_n 12 dX3_lastArrival_11 rfl rfl ?_
      refine g_aload_n 13 dX3_lastArrival_12 rfl rfl ?_
      refine g_getR 16 _ dX3_lastArrival_13 rfl f_X3_31 (by decide) rfl rfl rfl ?_
      refine g_iload_n 17 dX3_lastArrival_16 rfl rfl ?_
      refine g_iald 18 dX3_lastArrival_17 rfl (by decide) rfl (vp_in_nI hi (by omega)) ?_
      rw [nI_clamp (show i < 2 ^ 31 by omega), hcm]
      refine g_icmp_ge 47 21 dX3_lastArrival_18 rfl (by decide) (fun h18 => ?_) (fun h18 => ?_)
      · refine g_iload_n 48 dX3_lastArrival_47 rfl rfl ?_
        exact g_ri dX3_lastArrival_48 rfl rfl ⟨by rw [show k2 = m by omega], rfl, rfl⟩
      · exact absurd (nI_le (by omega) (by omega)) h18
  | succ k ih =>
    intro k2 hK9
    refine g_iload_n 5 dX3_lastArrival_4 rfl rfl ?_
    refine g_SNi 8 [_] _ dX3_lastArrival_5 rfl m_X7_isStage l_X3_73 rfl (c_isStage _) rfl (Nat.le_of_ble_eq_true rfl) (by decide) (fun v5 μ5 ρ5 hc9 => ?_)
    obtain ⟨rfl, rfl, rfl⟩ := hc9
    refine g_if_eq 47 11 dX3_lastArrival_8 rfl (by decide) (fun h8 => ?_) (fun h8 => ?_)
    · exact (q_b_0.mp h8 (q_stageI hi)).elim
    · refine g_iload_n 12 dX3_lastArrival_11 rfl rfl ?_
      refine g_aload_n 13 dX3_lastArrival_12 rfl rfl ?_
      refine g_getR 16 _ dX3_lastArrival_13 rfl f_X3_31 (by decide) rfl rfl rfl ?_
      refine g_iload_n 17 dX3_lastArrival_16 rfl rfl ?_
      refine g_iald 18 dX3_lastArrival_17 rfl (by decide) rfl (vp_in_nI hi (by omega)) ?_
      rw [nI_clamp (show i < 2 ^ 31 by omega), hcm]
      refine g_icmp_ge 47 21 dX3_lastArrival_18 rfl (by decide) (fun h18 => ?_) (fun h18 => ?_)
      · exact absurd h18 (nI_ge (by omega) (by omega))
      · refine g_iload_n 22 dX3_lastArrival_21 rfl rfl ?_
        refine g_aload_n 23 dX3_lastArrival_22 rfl rfl ?_
        refine g_getR 26 _ dX3_lastArrival_23 rfl f_X3_19 (by decide) rfl rfl rfl ?_
        refine g_iload_n 27 dX3_lastArrival_26 rfl rfl ?_
        refine g_aald 28 _ dX3_lastArrival_27 rfl (by decide) rfl (vp_in_nI hi (by omega)) rfl ?_
        rw [nI_clamp (show i < 2 ^ 31 by omega)]
        refine g_aload_n 29 dX3_lastArrival_28 rfl rfl ?_
        refine g_getR 32 _ dX3_lastArrival_29 rfl f_X3_28 (by decide) rfl rfl rfl ?_
        refine g_iload_n 33 dX3_lastArrival_32 rfl rfl ?_
        refine g_aald 34 _ dX3_lastArrival_33 rfl (by decide) rfl (vp_in_nI hi (by omega)) rfl ?_
        rw [nI_clamp (show i < 2 ^ 31 by omega)]
        refine g_iload_n 35 dX3_lastArrival_34 rfl rfl ?_
        refine g_iald 36 dX3_lastArrival_35 rfl (by omega) (k_53 i hi) (vp_in_nI (show k2 < 10 by omega) (by omega)) ?_
        rw [nI_clamp (show k2 < 2 ^ 31 by omega), (ho k2 (by omega)).1]
        refine g_iald 37 dX3_lastArrival_36 rfl (by omega) (k_29 i hi) (vp_in_nI (ho k2 (by omega)).2 (by omega)) ?_
        rw [nI_clamp (show o k2 < 2 ^ 31 from by have := (ho k2 (by omega)).2; omega)]
        refine g_max 40 dX3_lastArrival_37 rfl a_X3_86 a_max_s a_ini a_max_c (by decide) (Nat.le_of_ble_eq_true rfl) ?_
        refine g_istore_n 41 dX3_lastArrival_40 rfl (by decide) ?_
        refine g_iinc 44 (_ + 1) dX3_lastArrival_41 rfl rfl rfl (by decide) ?_
        refine g_goto 4 dX3_lastArrival_44 (by decide) ?_
        rw [nI_1]
        refine g_lv [(0, _), (1, _), (2, _), (3, _)] rfl ?_
        have h9 := ih (k2 + 1) (by omega)
        rw [q_lb] at h9
        exact h9
set_option maxRecDepth 100000 in
set_option maxHeartbeats 4000000 in
theorem c_lb {i m : Nat} {o : Nat → Nat} (hi : i < 7) (hm : m ≤ 10) (hcm : μ 60 i = nI m) (ho : ∀ j, j < m → μ (53 + i) j = nI (o j) ∧ o j < 10) : q_Ct C l FX3_lastArrival 2 142 142 [.ref (q_a C 11), .int (nI i)] μ (q_ρ b) (q_is (q_lb (μ (29 + i)) o m) μ (q_ρ b)) := by
  refine q_entry rfl (by decide) (Nat.le_of_ble_eq_true rfl) ?_
  refine g_lv [(0, _), (1, _)] rfl ?_
  refine g_iconst 1 (-1) dX3_lastArrival_0 rfl (by decide) ?_
  refine g_istore_n 2 dX3_lastArrival_1 rfl (by decide) ?_
  refine g_iconst 3 0 dX3_lastArrival_2 rfl (by decide) ?_
  refine g_istore_n 4 dX3_lastArrival_3 rfl (by decide) ?_
  refine g_lv [(0, _), (1, _), (2, _), (3, .int (nI 0))] rfl ?_
  exact lp_lb hi hm hcm ho m 0 (by omega)
set_option maxRecDepth 100000 in
set_option maxHeartbeats 4000000 in
theorem c_canDo {c a : Nat} (hc : c < 8) (ha : a < 8) : q_Ct C l FX2_canDo 2 142 142 [.ref (q_a C 63), .int (nI c), .int (nI a)] μ (q_ρ b) (q_is (q_b (q_cn (μ 64) (μ 65) (μ 67) (μ 63 7) c a = true)) μ (q_ρ b)) := by
  refine q_entry rfl (by decide) (Nat.le_of_ble_eq_true rfl) ?_
  refine g_lv [(0, _), (1, _), (2, _)] rfl ?_
  refine g_aload_n 1 dX2_canDo_0 rfl rfl ?_
  refine g_getR 4 _ dX2_canDo_1 rfl f_X2_21 (by decide) rfl rfl rfl ?_
  refine g_iload_n 5 dX2_canDo_4 rfl rfl ?_
  refine g_iald 6 dX2_canDo_5 rfl (by decide) rfl (vp_in_nI hc (by omega)) ?_
  rw [nI_clamp (show c < 2 ^ 31 by omega)]
  refine g_aload_n 7 dX2_canDo_6 rfl rfl ?_
  refine g_getR 10 _ dX2_canDo_7 rfl f_X2_21 (by decide) rfl rfl rfl ?_
  refine g_iload_n 11 dX2_canDo_10 rfl rfl ?_
  refine g_iald 12 dX2_canDo_11 rfl (by decide) rfl (vp_in_nI ha (by omega)) ?_
  rw [nI_clamp (show a < 2 ^ 31 by omega)]
  refine g_isub 13 dX2_canDo_12 rfl ?_
  refine g_aload_n 14 dX2_canDo_13 rfl rfl ?_
  refine g_getI 17 dX2_canDo_14 rfl f_X2_31 (by decide) rfl rfl ?_
  refine g_SNi 20 [_, _] _ dX2_canDo_17 rfl m_X7_minutesFor l_X2_66 rfl (c_minFor _ _) rfl (Nat.le_of_ble_eq_true rfl) (by decide) (fun v17 μ17 ρ17 hc9 => ?_)
  obtain ⟨rfl, rfl, rfl⟩ := hc9
  refine g_istore_n 21 dX2_canDo_20 rfl (by decide) ?_
  refine g_aload_n 22 dX2_canDo_21 rfl rfl ?_
  refine g_getR 25 _ dX2_canDo_22 rfl f_X2_15 (by decide) rfl rfl rfl ?_
  refine g_iload_n 26 dX2_canDo_25 rfl rfl ?_
  refine g_iald 27 dX2_canDo_26 rfl (by decide) rfl (vp_in_nI ha (by omega)) ?_
  rw [nI_clamp (show a < 2 ^ 31 by omega)]
  refine g_iload_n 28 dX2_canDo_27 rfl rfl ?_
  refine g_iadd 29 dX2_canDo_28 rfl ?_
  refine g_aload_n 30 dX2_canDo_29 rfl rfl ?_
  refine g_getR 33 _ dX2_canDo_30 rfl f_X2_9 (by decide) rfl rfl rfl ?_
  refine g_iload_n 34 dX2_canDo_33 rfl rfl ?_
  refine g_iald 35 dX2_canDo_34 rfl (by decide) rfl (vp_in_nI hc (by omega)) ?_
  rw [nI_clamp (show c < 2 ^ 31 by omega)]
  refine g_icmp_gt 42 38 dX2_canDo_35 rfl (by decide) (fun h35 => ?_) (fun h35 => ?_)
  · refine g_iconst 43 0 dX2_canDo_42 rfl (by decide) ?_
    exact g_rz dX2_canDo_43 rfl (by first | exact Or.inl rfl | exact Or.inr rfl | assumption) rfl ⟨q_b_f (fun q => absurd (of_decide_eq_true q) (Int32.not_le.mpr h35)), rfl, rfl⟩
  · refine g_iconst 39 1 dX2_canDo_38 rfl (by decide) ?_
    refine g_goto 43 dX2_canDo_39 (by decide) ?_
    exact g_rz dX2_canDo_43 rfl (by first | exact Or.inl rfl | exact Or.inr rfl | assumption) rfl ⟨q_b_t (decide_eq_true (Int32.not_lt.mp h35)), rfl, rfl⟩
theorem q_shP_some {N c : Nat} {res : Option (Nat → Nat)} {μ μ' : q_M} {v : Int32} (h : q_shP N c res μ v μ') (hv : ¬ v = 0) : ∃ g, res = some g ∧ v = 1 ∧ ∀ x, c ≤ x → x ≤ N → μ' 66 x = nI (g x) := by
  obtain ⟨h1, h2, h3⟩ := h
  cases res with
  | none => exact absurd h3.1 hv
  | some g => exact ⟨g, rfl, h3.1, h3.2⟩
theorem q_shP_none {N c : Nat} {res : Option (Nat → Nat)} {μ μ' : q_M} {v : Int32} (h : q_shP N c res μ v μ') (hv : v = 0) : res = none ∧ ∀ s, μ' 68 s = μ 68 s := by
  obtain ⟨h1, h2, h3⟩ := h
  cases res with
  | none => exact ⟨rfl, h3.2⟩
  | some g => exact absurd (h3.1.symm.trans hv) (by decide)
set_option maxRecDepth 100000 in
set_option maxHeartbeats 8000000 in
theorem lp_share {N most f c used : Nat} {op cl km : Nat → Int32} {pc : Int32} {la : Nat → Nat} {μ0 : q_M} (hN : N ≤ 7) (hmo : most ≤ 7) (hc1 : 1 ≤ c) (hcN : c + f = N) (hu : used < c) (hKF : q_KF μ0 N op cl km pc) (hla : ∀ s, s < used → μ0 68 s = nI (la s) ∧ la s < c) (hrec : ∀ used2 la2 μ2, used2 ≤ c → q_KF μ2 N op cl km pc → (∀ s, s < used2 → μ2 68 s = nI (la2 s) ∧ la2 s ≤ c) → q_Ct C l FX2_share (3 + f) 142 142 [.ref (q_a C 63), .int (nI (c + 1)), .int (nI used2), .int (nI most)] μ2 (q_ρ b) (q_PI fun v μ' ρ' => q_ρ b = ρ' ∧ q_shP N (c + 1) (q_se (q_cn op cl km pc) most f (c + 1) used2 la2) μ2 v μ')) : ∀ n s, s + n = min (used + 1) most → ∀ μ, (∀ cc j, cc ≠ 66 → cc ≠ 68 → μ cc j = μ0 cc j) → (∀ x, x < c → μ 66 x = μ0 66 x) → (∀ s, μ 68 s = μ0 68 s) → q_G C l FX2_share (4 + f) 142 142 (q_PI fun v μ' ρ' => q_ρ b = ρ' ∧ q_shP N c (q_ft (q_tr1 (q_cn op cl km pc) most f c used la) n s) μ0 v μ') 142 μ (q_ρ b) [(0, .ref (q_a C 63)), (1, .int (nI c)), (2, .int (nI used)), (3, .int (nI most)), (4, .int (nI s))] [] 19 := by
  intro n
  induction n with
  | zero =>
    intro s hs μ hf h66 h68
    refine g_iload 21 dX2_share_19 rfl rfl ?_
    refine g_iload_n 22 dX2_share_21 rfl rfl ?_
    refine g_icmp_gt 120 25 dX2_share_22 rfl (by decide) (fun h22 => ?_) (fun h22 => ?_)
    · refine g_iconst 121 0 dX2_share_120 rfl (by decide) ?_
      exact g_rz dX2_share_121 rfl (by first | exact Or.inl rfl | exact Or.inr rfl | assumption) rfl ⟨rfl, hf, h66, rfl, h68⟩
    · refine g_iload 27 dX2_share_25 rfl rfl ?_
      refine g_iload_n 28 dX2_share_27 rfl rfl ?_
      refine g_icmp_ge 120 31 dX2_share_28 rfl (by decide) (fun h28 => ?_) (fun h28 => ?_)
      · refine g_iconst 121 0 dX2_share_120 rfl (by decide) ?_
        exact g_rz dX2_share_121 rfl (by first | exact Or.inl rfl | exact Or.inr rfl | assumption) rfl ⟨rfl, hf, h66, rfl, h68⟩
      · exact (h28 (nI_le (by
      rcases Nat.lt_or_ge used s with q1 | q1
      · exact absurd (nI_lt q1 (by omega)) h22
      · omega) (by omega))).elim
  | succ n ih =>
    intro s hs μ hf h66 h68
    have hsu : s ≤ used := by omega
    have hsm : s < most := by omega
    have hKFm := q_KF.of hKF hf
    refine g_iload 21 dX2_share_19 rfl rfl ?_
    refine g_iload_n 22 dX2_share_21 rfl rfl ?_
    refine g_icmp_gt 120 25 dX2_share_22 rfl (by decide) (fun h22 => ?_) (fun h22 => ?_)
    · exact absurd h22 (nI_nlt (by omega) (by omega))
    · refine g_iload 27 dX2_share_25 rfl rfl ?_
      refine g_iload_n 28 dX2_share_27 rfl rfl ?_
      refine g_icmp_ge 120 31 dX2_share_28 rfl (by decide) (fun h28 => ?_) (fun h28 => ?_)
      · exact absurd h28 (nI_ge (by omega) (by omega))
      · refine g_iload 33 dX2_share_31 rfl rfl ?_
        refine g_bipush 35 7 dX2_share_33 rfl (by decide) ?_
        refine g_icmp_ge 120 38 dX2_share_35 rfl (by decide) (fun h35 => ?_) (fun h35 => ?_)
        · exact absurd h35 (nI_ge (a := s) (b := 7) (by omega) (by omega))
        · refine g_aload_n 39 dX2_share_38 rfl rfl ?_
          refine g_getR 42 _ dX2_share_39 rfl f_X2_24 (by decide) rfl rfl rfl ?_
          refine g_iload 44 dX2_share_42 rfl rfl ?_
          refine g_iald 45 dX2_share_44 rfl (by decide) rfl (vp_in_nI (show s < 7 by omega) (by omega)) ?_
          rw [nI_clamp (show s < 2 ^ 31 by omega)]
          refine g_istore 47 dX2_share_45 rfl (by decide) ?_
          refine g_iload 49 dX2_share_47 rfl rfl ?_
          refine g_iload_n 50 dX2_share_49 rfl rfl ?_
          refine g_icmp_eq 63 53 dX2_share_50 rfl (by decide) (fun h50 => ?_) (fun h50 => ?_)
          · refine g_aload_n 64 dX2_share_63 rfl rfl ?_
            refine g_getR 67 _ dX2_share_64 rfl f_X2_18 (by decide) rfl rfl rfl ?_
            refine g_iload_n 68 dX2_share_67 rfl rfl ?_
            refine g_iload 70 dX2_share_68 rfl rfl ?_
            refine g_iast 71 dX2_share_70 rfl (by decide) rfl (vp_in_nI (show c < 8 by omega) (by omega)) ?_
            rw [nI_clamp (show c < 2 ^ 31 by omega)]
            refine g_aload_n 72 dX2_share_71 rfl rfl ?_
            refine g_getR 75 _ dX2_share_72 rfl f_X2_24 (by decide) rfl rfl rfl ?_
            refine g_iload 77 dX2_share_75 rfl rfl ?_
            refine g_iload_n 78 dX2_share_77 rfl rfl ?_
            refine g_iast 79 dX2_share_78 rfl (by decide) rfl (vp_in_nI (show s < 7 by omega) (by omega)) ?_
            rw [nI_clamp (show s < 2 ^ 31 by omega)]
            refine g_aload_n 80 dX2_share_79 rfl rfl ?_
            refine g_iload_n 81 dX2_share_80 rfl rfl ?_
            refine g_iconst 82 1 dX2_share_81 rfl (by decide) ?_
            refine g_iadd 83 dX2_share_82 rfl ?_
            refine g_iload 85 dX2_share_83 rfl rfl ?_
            refine g_iload_n 86 dX2_share_85 rfl rfl ?_
            refine g_icmp_ne 95 89 dX2_share_86 rfl (by decide) (fun h86 => ?_) (fun h86 => ?_)
            · exact absurd h50 h86
            · refine g_iload_n 90 dX2_share_89 rfl rfl ?_
              refine g_iconst 91 1 dX2_share_90 rfl (by decide) ?_
              refine g_iadd 92 dX2_share_91 rfl ?_
              refine g_goto 96 dX2_share_92 (by decide) ?_
              refine g_iload_n 97 dX2_share_96 rfl rfl ?_
              have hse : s = used := by
                rcases Nat.lt_or_ge s used with q | q
                · exact absurd h50 (fun z => absurd ((nI_eq (by omega) (by omega)).mp z) (by omega))
                · omega
              have hsw : ∀ cc j, cc ≠ 66 → cc ≠ 68 → (q_up (q_up μ 66 c (nI s)) 68 s (nI c)) cc j = μ cc j := fun cc j g1 g2 => by rw [q_upc g2, q_upc g1]
              have hl2 : ∀ t, t < used + 1 → (q_up (q_up μ 66 c (nI s)) 68 s (nI c)) 68 t = nI (q_la la s c t) ∧ q_la la s c t ≤ c := by
                intro t ht
                unfold q_la
                by_cases q : t = s
                · rw [if_pos q, q, q_ups]
                  exact ⟨rfl, Nat.le_refl _⟩
                · rw [if_neg q, q_upo (fun z => q z.2), q_upc (by decide), h68]
                  have ht2 : t < used := by omega
                  exact ⟨(hla t ht2).1, Nat.le_of_lt (hla t ht2).2⟩
              simp only [nI_1]
              refine g_Vi 100 [_, _, _] _ dX2_share_97 rfl m_X2_share l_X2_58 rfl rfl rfl (by decide) (hrec (used + 1) (q_la la s c) _ (by omega) (q_KF.of hKFm hsw) hl2) rfl (Nat.le_of_ble_eq_true rfl) (by omega) (fun v97 μ97 ρ97 hc9 => ?_)
              obtain ⟨rfl, hsp⟩ := hc9
              refine g_if_eq 105 103 dX2_share_100 rfl (by decide) (fun h100 => ?_) (fun h100 => ?_)
              · refine g_aload_n 106 dX2_share_105 rfl rfl ?_
                refine g_getR 109 _ dX2_share_106 rfl f_X2_24 (by decide) rfl rfl rfl ?_
                refine g_iload 111 dX2_share_109 rfl rfl ?_
                refine g_iload 113 dX2_share_111 rfl rfl ?_
                refine g_iast 114 dX2_share_113 rfl (by decide) rfl (vp_in_nI (show s < 7 by omega) (by omega)) ?_
                rw [nI_clamp (show s < 2 ^ 31 by omega)]
                refine g_iinc 117 (_ + 1) dX2_share_114 rfl rfl rfl (by decide) ?_
                refine g_goto 19 dX2_share_117 (by decide) ?_
                rw [nI_1]
                obtain ⟨n1, n2⟩ := q_shP_none hsp h100
                obtain ⟨f1, f2, f3⟩ := hsp
                refine g_lv [(0, _), (1, _), (2, _), (3, _), (4, _)] rfl ?_
                have h9 := ih (s + 1) (by omega) (q_up μ97 68 s (μ 68 s)) (fun cc j g1 g2 => ?_) (fun x hx => ?_) (fun t => ?_)
                · have et : q_tr1 (q_cn op cl km pc) most f c used la s = none := by
                    unfold q_tr1
                    rw [if_pos (Or.inl hse), if_pos hse, n1]
                    rfl
                  rw [q_ft, et]
                  exact h9
                · rw [q_upc g2, f1 cc j g1 g2, hsw cc j g1 g2]; exact hf cc j g1 g2
                · rw [q_upc (by decide), f2 x (by omega), q_upc (by decide), q_upo (by omega)]; exact h66 x hx
                · by_cases q : t = s
                  · rw [q, q_ups, h68]
                  · rw [q_upo (fun z => q z.2), n2, q_upo (fun z => q z.2), q_upc (by decide), h68]
              · refine g_iconst 104 1 dX2_share_103 rfl (by decide) ?_
                exact g_rz dX2_share_104 rfl (by first | exact Or.inl rfl | exact Or.inr rfl | assumption) rfl (by
      obtain ⟨g, e1, e2, e3⟩ := q_shP_some hsp h100
      obtain ⟨f1, f2, f3⟩ := hsp
      refine ⟨rfl, fun cc j g1 g2 => ?_, fun x hx => ?_, ?_⟩
      · rw [f1 cc j g1 g2, hsw cc j g1 g2]; exact hf cc j g1 g2
      · rw [f2 x (by omega), q_upc (by decide), q_upo (by omega)]; exact h66 x hx
      · have et : q_tr1 (q_cn op cl km pc) most f c used la s = some (fun x => if x = c then s else g x) := by
          unfold q_tr1
          rw [if_pos (Or.inl hse), if_pos hse, e1]
          rfl
        have ef : q_ft (q_tr1 (q_cn op cl km pc) most f c used la) (n + 1) s = some (fun x => if x = c then s else g x) := by
          rw [q_ft, et]
        rw [ef]
        refine ⟨rfl, fun x hx1 hx2 => ?_⟩
        dsimp only
        by_cases q : x = c
        · rw [if_pos q, q, f2 c (by omega), q_upc (by decide), q_ups]
        · rw [if_neg q]; exact e3 x (by omega) hx2)
          · refine g_aload_n 54 dX2_share_53 rfl rfl ?_
            refine g_iload_n 55 dX2_share_54 rfl rfl ?_
            refine g_iload 57 dX2_share_55 rfl rfl ?_
            have hsu2 : s < used := by
              have hne : s ≠ used := fun q => h50 (by rw [q])
              omega
            rw [show μ 68 s = nI (la s) from by rw [h68]; exact (hla s hsu2).1]
            refine g_Vi 60 [_, _] _ dX2_share_57 rfl m_X2_canDo l_X2_62 rfl rfl rfl (by decide) (c_canDo (c := c) (a := la s) (by omega) (by have := (hla s hsu2).2; omega)) rfl (Nat.le_of_ble_eq_true rfl) (by omega) (fun v57 μ57 ρ57 hc9 => ?_)
            obtain ⟨rfl, rfl, rfl⟩ := hc9
            rw [hKFm.2.2.1, hKFm.2.2.2.1, hKFm.2.2.2.2, hKFm.2.1]
            refine g_if_eq 114 63 dX2_share_60 rfl (by decide) (fun h60 => ?_) (fun h60 => ?_)
            · refine g_iinc 117 (_ + 1) dX2_share_114 rfl rfl rfl (by decide) ?_
              refine g_goto 19 dX2_share_117 (by decide) ?_
              rw [nI_1]
              refine g_lv [(0, _), (1, _), (2, _), (3, _), (4, _)] rfl ?_
              have h9 := ih (s + 1) (by omega) μ hf h66 h68
              have et : q_tr1 (q_cn op cl km pc) most f c used la s = none := by
                unfold q_tr1
                rw [if_neg (fun z => z.elim (fun z1 => by omega) (q_b_0.mp h60))]
              rw [q_ft, et]
              exact h9
            · refine g_aload_n 64 dX2_share_63 rfl rfl ?_
              refine g_getR 67 _ dX2_share_64 rfl f_X2_18 (by decide) rfl rfl rfl ?_
              refine g_iload_n 68 dX2_share_67 rfl rfl ?_
              refine g_iload 70 dX2_share_68 rfl rfl ?_
              refine g_iast 71 dX2_share_70 rfl (by decide) rfl (vp_in_nI (show c < 8 by omega) (by omega)) ?_
              rw [nI_clamp (show c < 2 ^ 31 by omega)]
              refine g_aload_n 72 dX2_share_71 rfl rfl ?_
              refine g_getR 75 _ dX2_share_72 rfl f_X2_24 (by decide) rfl rfl rfl ?_
              refine g_iload 77 dX2_share_75 rfl rfl ?_
              refine g_iload_n 78 dX2_share_77 rfl rfl ?_
              refine g_iast 79 dX2_share_78 rfl (by decide) rfl (vp_in_nI (show s < 7 by omega) (by omega)) ?_
              rw [nI_clamp (show s < 2 ^ 31 by omega)]
              refine g_aload_n 80 dX2_share_79 rfl rfl ?_
              refine g_iload_n 81 dX2_share_80 rfl rfl ?_
              refine g_iconst 82 1 dX2_share_81 rfl (by decide) ?_
              refine g_iadd 83 dX2_share_82 rfl ?_
              refine g_iload 85 dX2_share_83 rfl rfl ?_
              refine g_iload_n 86 dX2_share_85 rfl rfl ?_
              refine g_icmp_ne 95 89 dX2_share_86 rfl (by decide) (fun h86 => ?_) (fun h86 => ?_)
              · refine g_iload_n 96 dX2_share_95 rfl rfl ?_
                refine g_iload_n 97 dX2_share_96 rfl rfl ?_
                have hsw : ∀ cc j, cc ≠ 66 → cc ≠ 68 → (q_up (q_up μ 66 c (nI s)) 68 s (nI c)) cc j = μ cc j := fun cc j g1 g2 => by rw [q_upc g2, q_upc g1]
                have hl2 : ∀ t, t < used → (q_up (q_up μ 66 c (nI s)) 68 s (nI c)) 68 t = nI (q_la la s c t) ∧ q_la la s c t ≤ c := by
                  intro t ht
                  unfold q_la
                  by_cases q : t = s
                  · rw [if_pos q, q, q_ups]
                    exact ⟨rfl, Nat.le_refl _⟩
                  · rw [if_neg q, q_upo (fun z => q z.2), q_upc (by decide), h68]
                    have ht2 : t < used := by omega
                    exact ⟨(hla t ht2).1, Nat.le_of_lt (hla t ht2).2⟩
                rw [nI_1]
                refine g_Vi 100 [_, _, _] _ dX2_share_97 rfl m_X2_share l_X2_58 rfl rfl rfl (by decide) (hrec used (q_la la s c) _ (by omega) (q_KF.of hKFm hsw) hl2) rfl (Nat.le_of_ble_eq_true rfl) (by omega) (fun v97 μ97 ρ97 hc9 => ?_)
                obtain ⟨rfl, hsp⟩ := hc9
                refine g_if_eq 105 103 dX2_share_100 rfl (by decide) (fun h100 => ?_) (fun h100 => ?_)
                · refine g_aload_n 106 dX2_share_105 rfl rfl ?_
                  refine g_getR 109 _ dX2_share_106 rfl f_X2_24 (by decide) rfl rfl rfl ?_
                  refine g_iload 111 dX2_share_109 rfl rfl ?_
                  refine g_iload 113 dX2_share_111 rfl rfl ?_
                  refine g_iast 114 dX2_share_113 rfl (by decide) rfl (vp_in_nI (show s < 7 by omega) (by omega)) ?_
                  rw [nI_clamp (show s < 2 ^ 31 by omega)]
                  refine g_iinc 117 (_ + 1) dX2_share_114 rfl rfl rfl (by decide) ?_
                  refine g_goto 19 dX2_share_117 (by decide) ?_
                  rw [nI_1]
                  obtain ⟨n1, n2⟩ := q_shP_none hsp h100
                  obtain ⟨f1, f2, f3⟩ := hsp
                  refine g_lv [(0, _), (1, _), (2, _), (3, _), (4, _)] rfl ?_
                  have h9 := ih (s + 1) (by omega) (q_up μ97 68 s (nI (la s))) (fun cc j g1 g2 => ?_) (fun x hx => ?_) (fun t => ?_)
                  · have et : q_tr1 (q_cn op cl km pc) most f c used la s = none := by
                      unfold q_tr1
                      rw [if_pos (Or.inr (q_b_n.mp h60)), if_neg (by omega), n1]
                      rfl
                    rw [q_ft, et]
                    exact h9
                  · rw [q_upc g2, f1 cc j g1 g2, hsw cc j g1 g2]; exact hf cc j g1 g2
                  · rw [q_upc (by decide), f2 x (by omega), q_upc (by decide), q_upo (by omega)]; exact h66 x hx
                  · by_cases q : t = s
                    · rw [q, q_ups, (hla s hsu2).1]
                    · rw [q_upo (fun z => q z.2), n2, q_upo (fun z => q z.2), q_upc (by decide), h68]
                · refine g_iconst 104 1 dX2_share_103 rfl (by decide) ?_
                  exact g_rz dX2_share_104 rfl (by first | exact Or.inl rfl | exact Or.inr rfl | assumption) rfl (by
      obtain ⟨g, e1, e2, e3⟩ := q_shP_some hsp h100
      obtain ⟨f1, f2, f3⟩ := hsp
      refine ⟨rfl, fun cc j g1 g2 => ?_, fun x hx => ?_, ?_⟩
      · rw [f1 cc j g1 g2, hsw cc j g1 g2]; exact hf cc j g1 g2
      · rw [f2 x (by omega), q_upc (by decide), q_upo (by omega)]; exact h66 x hx
      · have et : q_tr1 (q_cn op cl km pc) most f c used la s = some (fun x => if x = c then s else g x) := by
          unfold q_tr1
          rw [if_pos (Or.inr (q_b_n.mp h60)), if_neg (by omega), e1]
          rfl
        have ef : q_ft (q_tr1 (q_cn op cl km pc) most f c used la) (n + 1) s = some (fun x => if x = c then s else g x) := by
          rw [q_ft, et]
        rw [ef]
        refine ⟨rfl, fun x hx1 hx2 => ?_⟩
        dsimp only
        by_cases q : x = c
        · rw [if_pos q, q, f2 c (by omega), q_upc (by decide), q_ups]
        · rw [if_neg q]; exact e3 x (by omega) hx2)
              · exact absurd h86 h50
end KT
