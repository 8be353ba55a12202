/-! ===== kitchens: the reference ===== -/
def q_bt (len : Nat → Int32) (a : Nat) : Nat → Int32
  | 0 => 0
  | k + 1 => q_bt len a k + len (a + k)
/-- the last camp below c that set s does; 0: none -/
def q_lf (as : Nat → Nat) (s : Nat) : Nat → Nat
  | 0 => 0
  | a + 1 => if 1 ≤ a ∧ as a = s then a else q_lf as s a
theorem q_lf_lt (as : Nat → Nat) (s : Nat) : ∀ c, q_lf as s c ≤ c ∧ (0 < c → q_lf as s c < c)
  | 0 => ⟨Nat.le_refl _, fun h => h⟩
  | a + 1 => by
    unfold q_lf
    split
    · omega
    · have := q_lf_lt as s a
      omega
def q_en (a : Nat) : Int32 := if a = 0 then -1 else nI a
/-- camp c behind camp a, as the reference reckons -/
def q_cm2 (op cl len : Nat → Int32) (pc : Int32) (c a : Nat) : Bool := decide (cl a + (60 * q_bt len a (c - a) + pc - 1) / pc ≤ op c)
def q_tr (can : Nat → Nat → Bool) (most : Nat) : Nat → Nat → (Nat → Nat) → Option (Nat → Nat)
  | 0, _, _ => some (fun _ => 0)
  | f + 1, c, la => q_ft (fun s => if la s = 0 ∨ can c (la s) = true then (q_tr can most f (c + 1) (q_la la s c)).map (fun g x => if x = c then s else g x) else none) most 0
abbrev q_tr2 (can : Nat → Nat → Bool) (most f c : Nat) (la : Nat → Nat) (s : Nat) : Option (Nat → Nat) := if la s = 0 ∨ can c (la s) = true then (q_tr can most f (c + 1) (q_la la s c)).map (fun g x => if x = c then s else g x) else none
/-- what the reference's search reads: opens, closes, lengths, pace, who came -/
def q_MF (μ : q_M) (N : Nat) (cm : Nat → Nat) (op cl len : Nat → Int32) (pc : Int32) : Prop :=
  N ≤ 7 ∧ (∀ i, i < 7 → cm i ≤ 10 ∧ μ 138 i = nI (cm i) ∧ (i < N ↔ 0 < cm i)) ∧ (∀ x, 1 ≤ x → x ≤ N → μ 139 x = op x ∧ μ 140 x = cl x) ∧ (∀ j, j < 7 → μ 123 (j + 1) = len j) ∧ μ 128 2 = pc ∧ ¬ pc = 0
theorem q_MF.of {μ μ' : q_M} {N : Nat} {cm : Nat → Nat} {op cl len : Nat → Int32} {pc : Int32} (h : q_MF μ N cm op cl len pc) (hf : ∀ cc j, cc ≠ 141 → μ' cc j = μ cc j) : q_MF μ' N cm op cl len pc := by
  obtain ⟨h1, h2, h3, h4, h5, h6⟩ := h
  exact ⟨h1, fun i hi => by rw [hf _ _ (by decide)]; exact h2 i hi, fun x g1 g2 => by rw [hf _ _ (by decide), hf _ _ (by decide)]; exact h3 x g1 g2, fun j hj => by rw [hf _ _ (by decide)]; exact h4 j hj, by rw [hf _ _ (by decide)]; exact h5, h6⟩
def q_trP (N c : Nat) (res : Option (Nat → Nat)) (μ : q_M) (v : Int32) (μ' : q_M) : Prop :=
  (∀ cc j, cc ≠ 141 → μ' cc j = μ cc j) ∧ (∀ x, x < c → μ' 141 x = μ 141 x) ∧
  match res with
  | some g => v = 1 ∧ ∀ x, c ≤ x → x ≤ N → μ' 141 x = nI (g x)
  | none => v = 0
section KM
variable {C : q_C} {l : Launch} {μ : q_M} {b : Bool}
set_option maxRecDepth 100000 in
set_option maxHeartbeats 4000000 in
theorem c_need {N : Nat} {cm : Nat → Nat} {op cl len : Nat → Int32} {pc : Int32} (hF : q_MF μ N cm op cl len pc) {i : Nat} (hi : i < 7) : q_Ct C l FX8_isNeeded 0 142 142 [.ref (q_a C 122), .int (nI (i + 1))] μ (q_ρ b) (q_is (q_b (i < N)) μ (q_ρ b)) := by
  refine q_entry rfl (by decide) (Nat.le_of_ble_eq_true rfl) ?_
  refine g_lv [(0, _), (1, _)] rfl ?_
  refine g_aload_n 1 dX8_isNeeded_0 rfl rfl ?_
  refine g_getR 4 _ dX8_isNeeded_1 rfl f_X8_59 (by decide) rfl rfl rfl ?_
  refine g_iload_n 5 dX8_isNeeded_4 rfl rfl ?_
  refine g_iconst 6 1 dX8_isNeeded_5 rfl (by decide) ?_
  refine g_isub 7 dX8_isNeeded_6 rfl ?_
  rw [nI_pred]
  refine g_iald 8 dX8_isNeeded_7 rfl (by decide) rfl (vp_in_nI hi (by omega)) ?_
  rw [nI_clamp (show i < 2 ^ 31 by omega), (hF.2.1 i hi).2.1]
  refine g_if_le 15 11 dX8_isNeeded_8 rfl (by decide) (fun h8 => ?_) (fun h8 => ?_)
  · refine g_iconst 16 0 dX8_isNeeded_15 rfl (by decide) ?_
    exact g_rz dX8_isNeeded_16 rfl (by first | exact Or.inl rfl | exact Or.inr rfl | assumption) rfl ⟨q_b_f (fun q => absurd h8 (nI_nle ((hF.2.1 i hi).2.2.mp q) (by have := (hF.2.1 i hi).1; omega))), rfl, rfl⟩
  · refine g_iconst 12 1 dX8_isNeeded_11 rfl (by decide) ?_
    refine g_goto 16 dX8_isNeeded_12 (by decide) ?_
    exact g_rz dX8_isNeeded_16 rfl (by first | exact Or.inl rfl | exact Or.inr rfl | assumption) rfl ⟨q_b_t ((hF.2.1 i hi).2.2.mpr (by
      rcases Nat.eq_zero_or_pos (cm i) with q | q
      · rw [q] at h8; exact absurd (by decide) h8
      · exact q)), rfl, rfl⟩
set_option maxRecDepth 100000 in
set_option maxHeartbeats 4000000 in
theorem lp_bt {len : Nat → Int32} {a c : Nat} (hac : a ≤ c) (hc : c ≤ 7) (hl : ∀ j, j < 7 → μ 123 (j + 1) = len j) : ∀ k j, j + k = c - a → q_G C l FX8_between 0 142 142 (q_is (q_bt len a (c - a)) μ (q_ρ b)) 142 μ (q_ρ b) [(0, .ref (q_a C 122)), (1, .int (nI a)), (2, .int (nI c)), (3, .int (q_bt len a j)), (4, .int (nI (a + j + 1)))] [] 7 := by
  intro k
  induction k with
  | zero =>
    intro j hK9
    refine g_iload 9 dX8_between_7 rfl rfl ?_
    refine g_iload_n 10 dX8_between_9 rfl rfl ?_
    refine g_icmp_gt 29 13 dX8_between_10 rfl (by decide) (fun h10 => ?_) (fun h10 => ?_)
    · refine g_iload_n 30 dX8_between_29 rfl rfl ?_
      exact g_ri dX8_between_30 rfl rfl ⟨by rw [show j = c - a by omega], rfl, rfl⟩
    · exact absurd (nI_lt (by omega) (by omega)) h10
  | succ k ih =>
    intro j hK9
    refine g_iload 9 dX8_between_7 rfl rfl ?_
    refine g_iload_n 10 dX8_between_9 rfl rfl ?_
    refine g_icmp_gt 29 13 dX8_between_10 rfl (by decide) (fun h10 => ?_) (fun h10 => ?_)
    · exact absurd h10 (nI_nlt (by omega) (by omega))
    · refine g_iload_n 14 dX8_between_13 rfl rfl ?_
      refine g_aload_n 15 dX8_between_14 rfl rfl ?_
      refine g_getR 18 _ dX8_between_15 rfl f_X8_7 (by decide) rfl rfl rfl ?_
      refine g_iload 20 dX8_between_18 rfl rfl ?_
      refine g_iald 21 dX8_between_20 rfl (by decide) rfl (vp_in_nI (show a + j + 1 < 8 by omega) (by omega)) ?_
      refine g_iadd 22 dX8_between_21 rfl ?_
      refine g_istore_n 23 dX8_between_22 rfl (by decide) ?_
      refine g_iinc 26 (_ + 1) dX8_between_23 rfl rfl rfl (by decide) ?_
      refine g_goto 7 dX8_between_26 (by decide) ?_
      rw [nI_clamp (show a + j + 1 < 2 ^ 31 by omega), hl (a + j) (by omega), nI_1]
      refine g_lv [(0, _), (1, _), (2, _), (3, _), (4, _)] rfl ?_
      exact ih (j + 1) (by omega)
set_option maxRecDepth 100000 in
set_option maxHeartbeats 4000000 in
theorem c_bt {len : Nat → Int32} {a c : Nat} (hac : a ≤ c) (hc : c ≤ 7) (hl : ∀ j, j < 7 → μ 123 (j + 1) = len j) : q_Ct C l FX8_between 0 142 142 [.ref (q_a C 122), .int (nI a), .int (nI c)] μ (q_ρ b) (q_is (q_bt len a (c - a)) μ (q_ρ b)) := by
  refine q_entry rfl (by decide) (Nat.le_of_ble_eq_true rfl) ?_
  refine g_lv [(0, _), (1, _), (2, _)] rfl ?_
  refine g_iconst 1 0 dX8_between_0 rfl (by decide) ?_
  refine g_istore_n 2 dX8_between_1 rfl (by decide) ?_
  refine g_iload_n 3 dX8_between_2 rfl rfl ?_
  refine g_iconst 4 1 dX8_between_3 rfl (by decide) ?_
  refine g_iadd 5 dX8_between_4 rfl ?_
  refine g_istore 7 dX8_between_5 rfl (by decide) ?_
  rw [nI_1]
  refine g_lv [(0, _), (1, _), (2, _), (3, _), (4, .int (nI (a + 0 + 1)))] rfl ?_
  exact lp_bt hac hc hl (c - a) 0 (by omega)
set_option maxRecDepth 100000 in
set_option maxHeartbeats 4000000 in
theorem lp_lf {N : Nat} {cm : Nat → Nat} {op cl len : Nat → Int32} {pc : Int32} (hF : q_MF μ N cm op cl len pc) {as : Nat → Nat} {s c : Nat} (hc1 : 1 ≤ c) (hcN : c ≤ N) (hs : s < 8) (has : ∀ a, 1 ≤ a → a < c → μ 141 a = nI (as a) ∧ as a < 8) : ∀ k i, i + 1 + k = c → q_G C l FX8_lastOf 1 142 142 (q_is (q_en (q_lf as s c)) μ (q_ρ b)) 142 μ (q_ρ b) [(0, .ref (q_a C 122)), (1, .int (nI s)), (2, .int (nI c)), (3, .int (q_en (q_lf as s (i + 1)))), (4, .int (nI (i + 1)))] [] 5 := by
  intro k
  induction k with
  | zero =>
    intro i hK9
    refine g_iload 7 dX8_lastOf_5 rfl rfl ?_
    refine g_iload_n 8 dX8_lastOf_7 rfl rfl ?_
    refine g_icmp_ge 44 11 dX8_lastOf_8 rfl (by decide) (fun h8 => ?_) (fun h8 => ?_)
    · refine g_iload_n 45 dX8_lastOf_44 rfl rfl ?_
      exact g_ri dX8_lastOf_45 rfl rfl ⟨by rw [show i + 1 = c by omega], rfl, rfl⟩
    · exact absurd (nI_le (by omega) (by have := hF.1; omega)) h8
  | succ k ih =>
    intro i hK9
    refine g_iload 7 dX8_lastOf_5 rfl rfl ?_
    refine g_iload_n 8 dX8_lastOf_7 rfl rfl ?_
    refine g_icmp_ge 44 11 dX8_lastOf_8 rfl (by decide) (fun h8 => ?_) (fun h8 => ?_)
    · exact absurd h8 (nI_ge (by omega) (by have := hF.1; omega))
    · refine g_aload_n 12 dX8_lastOf_11 rfl rfl ?_
      refine g_iload 14 dX8_lastOf_12 rfl rfl ?_
      have hN7 := hF.1
      refine g_Vi 17 [_] _ dX8_lastOf_14 rfl m_X8_isNeeded l_X8_180 rfl rfl rfl (by decide) (c_need hF (i := i) (by omega)) rfl (Nat.le_of_ble_eq_true rfl) (by decide) (fun v14 μ14 ρ14 hc9 => ?_)
      obtain ⟨rfl, rfl, rfl⟩ := hc9
      refine g_if_eq 36 20 dX8_lastOf_17 rfl (by decide) (fun h17 => ?_) (fun h17 => ?_)
      · exact (q_b_0.mp h17 (by omega)).elim
      · refine g_aload_n 21 dX8_lastOf_20 rfl rfl ?_
        refine g_getR 24 _ dX8_lastOf_21 rfl f_X8_68 (by decide) rfl rfl rfl ?_
        refine g_iload 26 dX8_lastOf_24 rfl rfl ?_
        refine g_iald 27 dX8_lastOf_26 rfl (by decide) rfl (vp_in_nI (show i + 1 < 8 by omega) (by omega)) ?_
        rw [nI_clamp (show i + 1 < 2 ^ 31 by omega), (has (i + 1) (by omega) (by omega)).1]
        refine g_iload_n 28 dX8_lastOf_27 rfl rfl ?_
        refine g_icmp_ne 36 31 dX8_lastOf_28 rfl (by decide) (fun h28 => ?_) (fun h28 => ?_)
        · refine g_iload_n 37 dX8_lastOf_36 rfl rfl ?_
          refine g_istore_n 38 dX8_lastOf_37 rfl (by decide) ?_
          refine g_iinc 41 (_ + 1) dX8_lastOf_38 rfl rfl rfl (by decide) ?_
          refine g_goto 5 dX8_lastOf_41 (by decide) ?_
          rw [nI_1]
          refine g_lv [(0, _), (1, _), (2, _), (3, _), (4, _)] rfl ?_
          have h9 := ih (i + 1) (by omega)
          have hA := has (i + 1) (by omega) (by omega)
          rw [q_lf, if_neg (fun q => h28 (by rw [q.2]))] at h9
          exact h9
        · refine g_iload 33 dX8_lastOf_31 rfl rfl ?_
          refine g_goto 37 dX8_lastOf_33 (by decide) ?_
          refine g_istore_n 38 dX8_lastOf_37 rfl (by decide) ?_
          refine g_iinc 41 (_ + 1) dX8_lastOf_38 rfl rfl rfl (by decide) ?_
          refine g_goto 5 dX8_lastOf_41 (by decide) ?_
          rw [nI_1]
          refine g_lv [(0, _), (1, _), (2, _), (3, _), (4, _)] rfl ?_
          have h9 := ih (i + 1) (by omega)
          have hA := has (i + 1) (by omega) (by omega)
          rw [q_lf, if_pos ⟨by omega, (nI_eq (by omega) (by omega)).mp h28⟩] at h9
          exact h9
set_option maxRecDepth 100000 in
set_option maxHeartbeats 4000000 in
theorem c_lf {N : Nat} {cm : Nat → Nat} {op cl len : Nat → Int32} {pc : Int32} (hF : q_MF μ N cm op cl len pc) {as : Nat → Nat} {s c : Nat} (hc1 : 1 ≤ c) (hcN : c ≤ N) (hs : s < 8) (has : ∀ a, 1 ≤ a → a < c → μ 141 a = nI (as a) ∧ as a < 8) : q_Ct C l FX8_lastOf 1 142 142 [.ref (q_a C 122), .int (nI s), .int (nI c)] μ (q_ρ b) (q_is (q_en (q_lf as s c)) μ (q_ρ b)) := by
  refine q_entry rfl (by decide) (Nat.le_of_ble_eq_true rfl) ?_
  refine g_lv [(0, _), (1, _), (2, _)] rfl ?_
  refine g_iconst 1 (-1) dX8_lastOf_0 rfl (by decide) ?_
  refine g_istore_n 2 dX8_lastOf_1 rfl (by decide) ?_
  refine g_iconst 3 1 dX8_lastOf_2 rfl (by decide) ?_
  refine g_istore 5 dX8_lastOf_3 rfl (by decide) ?_
  refine g_lv [(0, _), (1, _), (2, _), (3, .int (-1)), (4, .int (nI (0 + 1)))] rfl ?_
  have e0 : q_en (q_lf as s (0 + 1)) = -1 := by simp [q_lf, q_en]
  have h9 := lp_lf (C := C) (l := l) (b := b) hF hc1 hcN hs has (c - 1) 0 (by omega)
  rw [e0] at h9
  exact h9
theorem q_en_1 {a : Nat} (h : a < 2 ^ 31) : q_en a = -1 ↔ a = 0 := by
  unfold q_en
  by_cases e : a = 0
  · simp [e]
  · rw [if_neg e]
    exact ⟨fun q => absurd (nI_pos' h) (by rw [q]; decide), fun q => absurd q e⟩
set_option maxRecDepth 100000 in
set_option maxHeartbeats 4000000 in
theorem c_Mcan {N : Nat} {cm : Nat → Nat} {op cl len : Nat → Int32} {pc : Int32} (hF : q_MF μ N cm op cl len pc) {as : Nat → Nat} {s c : Nat} (hc1 : 1 ≤ c) (hcN : c ≤ N) (hs : s < 8) (has : ∀ a, 1 ≤ a → a < c → μ 141 a = nI (as a) ∧ as a < 8) : q_Ct C l FX8_canDo 2 142 142 [.ref (q_a C 122), .int (nI s), .int (nI c)] μ (q_ρ b) (q_is (q_b (q_lf as s c = 0 ∨ q_cm2 op cl len pc c (q_lf as s c) = true)) μ (q_ρ b)) := by
  refine q_entry rfl (by decide) (Nat.le_of_ble_eq_true rfl) ?_
  refine g_lv [(0, _), (1, _), (2, _)] rfl ?_
  refine g_aload_n 1 dX8_canDo_0 rfl rfl ?_
  refine g_iload_n 2 dX8_canDo_1 rfl rfl ?_
  refine g_iload_n 3 dX8_canDo_2 rfl rfl ?_
  refine g_Vi 6 [_, _] _ dX8_canDo_3 rfl m_X8_lastOf l_X8_183 rfl rfl rfl (by decide) (c_lf hF hc1 hcN hs has) rfl (Nat.le_of_ble_eq_true rfl) (by decide) (fun v3 μ3 ρ3 hc9 => ?_)
  obtain ⟨rfl, rfl, rfl⟩ := hc9
  refine g_istore_n 7 dX8_canDo_6 rfl (by decide) ?_
  have hN7 := hF.1
  have hlt := (q_lf_lt as s c).2 (by omega)
  generalize hla : q_lf as s c = la at *
  refine g_iload_n 8 dX8_canDo_7 rfl rfl ?_
  refine g_iconst 9 (-1) dX8_canDo_8 rfl (by decide) ?_
  refine g_icmp_eq 53 12 dX8_canDo_9 rfl (by decide) (fun h9 => ?_) (fun h9 => ?_)
  · refine g_iconst 54 1 dX8_canDo_53 rfl (by decide) ?_
    refine g_goto 58 dX8_canDo_54 (by decide) ?_
    exact g_rz dX8_canDo_58 rfl (by first | exact Or.inl rfl | exact Or.inr rfl | assumption) rfl ⟨q_b_t (Or.inl ((q_en_1 (by omega)).mp h9)), rfl, rfl⟩
  · have hl0 : la ≠ 0 := fun q => h9 ((q_en_1 (by omega)).mpr q)
    rw [show q_en la = nI la from if_neg hl0]
    refine g_aload_n 13 dX8_canDo_12 rfl rfl ?_
    refine g_getR 16 _ dX8_canDo_13 rfl f_X8_65 (by decide) rfl rfl rfl ?_
    refine g_iload_n 17 dX8_canDo_16 rfl rfl ?_
    refine g_iald 18 dX8_canDo_17 rfl (by decide) rfl (vp_in_nI (show la < 8 by omega) (by omega)) ?_
    rw [nI_clamp (show la < 2 ^ 31 by omega), (hF.2.2.1 la (by omega) (by omega)).2]
    refine g_bipush 20 60 dX8_canDo_18 rfl (by decide) ?_
    refine g_aload_n 21 dX8_canDo_20 rfl rfl ?_
    refine g_iload_n 22 dX8_canDo_21 rfl rfl ?_
    refine g_iload_n 23 dX8_canDo_22 rfl rfl ?_
    refine g_Vi 26 [_, _] _ dX8_canDo_23 rfl m_X8_between l_X8_186 rfl rfl rfl (by decide) (c_bt (a := la) (c := c) (by omega) (by omega) hF.2.2.2.1) rfl (Nat.le_of_ble_eq_true rfl) (by decide) (fun v23 μ23 ρ23 hc9 => ?_)
    obtain ⟨rfl, rfl, rfl⟩ := hc9
    refine g_imul 27 dX8_canDo_26 rfl ?_
    refine g_aload_n 28 dX8_canDo_27 rfl rfl ?_
    refine g_getR 31 _ dX8_canDo_28 rfl f_X8_25 (by decide) rfl rfl rfl ?_
    refine g_iconst 32 2 dX8_canDo_31 rfl (by decide) ?_
    refine g_iald 33 dX8_canDo_32 rfl (by decide) rfl (vp_in_nI (n := 2) (N := 5) (by decide) (by decide)) ?_
    rw [show (2 : Int32).toNatClampNeg = 2 from rfl, hF.2.2.2.2.1]
    refine g_iadd 34 dX8_canDo_33 rfl ?_
    refine g_iconst 35 1 dX8_canDo_34 rfl (by decide) ?_
    refine g_isub 36 dX8_canDo_35 rfl ?_
    refine g_aload_n 37 dX8_canDo_36 rfl rfl ?_
    refine g_getR 40 _ dX8_canDo_37 rfl f_X8_25 (by decide) rfl rfl rfl ?_
    refine g_iconst 41 2 dX8_canDo_40 rfl (by decide) ?_
    refine g_iald 42 dX8_canDo_41 rfl (by decide) rfl (vp_in_nI (n := 2) (N := 5) (by decide) (by decide)) ?_
    rw [show (2 : Int32).toNatClampNeg = 2 from rfl, hF.2.2.2.2.1]
    refine g_idiv 43 dX8_canDo_42 rfl hF.2.2.2.2.2 ?_
    refine g_iadd 44 dX8_canDo_43 rfl ?_
    refine g_aload_n 45 dX8_canDo_44 rfl rfl ?_
    refine g_getR 48 _ dX8_canDo_45 rfl f_X8_62 (by decide) rfl rfl rfl ?_
    refine g_iload_n 49 dX8_canDo_48 rfl rfl ?_
    refine g_iald 50 dX8_canDo_49 rfl (by decide) rfl (vp_in_nI (show c < 8 by omega) (by omega)) ?_
    rw [nI_clamp (show c < 2 ^ 31 by omega), (hF.2.2.1 c (by omega) (by omega)).1]
    refine g_icmp_gt 57 53 dX8_canDo_50 rfl (by decide) (fun h50 => ?_) (fun h50 => ?_)
    · refine g_iconst 58 0 dX8_canDo_57 rfl (by decide) ?_
      exact g_rz dX8_canDo_58 rfl (by first | exact Or.inl rfl | exact Or.inr rfl | assumption) rfl ⟨q_b_f (fun q => q.elim hl0 (fun q2 => absurd (of_decide_eq_true q2) (Int32.not_le.mpr h50))), rfl, rfl⟩
    · refine g_iconst 54 1 dX8_canDo_53 rfl (by decide) ?_
      refine g_goto 58 dX8_canDo_54 (by decide) ?_
      exact g_rz dX8_canDo_58 rfl (by first | exact Or.inl rfl | exact Or.inr rfl | assumption) rfl ⟨q_b_t (Or.inr (decide_eq_true (Int32.not_lt.mp h50))), rfl, rfl⟩
set_option maxRecDepth 100000 in
set_option maxHeartbeats 8000000 in
theorem c_triesE {N : Nat} {cm : Nat → Nat} {op cl len : Nat → Int32} {pc : Int32} (hF : q_MF μ N cm op cl len pc) {m : Int32} : ∀ f c, c + f = 8 → N < c → q_Ct C l FX8_tries (3 + f) 142 142 [.ref (q_a C 122), .int (nI c), .int m] μ (q_ρ b) (q_is 1 μ (q_ρ b)) := by
  intro f
  induction f with
  | zero =>
    intro c hc hN
    refine q_entry rfl (by decide) (Nat.le_of_ble_eq_true rfl) ?_
    refine g_lv [(0, _), (1, _), (2, _)] rfl ?_
    refine g_iload_n 1 dX8_tries_0 rfl rfl ?_
    refine g_bipush 3 8 dX8_tries_1 rfl (by decide) ?_
    refine g_icmp_ne 8 6 dX8_tries_3 rfl (by decide) (fun h3 => ?_) (fun h3 => ?_)
    · exact (h3 (by rw [show c = 8 by omega]; rfl)).elim
    · refine g_iconst 7 1 dX8_tries_6 rfl (by decide) ?_
      exact g_rz dX8_tries_7 rfl (by first | exact Or.inl rfl | exact Or.inr rfl | assumption) rfl ⟨rfl, rfl, rfl⟩
  | succ f ih =>
    intro c hc hN
    refine q_entry rfl (by decide) (Nat.le_of_ble_eq_true rfl) ?_
    refine g_lv [(0, _), (1, _), (2, _)] rfl ?_
    refine g_iload_n 1 dX8_tries_0 rfl rfl ?_
    refine g_bipush 3 8 dX8_tries_1 rfl (by decide) ?_
    refine g_icmp_ne 8 6 dX8_tries_3 rfl (by decide) (fun h3 => ?_) (fun h3 => ?_)
    · refine g_aload_n 9 dX8_tries_8 rfl rfl ?_
      refine g_iload_n 10 dX8_tries_9 rfl rfl ?_
      obtain ⟨i, rfl⟩ : ∃ i, c = i + 1 := ⟨c - 1, by omega⟩
      refine g_Vi 13 [_] _ dX8_tries_10 rfl m_X8_isNeeded l_X8_180 rfl rfl rfl (by decide) (c_need hF (i := i) (by omega)) rfl (Nat.le_of_ble_eq_true rfl) (by omega) (fun v10 μ10 ρ10 hc9 => ?_)
      obtain ⟨rfl, rfl, rfl⟩ := hc9
      refine g_if_ne 25 16 dX8_tries_13 rfl (by decide) (fun h13 => ?_) (fun h13 => ?_)
      · exact (h13 (q_b_f (by omega))).elim
      · refine g_aload_n 17 dX8_tries_16 rfl rfl ?_
        refine g_iload_n 18 dX8_tries_17 rfl rfl ?_
        refine g_iconst 19 1 dX8_tries_18 rfl (by decide) ?_
        refine g_iadd 20 dX8_tries_19 rfl ?_
        refine g_iload_n 21 dX8_tries_20 rfl rfl ?_
        rw [nI_1]
        refine g_Vi 24 [_, _] _ dX8_tries_21 rfl m_X8_tries l_X8_189 rfl rfl rfl (by decide) (ih (i + 1 + 1) (by omega) (by omega)) rfl (Nat.le_of_ble_eq_true rfl) (by omega) (fun v21 μ21 ρ21 hc9 => ?_)
        obtain ⟨rfl, rfl, rfl⟩ := hc9
        exact g_rz dX8_tries_24 rfl (by first | exact Or.inl rfl | exact Or.inr rfl | assumption) rfl ⟨rfl, rfl, rfl⟩
    · exact absurd ((nI_eq (a := c) (b := 8) (by omega) (by omega)).mp h3) (by omega)
theorem q_trP_some {N c : Nat} {res : Option (Nat → Nat)} {μ μ' : q_M} {v : Int32} (h : q_trP N c res μ v μ') (hv : ¬ v = 0) : ∃ g, res = some g ∧ ∀ x, c ≤ x → x ≤ N → μ' 141 x = nI (g x) := by
  obtain ⟨h1, h2, h3⟩ := h
  cases res with
  | none => exact absurd h3 hv
  | some g => exact ⟨g, rfl, h3.2⟩
theorem q_trP_none {N c : Nat} {res : Option (Nat → Nat)} {μ μ' : q_M} {v : Int32} (h : q_trP N c res μ v μ') (hv : v = 0) : res = none := by
  obtain ⟨h1, h2, h3⟩ := h
  cases res with
  | none => rfl
  | some g => exact absurd (h3.1.symm.trans hv) (by decide)
theorem q_lf_up {as : Nat → Nat} {c s : Nat} (hc : 1 ≤ c) : (fun t => q_lf (fun a => if a = c then s else as a) t (c + 1)) = q_la (fun t => q_lf as t c) s c := by
  funext t
  have key : ∀ x, x ≤ c → q_lf (fun a => if a = c then s else as a) t x = q_lf as t x := by
    intro x
    induction x with
    | zero => intro _; rfl
    | succ x ih =>
      intro hx
      unfold q_lf
      rw [if_neg (show ¬ x = c by omega), ih (by omega)]
  unfold q_la
  rw [q_lf]
  by_cases e : t = s
  · rw [if_pos e, if_pos ⟨hc, by rw [if_pos rfl]; exact e.symm⟩]
  · rw [if_neg e, if_neg (fun q => e (by have := q.2; rw [if_pos rfl] at this; exact this.symm)), key c (Nat.le_refl _)]
set_option maxRecDepth 100000 in
set_option maxHeartbeats 8000000 in
theorem lp_tries {N most f c : Nat} {cm : Nat → Nat} {op cl len : Nat → Int32} {pc : Int32} {as : Nat → Nat} {μ0 : q_M} (hmo : most ≤ 7) (hc1 : 1 ≤ c) (hcN : c + f = N) (hF : q_MF μ0 N cm op cl len pc) (has : ∀ a, 1 ≤ a → a < c → μ0 141 a = nI (as a) ∧ as a < 8) (hrec : ∀ as2 μ2, q_MF μ2 N cm op cl len pc → (∀ a, 1 ≤ a → a < c + 1 → μ2 141 a = nI (as2 a) ∧ as2 a < 8) → q_Ct C l FX8_tries (3 + (7 - c)) 142 142 [.ref (q_a C 122), .int (nI (c + 1)), .int (nI most)] μ2 (q_ρ b) (q_PI fun v μ' ρ' => q_ρ b = ρ' ∧ q_trP N (c + 1) (q_tr (q_cm2 op cl len pc) most f (c + 1) (fun s => q_lf as2 s (c + 1))) μ2 v μ')) : ∀ n s, s + n = most → ∀ μ, (∀ cc j, cc ≠ 141 → μ cc j = μ0 cc j) → (∀ x, x < c → μ 141 x = μ0 141 x) → q_G C l FX8_tries (4 + (7 - c)) 142 142 (q_PI fun v μ' ρ' => q_ρ b = ρ' ∧ q_trP N c (q_ft (q_tr2 (q_cm2 op cl len pc) most f c (fun s => q_lf as s c)) n s) μ0 v μ') 142 μ (q_ρ b) [(0, .ref (q_a C 122)), (1, .int (nI c)), (2, .int (nI most)), (3, .int (nI s))] [] 27 := by
  intro n
  induction n with
  | zero =>
    intro s hs μ hf h66
    have hN7 := hF.1
    refine g_iload_n 28 dX8_tries_27 rfl rfl ?_
    refine g_iload_n 29 dX8_tries_28 rfl rfl ?_
    refine g_icmp_ge 70 32 dX8_tries_29 rfl (by decide) (fun h29 => ?_) (fun h29 => ?_)
    · refine g_aload_n 71 dX8_tries_70 rfl rfl ?_
      refine g_getR 74 _ dX8_tries_71 rfl f_X8_68 (by decide) rfl rfl rfl ?_
      refine g_iload_n 75 dX8_tries_74 rfl rfl ?_
      refine g_iconst 76 (-1) dX8_tries_75 rfl (by decide) ?_
      refine g_iast 77 dX8_tries_76 rfl (by decide) rfl (vp_in_nI (show c < 8 by omega) (by omega)) ?_
      rw [nI_clamp (show c < 2 ^ 31 by omega)]
      refine g_iconst 78 0 dX8_tries_77 rfl (by decide) ?_
      exact g_rz dX8_tries_78 rfl (by first | exact Or.inl rfl | exact Or.inr rfl | assumption) rfl ⟨rfl, fun cc j g => by rw [q_upc g]; exact hf cc j g, fun x hx => by rw [q_upo (by omega)]; exact h66 x hx, rfl⟩
    · exact absurd (nI_le (by omega) (by omega)) h29
  | succ n ih =>
    intro s hs μ hf h66
    have hN7 := hF.1
    have hFm := q_MF.of hF hf
    have hasm : ∀ a, 1 ≤ a → a < c → μ 141 a = nI (as a) ∧ as a < 8 := fun a g1 g2 => by rw [h66 a g2]; exact has a g1 g2
    refine g_iload_n 28 dX8_tries_27 rfl rfl ?_
    refine g_iload_n 29 dX8_tries_28 rfl rfl ?_
    refine g_icmp_ge 70 32 dX8_tries_29 rfl (by decide) (fun h29 => ?_) (fun h29 => ?_)
    · exact absurd h29 (nI_ge (by omega) (by omega))
    · refine g_aload_n 33 dX8_tries_32 rfl rfl ?_
      refine g_iload_n 34 dX8_tries_33 rfl rfl ?_
      refine g_iload_n 35 dX8_tries_34 rfl rfl ?_
      refine g_Vi 38 [_, _] _ dX8_tries_35 rfl m_X8_canDo l_X8_192 rfl rfl rfl (by decide) (c_Mcan hFm (as := as) (s := s) (c := c) hc1 (by omega) (by omega) hasm) rfl (Nat.le_of_ble_eq_true rfl) (by omega) (fun v35 μ35 ρ35 hc9 => ?_)
      obtain ⟨rfl, rfl, rfl⟩ := hc9
      refine g_if_ne 44 41 dX8_tries_38 rfl (by decide) (fun h38 => ?_) (fun h38 => ?_)
      · refine g_aload_n 45 dX8_tries_44 rfl rfl ?_
        refine g_getR 48 _ dX8_tries_45 rfl f_X8_68 (by decide) rfl rfl rfl ?_
        refine g_iload_n 49 dX8_tries_48 rfl rfl ?_
        refine g_iload_n 50 dX8_tries_49 rfl rfl ?_
        refine g_iast 51 dX8_tries_50 rfl (by decide) rfl (vp_in_nI (show c < 8 by omega) (by omega)) ?_
        rw [nI_clamp (show c < 2 ^ 31 by omega)]
        refine g_aload_n 52 dX8_tries_51 rfl rfl ?_
        refine g_iload_n 53 dX8_tries_52 rfl rfl ?_
        refine g_iconst 54 1 dX8_tries_53 rfl (by decide) ?_
        refine g_iadd 55 dX8_tries_54 rfl ?_
        refine g_iload_n 56 dX8_tries_55 rfl rfl ?_
        rw [nI_1]
        have hsw : ∀ cc j, cc ≠ 141 → (q_up μ 141 c (nI s)) cc j = μ cc j := fun cc j g1 => q_upc g1
        have hl2 : ∀ a, 1 ≤ a → a < c + 1 → (q_up μ 141 c (nI s)) 141 a = nI ((fun a => if a = c then s else as a) a) ∧ (fun a => if a = c then s else as a) a < 8 := by
          intro a g1 g2
          dsimp only
          by_cases q : a = c
          · rw [if_pos q, q, q_ups]
            exact ⟨rfl, by omega⟩
          · rw [if_neg q, q_upo (fun z => q z.2)]
            exact hasm a g1 (by omega)
        refine g_Vi 59 [_, _] _ dX8_tries_56 rfl m_X8_tries l_X8_189 rfl rfl rfl (by decide) (hrec (fun a => if a = c then s else as a) _ (q_MF.of hFm hsw) hl2) rfl (Nat.le_of_ble_eq_true rfl) (by omega) (fun v56 μ56 ρ56 hc9 => ?_)
        obtain ⟨rfl, hsp⟩ := hc9
        rw [q_lf_up hc1] at hsp
        refine g_if_eq 64 62 dX8_tries_59 rfl (by decide) (fun h59 => ?_) (fun h59 => ?_)
        · refine g_iinc 67 (_ + 1) dX8_tries_64 rfl rfl rfl (by decide) ?_
          refine g_goto 27 dX8_tries_67 (by decide) ?_
          rw [nI_1]
          have n1 := q_trP_none hsp h59
          obtain ⟨f1, f2, f3⟩ := hsp
          refine g_lv [(0, _), (1, _), (2, _), (3, _)] rfl ?_
          have h9 := ih (s + 1) (by omega) μ56 (fun cc j g1 => ?_) (fun x hx => ?_)
          · have et : q_tr2 (q_cm2 op cl len pc) most f c (fun s => q_lf as s c) s = none := by
              unfold q_tr2
              rw [if_pos (q_b_n.mp h38), n1]
              rfl
            rw [q_ft, et]
            exact h9
          · rw [f1 cc j g1, hsw cc j g1]; exact hf cc j g1
          · rw [f2 x (by omega), q_upo (by omega)]; exact h66 x hx
        · refine g_iconst 63 1 dX8_tries_62 rfl (by decide) ?_
          exact g_rz dX8_tries_63 rfl (by first | exact Or.inl rfl | exact Or.inr rfl | assumption) rfl (by
      obtain ⟨g, e1, e3⟩ := q_trP_some hsp h59
      obtain ⟨f1, f2, f3⟩ := hsp
      refine ⟨rfl, fun cc j g1 => ?_, fun x hx => ?_, ?_⟩
      · rw [f1 cc j g1, hsw cc j g1]; exact hf cc j g1
      · rw [f2 x (by omega), q_upo (by omega)]; exact h66 x hx
      · have et : q_tr2 (q_cm2 op cl len pc) most f c (fun s => q_lf as s c) s = some (fun x => if x = c then s else g x) := by
          unfold q_tr2
          rw [if_pos (q_b_n.mp h38), e1]
          rfl
        have ef : q_ft (q_tr2 (q_cm2 op cl len pc) most f c (fun s => q_lf as s c)) (n + 1) s = some (fun x => if x = c then s else g x) := by
          rw [q_ft, et]
        rw [ef]
        refine ⟨rfl, fun x hx1 hx2 => ?_⟩
        dsimp only
        by_cases q : x = c
        · rw [if_pos q, q, f2 c (by omega), q_ups]
        · rw [if_neg q]; exact e3 x (by omega) hx2)
      · refine g_goto 64 dX8_tries_41 (by decide) ?_
        refine g_iinc 67 (_ + 1) dX8_tries_64 rfl rfl rfl (by decide) ?_
        refine g_goto 27 dX8_tries_67 (by decide) ?_
        rw [nI_1]
        refine g_lv [(0, _), (1, _), (2, _), (3, _)] rfl ?_
        have h9 := ih (s + 1) (by omega) μ hf h66
        have et : q_tr2 (q_cm2 op cl len pc) most f c (fun s => q_lf as s c) s = none := by
          unfold q_tr2
          rw [if_neg (q_b_0.mp h38)]
        rw [q_ft, et]
        exact h9
set_option maxRecDepth 100000 in
set_option maxHeartbeats 8000000 in
theorem c_tries {N most : Nat} {cm : Nat → Nat} {op cl len : Nat → Int32} {pc : Int32} (hmo : most ≤ 7) : ∀ f c as μ, 1 ≤ c → c + f = N + 1 → q_MF μ N cm op cl len pc → (∀ a, 1 ≤ a → a < c → μ 141 a = nI (as a) ∧ as a < 8) → q_Ct C l FX8_tries (3 + (8 - c)) 142 142 [.ref (q_a C 122), .int (nI c), .int (nI most)] μ (q_ρ b) (q_PI fun v μ' ρ' => q_ρ b = ρ' ∧ q_trP N c (q_tr (q_cm2 op cl len pc) most f c (fun s => q_lf as s c)) μ v μ') := by
  intro f
  induction f with
  | zero =>
    intro c as μ hc1 hcN hF has
    have hN7 := hF.1
    exact (c_triesE hF (8 - c) c (by omega) (by omega)).weak (fun r μ' ρ' h => by obtain ⟨v, rfl, rfl, rfl, rfl⟩ := h; exact ⟨_, rfl, rfl, fun _ _ _ => rfl, fun _ _ => rfl, rfl, fun x h1 h2 => by omega⟩)
  | succ f ih =>
    intro c as μ hc1 hcN hF has
    have hN7 := hF.1
    refine q_entry rfl (by decide) (Nat.le_of_ble_eq_true rfl) ?_
    refine g_lv [(0, _), (1, _), (2, _)] rfl ?_
    refine g_iload_n 1 dX8_tries_0 rfl rfl ?_
    refine g_bipush 3 8 dX8_tries_1 rfl (by decide) ?_
    refine g_icmp_ne 8 6 dX8_tries_3 rfl (by decide) (fun h3 => ?_) (fun h3 => ?_)
    · refine g_aload_n 9 dX8_tries_8 rfl rfl ?_
      refine g_iload_n 10 dX8_tries_9 rfl rfl ?_
      obtain ⟨i, rfl⟩ : ∃ i, c = i + 1 := ⟨c - 1, by omega⟩
      refine g_Vi 13 [_] _ dX8_tries_10 rfl m_X8_isNeeded l_X8_180 rfl rfl rfl (by decide) (c_need hF (i := i) (by omega)) rfl (Nat.le_of_ble_eq_true rfl) (by omega) (fun v10 μ10 ρ10 hc9 => ?_)
      obtain ⟨rfl, rfl, rfl⟩ := hc9
      refine g_if_ne 25 16 dX8_tries_13 rfl (by decide) (fun h13 => ?_) (fun h13 => ?_)
      · refine g_iconst 26 0 dX8_tries_25 rfl (by decide) ?_
        refine g_istore_n 27 dX8_tries_26 rfl (by decide) ?_
        refine g_lv [(0, _), (1, _), (2, _), (3, .int (nI 0))] rfl ?_
        rw [show 3 + (8 - (i + 1)) = 4 + (7 - (i + 1)) by omega]
        exact lp_tries (c := i + 1) (f := f) hmo hc1 (by omega) hF has (fun as2 μ2 g1 g2 => by have h9 := ih (i + 1 + 1) as2 μ2 (by omega) (by omega) g1 g2; rw [show 8 - (i + 1 + 1) = 7 - (i + 1) by omega] at h9; exact h9) most 0 (by omega) μ (fun _ _ _ => rfl) (fun _ _ => rfl)
      · exact (q_b_0.mp h13 (by omega)).elim
    · exact absurd ((nI_eq (a := c) (b := 8) (by omega) (by omega)).mp h3) (by omega)
end KM
