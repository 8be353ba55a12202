/-! ===== sets and the plan: the class ===== -/
theorem q_ft_congr {T T' : Nat → Option (Nat → Nat)} : ∀ n s, (∀ t, s ≤ t → t < s + n → T t = T' t) → q_ft T n s = q_ft T' n s
  | 0, _, _ => rfl
  | n + 1, s, h => by
    unfold q_ft
    rw [h s (by omega) (by omega)]
    cases T' s with
    | some g => rfl
    | none => exact q_ft_congr n (s + 1) (fun t h1 h2 => h t (by omega) (by omega))
theorem q_se_congr {can can' : Nat → Nat → Bool} {most : Nat} : ∀ f c used la, (∀ c' a, c ≤ c' → c' < c + f → 1 ≤ a → a < c' → can c' a = can' c' a) → (∀ s, s < used → 1 ≤ la s ∧ la s < c) → 1 ≤ c → q_se can most f c used la = q_se can' most f c used la
  | 0, _, _, _, _, _, _ => rfl
  | f + 1, c, used, la, h, hl, hc => by
    unfold q_se
    refine q_ft_congr _ _ (fun s h1 h2 => ?_)
    have hsu : s ≤ used := by omega
    by_cases e : s = used
    · rw [if_pos (Or.inl e), if_pos (Or.inl e), if_pos e]
      rw [q_se_congr f (c + 1) (used + 1) (q_la la s c) (fun c' a g1 g2 g3 g4 => h c' a (by omega) (by omega) g3 g4) (fun t ht => ?_) (by omega)]
      unfold q_la
      by_cases q : t = s
      · rw [if_pos q]; omega
      · rw [if_neg q]; have := hl t (by omega); omega
    · have hs : s < used := by omega
      rw [h c (la s) (Nat.le_refl _) (by omega) (hl s hs).1 (hl s hs).2]
      by_cases e2 : can' c (la s) = true
      · rw [if_pos (Or.inr e2), if_pos (Or.inr e2), if_neg e]
        rw [q_se_congr f (c + 1) used (q_la la s c) (fun c' a g1 g2 g3 g4 => h c' a (by omega) (by omega) g3 g4) (fun t ht => ?_) (by omega)]
        unfold q_la
        by_cases q : t = s
        · rw [if_pos q]; omega
        · rw [if_neg q]; have := hl t (by omega); omega
      · rw [if_neg (fun z => z.elim e e2), if_neg (fun z => z.elim e e2)]
def q_fu (g : Nat → Nat) (s : Nat) : Nat → Nat → Nat
  | 0, _ => 0
  | k + 1, x => if g x = s then x else q_fu g s k (x + 1)
def q_lu (g : Nat → Nat) (s : Nat) : Nat → Nat
  | 0 => 0
  | x + 1 => if g (x + 1) = s then x + 1 else q_lu g s x
section PL
variable {C : q_C} {l : Launch} {μ : q_M} {b : Bool}
set_option maxRecDepth 100000 in
set_option maxHeartbeats 8000000 in
theorem c_share {N most : Nat} {op cl km : Nat → Int32} {pc : Int32} (hN : N ≤ 7) (hmo : most ≤ 7) : ∀ f c used la μ, 1 ≤ c → c + f = N + 1 → used < c → q_KF μ N op cl km pc → (∀ s, s < used → μ 68 s = nI (la s) ∧ la s < c) → q_Ct C l FX2_share (3 + f) 142 142 [.ref (q_a C 63), .int (nI c), .int (nI used), .int (nI most)] μ (q_ρ b) (q_PI fun v μ' ρ' => q_ρ b = ρ' ∧ q_shP N c (q_se (q_cn op cl km pc) most f c used la) μ v μ') := by
  intro f
  induction f with
  | zero =>
    intro c used la μ hc1 hcN hu hKF hla
    refine q_entry rfl (by decide) (Nat.le_of_ble_eq_true rfl) ?_
    refine g_lv [(0, _), (1, _), (2, _), (3, _)] rfl ?_
    refine g_iload_n 1 dX2_share_0 rfl rfl ?_
    refine g_aload_n 2 dX2_share_1 rfl rfl ?_
    refine g_getI 5 dX2_share_2 rfl f_X2_27 (by decide) rfl rfl ?_
    rw [hKF.1]
    refine g_icmp_gt 14 8 dX2_share_5 rfl (by decide) (fun h5 => ?_) (fun h5 => ?_)
    · refine g_iconst 15 1 dX2_share_14 rfl (by decide) ?_
      exact g_rz dX2_share_15 rfl (by first | exact Or.inl rfl | exact Or.inr rfl | assumption) rfl ⟨rfl, fun _ _ _ _ => rfl, fun _ _ => rfl, rfl, fun x h1 h2 => by omega⟩
    · exact absurd (nI_lt (by omega) (by omega)) h5
  | succ f ih =>
    intro c used la μ hc1 hcN hu hKF hla
    refine q_entry rfl (by decide) (Nat.le_of_ble_eq_true rfl) ?_
    refine g_lv [(0, _), (1, _), (2, _), (3, _)] rfl ?_
    refine g_iload_n 1 dX2_share_0 rfl rfl ?_
    refine g_aload_n 2 dX2_share_1 rfl rfl ?_
    refine g_getI 5 dX2_share_2 rfl f_X2_27 (by decide) rfl rfl ?_
    rw [hKF.1]
    refine g_icmp_gt 14 8 dX2_share_5 rfl (by decide) (fun h5 => ?_) (fun h5 => ?_)
    · exact absurd h5 (nI_nlt (by omega) (by omega))
    · refine g_iload_n 9 dX2_share_8 rfl rfl ?_
      refine g_bipush 11 8 dX2_share_9 rfl (by decide) ?_
      refine g_icmp_lt 16 14 dX2_share_11 rfl (by decide) (fun h11 => ?_) (fun h11 => ?_)
      · refine g_iconst 17 0 dX2_share_16 rfl (by decide) ?_
        refine g_istore 19 dX2_share_17 rfl (by decide) ?_
        refine g_lv [(0, _), (1, _), (2, _), (3, _), (4, .int (nI 0))] rfl ?_
        rw [show 3 + (f + 1) = 4 + f by omega]
        exact lp_share hN hmo hc1 (by omega) hu hKF hla (fun used2 la2 μ2 h1 h2 h3 => ih (c + 1) used2 la2 μ2 (by omega) (by omega) (by omega) h2 (fun s hs => ⟨(h3 s hs).1, by have := (h3 s hs).2; omega⟩)) (min (used + 1) most) 0 (by omega) μ (fun _ _ _ _ => rfl) (fun _ _ => rfl) (fun _ => rfl)
      · exact absurd (nI_lt (a := c) (b := 8) (by omega) (by omega)) h11
set_option maxRecDepth 100000 in
set_option maxHeartbeats 8000000 in
theorem lp_few {N n0 : Nat} {op cl km : Nat → Int32} {pc : Int32} {g : Nat → Nat} {μ0 : q_M} (hN : N ≤ 7) (hn : n0 ≤ N) (hy : q_se (q_cn op cl km pc) n0 N 1 0 (fun _ => 0) = some g) (hno : ∀ m, m < n0 → q_se (q_cn op cl km pc) m N 1 0 (fun _ => 0) = none) (hKF : q_KF μ0 N op cl km pc) : ∀ k m, m + k = n0 → ∀ μ, (∀ cc j, cc ≠ 66 → cc ≠ 68 → μ cc j = μ0 cc j) → q_G C l FX2_fewestSets 12 142 142 (q_PI fun v μ' ρ' => q_ρ b = ρ' ∧ v = nI n0 ∧ (∀ cc j, cc ≠ 66 → cc ≠ 68 → μ' cc j = μ0 cc j) ∧ ∀ x, 1 ≤ x → x ≤ N → μ' 66 x = nI (g x)) 142 μ (q_ρ b) [(0, .ref (q_a C 63)), (1, .int (nI m))] [] 2 := by
  intro k
  induction k with
  | zero =>
    intro m hm μ hf
    refine g_iload_n 3 dX2_fewestSets_2 rfl rfl ?_
    refine g_aload_n 4 dX2_fewestSets_3 rfl rfl ?_
    refine g_getI 7 dX2_fewestSets_4 rfl f_X2_27 (by decide) rfl rfl ?_
    rw [hf 63 6 (by decide) (by decide), hKF.1]
    refine g_icmp_gt 28 10 dX2_fewestSets_7 rfl (by decide) (fun h7 => ?_) (fun h7 => ?_)
    · exact absurd h7 (nI_nlt (by omega) (by omega))
    · refine g_aload_n 11 dX2_fewestSets_10 rfl rfl ?_
      refine g_iconst 12 1 dX2_fewestSets_11 rfl (by decide) ?_
      refine g_iconst 13 0 dX2_fewestSets_12 rfl (by decide) ?_
      refine g_iload_n 14 dX2_fewestSets_13 rfl rfl ?_
      refine g_Vi 17 [_, _, _] _ dX2_fewestSets_14 rfl m_X2_share l_X2_58 rfl rfl rfl (by decide) (c_share (op := op) (cl := cl) (km := km) (pc := pc) (N := N) (most := m) hN (by omega) N 1 0 (fun _ => 0) μ (by omega) (by omega) (by omega) (q_KF.of hKF hf) (fun s hs => absurd hs (Nat.not_lt_zero _))) rfl (Nat.le_of_ble_eq_true rfl) (by omega) (fun v14 μ14 ρ14 hc9 => ?_)
      obtain ⟨rfl, hsp⟩ := hc9
      rw [show m = n0 by omega, hy] at hsp
      refine g_if_eq 22 20 dX2_fewestSets_17 rfl (by decide) (fun h17 => ?_) (fun h17 => ?_)
      · exact absurd (hsp.2.2.1.symm.trans h17) (by decide)
      · refine g_iload_n 21 dX2_fewestSets_20 rfl rfl ?_
        exact g_ri dX2_fewestSets_21 rfl rfl ⟨rfl, by rw [show m = n0 by omega], fun cc j g1 g2 => by rw [hsp.1 cc j g1 g2]; exact hf cc j g1 g2, hsp.2.2.2⟩
  | succ k ih =>
    intro m hm μ hf
    refine g_iload_n 3 dX2_fewestSets_2 rfl rfl ?_
    refine g_aload_n 4 dX2_fewestSets_3 rfl rfl ?_
    refine g_getI 7 dX2_fewestSets_4 rfl f_X2_27 (by decide) rfl rfl ?_
    rw [hf 63 6 (by decide) (by decide), hKF.1]
    refine g_icmp_gt 28 10 dX2_fewestSets_7 rfl (by decide) (fun h7 => ?_) (fun h7 => ?_)
    · exact absurd h7 (nI_nlt (by omega) (by omega))
    · refine g_aload_n 11 dX2_fewestSets_10 rfl rfl ?_
      refine g_iconst 12 1 dX2_fewestSets_11 rfl (by decide) ?_
      refine g_iconst 13 0 dX2_fewestSets_12 rfl (by decide) ?_
      refine g_iload_n 14 dX2_fewestSets_13 rfl rfl ?_
      refine g_Vi 17 [_, _, _] _ dX2_fewestSets_14 rfl m_X2_share l_X2_58 rfl rfl rfl (by decide) (c_share (op := op) (cl := cl) (km := km) (pc := pc) (N := N) (most := m) hN (by omega) N 1 0 (fun _ => 0) μ (by omega) (by omega) (by omega) (q_KF.of hKF hf) (fun s hs => absurd hs (Nat.not_lt_zero _))) rfl (Nat.le_of_ble_eq_true rfl) (by omega) (fun v14 μ14 ρ14 hc9 => ?_)
      obtain ⟨rfl, hsp⟩ := hc9
      rw [hno m (by omega)] at hsp
      refine g_if_eq 22 20 dX2_fewestSets_17 rfl (by decide) (fun h17 => ?_) (fun h17 => ?_)
      · refine g_iinc 25 (_ + 1) dX2_fewestSets_22 rfl rfl rfl (by decide) ?_
        refine g_goto 2 dX2_fewestSets_25 (by decide) ?_
        rw [nI_1]
        refine g_lv [(0, _), (1, _)] rfl ?_
        exact ih (m + 1) (by omega) _ (fun cc j g1 g2 => by rw [hsp.1 cc j g1 g2]; exact hf cc j g1 g2)
      · exact absurd hsp.2.2.1 h17
set_option maxRecDepth 100000 in
set_option maxHeartbeats 4000000 in
theorem c_few {N n0 : Nat} {op cl km : Nat → Int32} {pc : Int32} {g : Nat → Nat} (hN : N ≤ 7) (hn : n0 ≤ N) (hy : q_se (q_cn op cl km pc) n0 N 1 0 (fun _ => 0) = some g) (hno : ∀ m, m < n0 → q_se (q_cn op cl km pc) m N 1 0 (fun _ => 0) = none) (hKF : q_KF μ N op cl km pc) : q_Ct C l FX2_fewestSets 12 142 142 [.ref (q_a C 63)] μ (q_ρ b) (q_PI fun v μ' ρ' => q_ρ b = ρ' ∧ v = nI n0 ∧ (∀ cc j, cc ≠ 66 → cc ≠ 68 → μ' cc j = μ cc j) ∧ ∀ x, 1 ≤ x → x ≤ N → μ' 66 x = nI (g x)) := by
  refine q_entry rfl (by decide) (Nat.le_of_ble_eq_true rfl) ?_
  refine g_lv [(0, _)] rfl ?_
  refine g_iconst 1 0 dX2_fewestSets_0 rfl (by decide) ?_
  refine g_istore_n 2 dX2_fewestSets_1 rfl (by decide) ?_
  refine g_lv [(0, _), (1, .int (nI 0))] rfl ?_
  exact lp_few hN hn hy hno hKF n0 0 (by omega) μ (fun _ _ _ _ => rfl)
set_option maxRecDepth 100000 in
set_option maxHeartbeats 4000000 in
theorem lp_fc {N s : Nat} {g : Nat → Nat} (hN : N ≤ 7) (hs : s < 8) (hg : ∀ x, 1 ≤ x → x ≤ N → μ 66 x = nI (g x) ∧ g x < 8) (hn : μ 63 6 = nI N) : ∀ k x, 1 ≤ x → x + k = N + 1 → q_G C l FX2_firstCampOf 0 142 142 (q_is (nI (q_fu g s k x)) μ (q_ρ b)) 142 μ (q_ρ b) [(0, .ref (q_a C 63)), (1, .int (nI s)), (2, .int (nI x))] [] 2 := by
  intro k
  induction k with
  | zero =>
    intro x hx1 hx
    refine g_iload_n 3 dX2_firstCampOf_2 rfl rfl ?_
    refine g_aload_n 4 dX2_firstCampOf_3 rfl rfl ?_
    refine g_getI 7 dX2_firstCampOf_4 rfl f_X2_27 (by decide) rfl rfl ?_
    rw [hn]
    refine g_icmp_gt 28 10 dX2_firstCampOf_7 rfl (by decide) (fun h7 => ?_) (fun h7 => ?_)
    · refine g_iconst 29 0 dX2_firstCampOf_28 rfl (by decide) ?_
      exact g_ri dX2_firstCampOf_29 rfl rfl ⟨rfl, rfl, rfl⟩
    · exact absurd (nI_lt (by omega) (by omega)) h7
  | succ k ih =>
    intro x hx1 hx
    refine g_iload_n 3 dX2_firstCampOf_2 rfl rfl ?_
    refine g_aload_n 4 dX2_firstCampOf_3 rfl rfl ?_
    refine g_getI 7 dX2_firstCampOf_4 rfl f_X2_27 (by decide) rfl rfl ?_
    rw [hn]
    refine g_icmp_gt 28 10 dX2_firstCampOf_7 rfl (by decide) (fun h7 => ?_) (fun h7 => ?_)
    · exact absurd h7 (nI_nlt (by omega) (by omega))
    · refine g_aload_n 11 dX2_firstCampOf_10 rfl rfl ?_
      refine g_getR 14 _ dX2_firstCampOf_11 rfl f_X2_18 (by decide) rfl rfl rfl ?_
      refine g_iload_n 15 dX2_firstCampOf_14 rfl rfl ?_
      refine g_iald 16 dX2_firstCampOf_15 rfl (by decide) rfl (vp_in_nI (show x < 8 by omega) (by omega)) ?_
      rw [nI_clamp (show x < 2 ^ 31 by omega), (hg x (by omega) (by omega)).1]
      refine g_iload_n 17 dX2_firstCampOf_16 rfl rfl ?_
      refine g_icmp_ne 22 20 dX2_firstCampOf_17 rfl (by decide) (fun h17 => ?_) (fun h17 => ?_)
      · refine g_iinc 25 (_ + 1) dX2_firstCampOf_22 rfl rfl rfl (by decide) ?_
        refine g_goto 2 dX2_firstCampOf_25 (by decide) ?_
        rw [nI_1]
        refine g_lv [(0, _), (1, _), (2, _)] rfl ?_
        have h9 := ih (x + 1) (by omega) (by omega)
        rw [q_fu, if_neg (fun q => h17 (by rw [q]))]
        exact h9
      · refine g_iload_n 21 dX2_firstCampOf_20 rfl rfl ?_
        exact g_ri dX2_firstCampOf_21 rfl rfl ⟨by rw [q_fu, if_pos ((nI_eq (by have := (hg x (by omega) (by omega)).2; omega) (by omega)).mp h17)], rfl, rfl⟩
set_option maxRecDepth 100000 in
set_option maxHeartbeats 4000000 in
theorem c_fc {N s : Nat} {g : Nat → Nat} (hN : N ≤ 7) (hs : s < 8) (hg : ∀ x, 1 ≤ x → x ≤ N → μ 66 x = nI (g x) ∧ g x < 8) (hn : μ 63 6 = nI N) : q_Ct C l FX2_firstCampOf 0 142 142 [.ref (q_a C 63), .int (nI s)] μ (q_ρ b) (q_is (nI (q_fu g s N 1)) μ (q_ρ b)) := by
  refine q_entry rfl (by decide) (Nat.le_of_ble_eq_true rfl) ?_
  refine g_lv [(0, _), (1, _)] rfl ?_
  refine g_iconst 1 1 dX2_firstCampOf_0 rfl (by decide) ?_
  refine g_istore_n 2 dX2_firstCampOf_1 rfl (by decide) ?_
  refine g_lv [(0, _), (1, _), (2, .int (nI 1))] rfl ?_
  exact lp_fc hN hs hg hn N 1 (by omega) (by omega)
set_option maxRecDepth 100000 in
set_option maxHeartbeats 4000000 in
theorem lp_lc {N s : Nat} {g : Nat → Nat} (hN : N ≤ 7) (hs : s < 8) (hg : ∀ x, 1 ≤ x → x ≤ N → μ 66 x = nI (g x) ∧ g x < 8) (hn : μ 63 6 = nI N) : ∀ x, x ≤ N → q_G C l FX2_lastCampOf 0 142 142 (q_is (nI (q_lu g s x)) μ (q_ρ b)) 142 μ (q_ρ b) [(0, .ref (q_a C 63)), (1, .int (nI s)), (2, .int (nI x))] [] 5 := by
  intro x
  induction x with
  | zero =>
    intro hx
    refine g_iload_n 6 dX2_lastCampOf_5 rfl rfl ?_
    refine g_if_le 27 9 dX2_lastCampOf_6 rfl (by decide) (fun h6 => ?_) (fun h6 => ?_)
    · refine g_iconst 28 0 dX2_lastCampOf_27 rfl (by decide) ?_
      exact g_ri dX2_lastCampOf_28 rfl rfl ⟨rfl, rfl, rfl⟩
    · exact absurd (by decide) h6
  | succ x ih =>
    intro hx
    refine g_iload_n 6 dX2_lastCampOf_5 rfl rfl ?_
    refine g_if_le 27 9 dX2_lastCampOf_6 rfl (by decide) (fun h6 => ?_) (fun h6 => ?_)
    · exact absurd h6 (nI_nle (by omega) (by omega))
    · refine g_aload_n 10 dX2_lastCampOf_9 rfl rfl ?_
      refine g_getR 13 _ dX2_lastCampOf_10 rfl f_X2_18 (by decide) rfl rfl rfl ?_
      refine g_iload_n 14 dX2_lastCampOf_13 rfl rfl ?_
      refine g_iald 15 dX2_lastCampOf_14 rfl (by decide) rfl (vp_in_nI (show x + 1 < 8 by omega) (by omega)) ?_
      rw [nI_clamp (show x + 1 < 2 ^ 31 by omega), (hg (x + 1) (by omega) (by omega)).1]
      refine g_iload_n 16 dX2_lastCampOf_15 rfl rfl ?_
      refine g_icmp_ne 21 19 dX2_lastCampOf_16 rfl (by decide) (fun h16 => ?_) (fun h16 => ?_)
      · refine g_iinc 24 (_ + (-1)) dX2_lastCampOf_21 rfl rfl rfl (by decide) ?_
        refine g_goto 5 dX2_lastCampOf_24 (by decide) ?_
        rw [show nI (x + 1) + -1 = nI x from pk_m1 x]
        refine g_lv [(0, _), (1, _), (2, _)] rfl ?_
        have h9 := ih (by omega)
        rw [q_lu, if_neg (fun q => h16 (by rw [q]))]
        exact h9
      · refine g_iload_n 20 dX2_lastCampOf_19 rfl rfl ?_
        exact g_ri dX2_lastCampOf_20 rfl rfl ⟨by rw [q_lu, if_pos ((nI_eq (by have := (hg (x + 1) (by omega) (by omega)).2; omega) (by omega)).mp h16)], rfl, rfl⟩
set_option maxRecDepth 100000 in
set_option maxHeartbeats 4000000 in
theorem c_lc {N s : Nat} {g : Nat → Nat} (hN : N ≤ 7) (hs : s < 8) (hg : ∀ x, 1 ≤ x → x ≤ N → μ 66 x = nI (g x) ∧ g x < 8) (hn : μ 63 6 = nI N) : q_Ct C l FX2_lastCampOf 0 142 142 [.ref (q_a C 63), .int (nI s)] μ (q_ρ b) (q_is (nI (q_lu g s N)) μ (q_ρ b)) := by
  refine q_entry rfl (by decide) (Nat.le_of_ble_eq_true rfl) ?_
  refine g_lv [(0, _), (1, _)] rfl ?_
  refine g_aload_n 1 dX2_lastCampOf_0 rfl rfl ?_
  refine g_getI 4 dX2_lastCampOf_1 rfl f_X2_27 (by decide) rfl rfl ?_
  rw [hn]
  refine g_istore_n 5 dX2_lastCampOf_4 rfl (by decide) ?_
  refine g_lv [(0, _), (1, _), (2, _)] rfl ?_
  exact lp_lc hN hs hg hn N (Nat.le_refl _)
/-- camps 1 .. i of the plan stand -/
def q_PN (μ0 μ : q_M) (op cl km : Nat → Int32) (i : Nat) : Prop :=
  (∀ cc j, cc ≠ 63 → cc ≠ 64 → cc ≠ 65 → cc ≠ 67 → μ cc j = μ0 cc j) ∧ μ 63 6 = nI i ∧ μ 63 7 = μ0 69 2 ∧ ∀ x, 1 ≤ x → x ≤ i → μ 64 x = op x ∧ μ 65 x = cl x ∧ μ 67 x = km x
/-- what the plan needs of the race -/
def q_PI0 (μ0 : q_M) (N : Nat) (cm : Nat → Nat) (o : Nat → Nat → Nat) (op cl km : Nat → Int32) : Prop :=
  N ≤ 7 ∧ (∀ i, i < N → 0 < cm i) ∧ (N < 7 → cm N = 0) ∧ (∀ i, i < 7 → cm i ≤ 10 ∧ μ0 60 i = nI (cm i) ∧ ∀ j, j < cm i → μ0 (53 + i) j = nI (o i j) ∧ o i j < 10) ∧
  ∀ i, i < N → op (i + 1) = q_fa (μ0 (29 + i)) (o i) (cm i) - μ0 69 0 ∧ cl (i + 1) = q_lb (μ0 (29 + i)) (o i) (cm i) + μ0 69 1 ∧ km (i + 1) = q_sum (μ0 2) (i + 1)
theorem q_fz {μ0 μ : q_M} {op cl km : Nat → Int32} {i : Nat} (h : q_PN μ0 μ op cl km i) (c : Nat) (h1 : c ≠ 63) (h2 : c ≠ 64) (h3 : c ≠ 65) (h4 : c ≠ 67) : μ c = μ0 c := funext fun j => h.1 c j h1 h2 h3 h4
set_option maxRecDepth 100000 in
set_option maxHeartbeats 8000000 in
theorem lp_plan {N n0 : Nat} {cm : Nat → Nat} {o : Nat → Nat → Nat} {op cl km : Nat → Int32} {g : Nat → Nat} {μ0 : q_M} (hP : q_PI0 μ0 N cm o op cl km) (hn : n0 ≤ N) (hy : q_se (q_cn op cl km (μ0 69 2)) n0 N 1 0 (fun _ => 0) = some g) (hno : ∀ m, m < n0 → q_se (q_cn op cl km (μ0 69 2)) m N 1 0 (fun _ => 0) = none) : ∀ k i, i + k = N → ∀ μ, q_PN μ0 μ op cl km i → q_G C l FX2_plan 13 142 142 (q_PV fun μ' ρ' => q_ρ b = ρ' ∧ (∀ cc j, (cc < 63 ∨ 68 < cc) → μ' cc j = μ0 cc j) ∧ μ' 63 3 = nI n0 ∧ μ' 63 6 = nI N ∧ ∀ x, 1 ≤ x → x ≤ N → μ' 64 x = op x ∧ μ' 65 x = cl x ∧ μ' 66 x = nI (g x)) 142 μ (q_ρ b) [(0, .ref (q_a C 63)), (1, .ref (q_a C 1)), (2, .ref (q_a C 11)), (3, .ref (q_a C 69)), (4, .int (nI (i + 1)))] [] 15 := by
  intro k
  induction k with
  | zero =>
    intro i hi μ hq
    have hN := hP.1
    refine g_iload 17 dX2_plan_15 rfl rfl ?_
    refine g_bipush 19 8 dX2_plan_17 rfl (by decide) ?_
    refine g_icmp_ge 97 22 dX2_plan_19 rfl (by decide) (fun h19 => ?_) (fun h19 => ?_)
    · have hcan : ∀ c' a, 1 ≤ c' → c' < 1 + N → 1 ≤ a → a < c' → q_cn op cl km (μ0 69 2) c' a = q_cn (μ 64) (μ 65) (μ 67) (μ0 69 2) c' a := by
        intro c' a g1 g2 g3 g4
        unfold q_cn
        rw [(hq.2.2.2 c' g1 (by omega)).1, (hq.2.2.2 a g3 (by omega)).2.1, (hq.2.2.2 c' g1 (by omega)).2.2, (hq.2.2.2 a g3 (by omega)).2.2]
      have hcg : ∀ m, q_se (q_cn op cl km (μ0 69 2)) m N 1 0 (fun _ => 0) = q_se (q_cn (μ 64) (μ 65) (μ 67) (μ0 69 2)) m N 1 0 (fun _ => 0) := fun m => q_se_congr N 1 0 (fun _ => 0) hcan (fun s hs => absurd hs (Nat.not_lt_zero _)) (by omega)
      have hy2 := (hcg n0).symm.trans hy
      have hno2 : ∀ m, m < n0 → q_se (q_cn (μ 64) (μ 65) (μ 67) (μ0 69 2)) m N 1 0 (fun _ => 0) = none := fun m hm => (hcg m).symm.trans (hno m hm)
      refine g_aload_n 98 dX2_plan_97 rfl rfl ?_
      refine g_aload_n 99 dX2_plan_98 rfl rfl ?_
      refine g_Vi 102 [] _ dX2_plan_99 rfl m_X2_fewestSets l_X2_51 rfl rfl rfl (by decide) (c_few (N := N) (n0 := n0) (op := μ 64) (cl := μ 65) (km := μ 67) (pc := μ0 69 2) (g := g) hP.1 hn hy2 hno2 ⟨by rw [hq.2.1, show i = N by omega], hq.2.2.1, rfl, rfl, rfl⟩) rfl (Nat.le_of_ble_eq_true rfl) (by decide) (fun v99 μ99 ρ99 hc9 => ?_)
      obtain ⟨rfl, rfl, hf, hg⟩ := hc9
      refine g_putI 105 dX2_plan_102 rfl f_X2_55 (by decide) rfl rfl (Or.inl rfl) ?_
      exact g_rv dX2_plan_105 rfl rfl (by
      refine ⟨rfl, fun cc j hcc => ?_, q_ups, ?_, fun x h1 h2 => ⟨?_, ?_, ?_⟩⟩
      · rw [q_upc (by omega), hf cc j (by omega) (by omega)]; exact hq.1 cc j (by omega) (by omega) (by omega) (by omega)
      · rw [q_upo (by omega), hf 63 6 (by decide) (by decide), hq.2.1, show i = N by omega]
      · rw [q_upc (by decide), hf 64 x (by decide) (by decide)]; exact (hq.2.2.2 x h1 (by omega)).1
      · rw [q_upc (by decide), hf 65 x (by decide) (by decide)]; exact (hq.2.2.2 x h1 (by omega)).2.1
      · rw [q_upc (by decide)]; exact hg x h1 h2)
    · refine g_aload_n 23 dX2_plan_22 rfl rfl ?_
      refine g_getR 26 _ dX2_plan_23 rfl f_X2_34 (by decide) rfl rfl rfl ?_
      refine g_iload 28 dX2_plan_26 rfl rfl ?_
      refine g_iconst 29 1 dX2_plan_28 rfl (by decide) ?_
      refine g_isub 30 dX2_plan_29 rfl ?_
      have hN7 : i < 7 := by
        rcases Nat.lt_or_ge i 7 with q | q
        · exact q
        · exact absurd (nI_le (a := 8) (b := i + 1) (by omega) (by omega)) h19
      rw [nI_pred]
      refine g_iald 31 dX2_plan_30 rfl (by decide) rfl (vp_in_nI hN7 (by omega)) ?_
      rw [nI_clamp (show i < 2 ^ 31 by omega), q_fz hq 60 (by decide) (by decide) (by decide) (by decide), (hP.2.2.2.1 i hN7).2.1, show cm i = 0 from by rw [show i = N by omega]; exact hP.2.2.1 (by omega)]
      refine g_if_le 97 34 dX2_plan_31 rfl (by decide) (fun h31 => ?_) (fun h31 => ?_)
      · have hcan : ∀ c' a, 1 ≤ c' → c' < 1 + N → 1 ≤ a → a < c' → q_cn op cl km (μ0 69 2) c' a = q_cn (μ 64) (μ 65) (μ 67) (μ0 69 2) c' a := by
          intro c' a g1 g2 g3 g4
          unfold q_cn
          rw [(hq.2.2.2 c' g1 (by omega)).1, (hq.2.2.2 a g3 (by omega)).2.1, (hq.2.2.2 c' g1 (by omega)).2.2, (hq.2.2.2 a g3 (by omega)).2.2]
        have hcg : ∀ m, q_se (q_cn op cl km (μ0 69 2)) m N 1 0 (fun _ => 0) = q_se (q_cn (μ 64) (μ 65) (μ 67) (μ0 69 2)) m N 1 0 (fun _ => 0) := fun m => q_se_congr N 1 0 (fun _ => 0) hcan (fun s hs => absurd hs (Nat.not_lt_zero _)) (by omega)
        have hy2 := (hcg n0).symm.trans hy
        have hno2 : ∀ m, m < n0 → q_se (q_cn (μ 64) (μ 65) (μ 67) (μ0 69 2)) m N 1 0 (fun _ => 0) = none := fun m hm => (hcg m).symm.trans (hno m hm)
        refine g_aload_n 98 dX2_plan_97 rfl rfl ?_
        refine g_aload_n 99 dX2_plan_98 rfl rfl ?_
        refine g_Vi 102 [] _ dX2_plan_99 rfl m_X2_fewestSets l_X2_51 rfl rfl rfl (by decide) (c_few (N := N) (n0 := n0) (op := μ 64) (cl := μ 65) (km := μ 67) (pc := μ0 69 2) (g := g) hP.1 hn hy2 hno2 ⟨by rw [hq.2.1, show i = N by omega], hq.2.2.1, rfl, rfl, rfl⟩) rfl (Nat.le_of_ble_eq_true rfl) (by decide) (fun v99 μ99 ρ99 hc9 => ?_)
        obtain ⟨rfl, rfl, hf, hg⟩ := hc9
        refine g_putI 105 dX2_plan_102 rfl f_X2_55 (by decide) rfl rfl (Or.inl rfl) ?_
        exact g_rv dX2_plan_105 rfl rfl (by
      refine ⟨rfl, fun cc j hcc => ?_, q_ups, ?_, fun x h1 h2 => ⟨?_, ?_, ?_⟩⟩
      · rw [q_upc (by omega), hf cc j (by omega) (by omega)]; exact hq.1 cc j (by omega) (by omega) (by omega) (by omega)
      · rw [q_upo (by omega), hf 63 6 (by decide) (by decide), hq.2.1, show i = N by omega]
      · rw [q_upc (by decide), hf 64 x (by decide) (by decide)]; exact (hq.2.2.2 x h1 (by omega)).1
      · rw [q_upc (by decide), hf 65 x (by decide) (by decide)]; exact (hq.2.2.2 x h1 (by omega)).2.1
      · rw [q_upc (by decide)]; exact hg x h1 h2)
      · exact absurd (by decide) h31
  | succ k ih =>
    intro i hi μ hq
    have hN := hP.1
    have hiN : i < N := by omega
    have hR := hP.2.2.2.1 i (by omega)
    have hE := hP.2.2.2.2 i hiN
    refine g_iload 17 dX2_plan_15 rfl rfl ?_
    refine g_bipush 19 8 dX2_plan_17 rfl (by decide) ?_
    refine g_icmp_ge 97 22 dX2_plan_19 rfl (by decide) (fun h19 => ?_) (fun h19 => ?_)
    · exact absurd h19 (nI_ge (a := i + 1) (b := 8) (by omega) (by omega))
    · refine g_aload_n 23 dX2_plan_22 rfl rfl ?_
      refine g_getR 26 _ dX2_plan_23 rfl f_X2_34 (by decide) rfl rfl rfl ?_
      refine g_iload 28 dX2_plan_26 rfl rfl ?_
      refine g_iconst 29 1 dX2_plan_28 rfl (by decide) ?_
      refine g_isub 30 dX2_plan_29 rfl ?_
      rw [nI_pred]
      refine g_iald 31 dX2_plan_30 rfl (by decide) rfl (vp_in_nI (show i < 7 by omega) (by omega)) ?_
      rw [nI_clamp (show i < 2 ^ 31 by omega), q_fz hq 60 (by decide) (by decide) (by decide) (by decide), hR.2.1]
      refine g_if_le 97 34 dX2_plan_31 rfl (by decide) (fun h31 => ?_) (fun h31 => ?_)
      · exact absurd h31 (nI_nle (hP.2.1 i hiN) (by omega))
      · refine g_aload_n 35 dX2_plan_34 rfl rfl ?_
        refine g_iload 37 dX2_plan_35 rfl rfl ?_
        refine g_putI 40 dX2_plan_37 rfl f_X2_27 (by decide) rfl rfl (Or.inl rfl) ?_
        refine g_aload_n 41 dX2_plan_40 rfl rfl ?_
        refine g_getR 44 _ dX2_plan_41 rfl f_X2_9 (by decide) rfl rfl rfl ?_
        refine g_iload 46 dX2_plan_44 rfl rfl ?_
        refine g_aload_n 47 dX2_plan_46 rfl rfl ?_
        refine g_iload 49 dX2_plan_47 rfl rfl ?_
        refine g_iconst 50 1 dX2_plan_49 rfl (by decide) ?_
        refine g_isub 51 dX2_plan_50 rfl ?_
        rw [nI_pred]
        refine g_Vi 54 [_] _ dX2_plan_51 rfl m_X3_firstArrival l_X2_39 rfl rfl rfl (by decide) (c_fa (i := i) (m := cm i) (o := o i) (by omega) hR.1 (by rw [q_upc (by decide), q_fz hq 60 (by decide) (by decide) (by decide) (by decide)]; exact hR.2.1) (fun j hj => ⟨by rw [q_upc (by omega), q_fz hq (53 + i) (by omega) (by omega) (by omega) (by omega)]; exact (hR.2.2 j hj).1, (hR.2.2 j hj).2⟩)) rfl (Nat.le_of_ble_eq_true rfl) (by decide) (fun v51 μ51 ρ51 hc9 => ?_)
        obtain ⟨rfl, rfl, rfl⟩ := hc9
        rw [show (q_up μ 63 6 (nI (i + 1))) (29 + i) = μ0 (29 + i) from by funext j; rw [q_upc (by omega), q_fz hq (29 + i) (by omega) (by omega) (by omega) (by omega)]]
        refine g_aload_n 55 dX2_plan_54 rfl rfl ?_
        refine g_iconst 56 0 dX2_plan_55 rfl (by decide) ?_
        refine g_iald 57 dX2_plan_56 rfl (by decide) rfl (vp_in_nI (n := 0) (N := 5) (by decide) (by decide)) ?_
        rw [sb_cl0, q_upc (by decide), q_fz hq 69 (by decide) (by decide) (by decide) (by decide)]
        refine g_isub 58 dX2_plan_57 rfl ?_
        rw [← hE.1]
        refine g_iast 59 dX2_plan_58 rfl (by decide) rfl (vp_in_nI (show i + 1 < 8 by omega) (by omega)) ?_
        rw [nI_clamp (show i + 1 < 2 ^ 31 by omega)]
        refine g_aload_n 60 dX2_plan_59 rfl rfl ?_
        refine g_getR 63 _ dX2_plan_60 rfl f_X2_15 (by decide) rfl rfl rfl ?_
        refine g_iload 65 dX2_plan_63 rfl rfl ?_
        refine g_aload_n 66 dX2_plan_65 rfl rfl ?_
        refine g_iload 68 dX2_plan_66 rfl rfl ?_
        refine g_iconst 69 1 dX2_plan_68 rfl (by decide) ?_
        refine g_isub 70 dX2_plan_69 rfl ?_
        rw [nI_pred]
        refine g_Vi 73 [_] _ dX2_plan_70 rfl m_X3_lastArrival l_X2_43 rfl rfl rfl (by decide) (c_lb (i := i) (m := cm i) (o := o i) (by omega) hR.1 (by rw [q_upc (by decide), q_upc (by decide), q_fz hq 60 (by decide) (by decide) (by decide) (by decide)]; exact hR.2.1) (fun j hj => ⟨by rw [q_upc (by omega), q_upc (by omega), q_fz hq (53 + i) (by omega) (by omega) (by omega) (by omega)]; exact (hR.2.2 j hj).1, (hR.2.2 j hj).2⟩)) rfl (Nat.le_of_ble_eq_true rfl) (by decide) (fun v70 μ70 ρ70 hc9 => ?_)
        obtain ⟨rfl, rfl, rfl⟩ := hc9
        rw [show (q_up (q_up μ 63 6 (nI (i + 1))) 64 (i + 1) (op (i + 1))) (29 + i) = μ0 (29 + i) from by funext j; rw [q_upc (by omega), q_upc (by omega), q_fz hq (29 + i) (by omega) (by omega) (by omega) (by omega)]]
        refine g_aload_n 74 dX2_plan_73 rfl rfl ?_
        refine g_iconst 75 1 dX2_plan_74 rfl (by decide) ?_
        refine g_iald 76 dX2_plan_75 rfl (by decide) rfl (vp_in_nI (n := 1) (N := 5) (by decide) (by decide)) ?_
        rw [show (1 : Int32).toNatClampNeg = 1 from rfl, q_upc (by decide), q_upc (by decide), q_fz hq 69 (by decide) (by decide) (by decide) (by decide)]
        refine g_iadd 77 dX2_plan_76 rfl ?_
        rw [← hE.2.1]
        refine g_iast 78 dX2_plan_77 rfl (by decide) rfl (vp_in_nI (show i + 1 < 8 by omega) (by omega)) ?_
        rw [nI_clamp (show i + 1 < 2 ^ 31 by omega)]
        refine g_aload_n 79 dX2_plan_78 rfl rfl ?_
        refine g_getR 82 _ dX2_plan_79 rfl f_X2_21 (by decide) rfl rfl rfl ?_
        refine g_iload 84 dX2_plan_82 rfl rfl ?_
        refine g_aload_n 85 dX2_plan_84 rfl rfl ?_
        refine g_iload 87 dX2_plan_85 rfl rfl ?_
        refine g_Vi 90 [_] _ dX2_plan_87 rfl m_X1_kilometerOf l_X2_46 rfl rfl rfl (by decide) (c_km (i + 1) (by omega)) rfl (Nat.le_of_ble_eq_true rfl) (by decide) (fun v87 μ87 ρ87 hc9 => ?_)
        obtain ⟨rfl, rfl, rfl⟩ := hc9
        rw [show (q_up (q_up (q_up μ 63 6 (nI (i + 1))) 64 (i + 1) (op (i + 1))) 65 (i + 1) (cl (i + 1))) 2 = μ0 2 from by funext j; rw [q_upc (by decide), q_upc (by decide), q_upc (by decide), q_fz hq 2 (by decide) (by decide) (by decide) (by decide)], ← hE.2.2]
        refine g_iast 91 dX2_plan_90 rfl (by decide) rfl (vp_in_nI (show i + 1 < 8 by omega) (by omega)) ?_
        rw [nI_clamp (show i + 1 < 2 ^ 31 by omega)]
        refine g_iinc 94 (_ + 1) dX2_plan_91 rfl rfl rfl (by decide) ?_
        refine g_goto 15 dX2_plan_94 (by decide) ?_
        rw [nI_1]
        refine g_lv [(0, _), (1, _), (2, _), (3, _), (4, _)] rfl ?_
        refine ih (i + 1) (by omega) _ ⟨fun cc j g1 g2 g3 g4 => ?_, ?_, ?_, fun x h1 h2 => ?_⟩
        · rw [q_upc g4, q_upc g3, q_upc g2, q_upc g1]; exact hq.1 cc j g1 g2 g3 g4
        · rw [q_upc (by decide), q_upc (by decide), q_upc (by decide), q_ups]
        · rw [q_upc (by decide), q_upc (by decide), q_upc (by decide), q_upo (by decide)]; exact hq.2.2.1
        · by_cases q : x = i + 1
          · subst q
            exact ⟨by rw [q_upc (by decide), q_upc (by decide), q_ups], by rw [q_upc (by decide), q_ups], by rw [q_ups]⟩
          · have h9 := hq.2.2.2 x h1 (by omega)
            exact ⟨by rw [q_upc (by decide), q_upc (by decide), q_upo (by omega), q_upc (by decide)]; exact h9.1, by rw [q_upc (by decide), q_upo (by omega), q_upc (by decide), q_upc (by decide)]; exact h9.2.1, by rw [q_upo (by omega), q_upc (by decide), q_upc (by decide), q_upc (by decide)]; exact h9.2.2⟩
set_option maxRecDepth 100000 in
set_option maxHeartbeats 4000000 in
theorem c_plan {N n0 : Nat} {cm : Nat → Nat} {o : Nat → Nat → Nat} {op cl km : Nat → Int32} {g : Nat → Nat} (hP : q_PI0 μ N cm o op cl km) (hn : n0 ≤ N) (hy : q_se (q_cn op cl km (μ 69 2)) n0 N 1 0 (fun _ => 0) = some g) (hno : ∀ m, m < n0 → q_se (q_cn op cl km (μ 69 2)) m N 1 0 (fun _ => 0) = none) : q_Ct C l FX2_plan 13 142 142 [.ref (q_a C 63), .ref (q_a C 1), .ref (q_a C 11), .ref (q_a C 69)] μ (q_ρ b) (q_PV fun μ' ρ' => q_ρ b = ρ' ∧ (∀ cc j, (cc < 63 ∨ 68 < cc) → μ' cc j = μ cc j) ∧ μ' 63 3 = nI n0 ∧ μ' 63 6 = nI N ∧ ∀ x, 1 ≤ x → x ≤ N → μ' 64 x = op x ∧ μ' 65 x = cl x ∧ μ' 66 x = nI (g x)) := by
  refine q_entry rfl (by decide) (Nat.le_of_ble_eq_true rfl) ?_
  refine g_lv [(0, _), (1, _), (2, _), (3, _)] rfl ?_
  refine g_aload_n 1 dX2_plan_0 rfl rfl ?_
  refine g_iconst 2 0 dX2_plan_1 rfl (by decide) ?_
  refine g_putI 5 dX2_plan_2 rfl f_X2_27 (by decide) rfl rfl (Or.inl rfl) ?_
  refine g_aload_n 6 dX2_plan_5 rfl rfl ?_
  refine g_aload_n 7 dX2_plan_6 rfl rfl ?_
  refine g_iconst 8 2 dX2_plan_7 rfl (by decide) ?_
  refine g_iald 9 dX2_plan_8 rfl (by decide) rfl (vp_in_nI (n := 2) (N := 5) (by decide) (by decide)) ?_
  rw [show (2 : Int32).toNatClampNeg = 2 from rfl, q_upc (by decide)]
  refine g_putI 12 dX2_plan_9 rfl f_X2_31 (by decide) rfl rfl (Or.inl rfl) ?_
  refine g_iconst 13 1 dX2_plan_12 rfl (by decide) ?_
  refine g_istore 15 dX2_plan_13 rfl (by decide) ?_
  refine g_lv [(0, _), (1, _), (2, _), (3, _), (4, .int (nI (0 + 1)))] rfl ?_
  exact lp_plan hP hn hy hno N 0 (by omega) _ ⟨fun cc j g1 _ _ _ => by rw [q_upc g1, q_upc g1], by rw [q_upo (by decide), q_ups]; rfl, q_ups, fun x h1 h2 => by omega⟩
end PL
