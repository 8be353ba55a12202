/-! ===== standings: pure ===== -/
def q_ah (S : Nat → Int32) (r x : Nat) : Bool := decide (S r < S x ∨ (S r = S x ∧ nI r < nI x))
def q_ps (A : Nat → Bool) (o : Nat → Nat) : Nat → Nat
  | 0 => 0
  | p + 1 => bif A (o p) then q_ps A o p else p + 1
theorem q_ps_le (A : Nat → Bool) (o : Nat → Nat) : ∀ m, q_ps A o m ≤ m
  | 0 => Nat.le_refl _
  | p + 1 => by
    unfold q_ps
    cases A (o p) with
    | true => exact Nat.le_succ_of_le (q_ps_le A o p)
    | false => exact Nat.le_refl _
def q_io (A : Nat → Bool) (o : Nat → Nat) (m r : Nat) : Nat → Nat := fun k => if k < q_ps A o m then o k else if k = q_ps A o m then r else o (k - 1)
/-- who came of the first k starters, and in which order -/
def q_so (S bk : Nat → Int32) (i : Nat) (rin : Nat → Nat) : Nat → (Nat → Nat) × Nat
  | 0 => (fun _ => 0, 0)
  | k + 1 => if bk (rin k) = nI i then q_so S bk i rin k else (q_io (q_ah S (rin k)) (q_so S bk i rin k).1 (q_so S bk i rin k).2 (rin k), (q_so S bk i rin k).2 + 1)
theorem q_so_le (S bk : Nat → Int32) (i : Nat) (rin : Nat → Nat) : ∀ k, (q_so S bk i rin k).2 ≤ k
  | 0 => Nat.le_refl _
  | k + 1 => by
    have h := q_so_le S bk i rin k
    unfold q_so
    split
    · omega
    · exact Nat.succ_le_succ h
theorem q_so_mem (S bk : Nat → Int32) (i : Nat) (rin : Nat → Nat) : ∀ k j, j < (q_so S bk i rin k).2 → ∃ k', k' < k ∧ (q_so S bk i rin k).1 j = rin k' ∧ ¬ bk (rin k') = nI i
  | 0, j, h => absurd h (Nat.not_lt_zero _)
  | k + 1, j, h => by
    unfold q_so at h ⊢
    by_cases e : bk (rin k) = nI i
    · rw [if_pos e] at h ⊢
      obtain ⟨k', h1, h2, h3⟩ := q_so_mem S bk i rin k j h
      exact ⟨k', by omega, h2, h3⟩
    · rw [if_neg e] at h ⊢
      have hp := q_ps_le (q_ah S (rin k)) (q_so S bk i rin k).1 (q_so S bk i rin k).2
      show ∃ k', k' < k + 1 ∧ q_io (q_ah S (rin k)) (q_so S bk i rin k).1 (q_so S bk i rin k).2 (rin k) j = rin k' ∧ _
      have h : j < (q_so S bk i rin k).2 + 1 := h
      unfold q_io
      by_cases g1 : j < q_ps (q_ah S (rin k)) (q_so S bk i rin k).1 (q_so S bk i rin k).2
      · rw [if_pos g1]
        obtain ⟨k', h1, h2, h3⟩ := q_so_mem S bk i rin k j (by omega)
        exact ⟨k', by omega, h2, h3⟩
      · rw [if_neg g1]
        by_cases g2 : j = q_ps (q_ah S (rin k)) (q_so S bk i rin k).1 (q_so S bk i rin k).2
        · rw [if_pos g2]
          exact ⟨k, by omega, rfl, e⟩
        · rw [if_neg g2]
          obtain ⟨k', h1, h2, h3⟩ := q_so_mem S bk i rin k (j - 1) (by omega)
          exact ⟨k', by omega, h2, h3⟩
/-- the row while a place is made in it -/
def q_sh (μ : q_M) (oc off m p : Nat) : q_M := fun c j => if c = oc ∧ off + p < j ∧ j ≤ off + m then μ oc (j - 1) else μ c j
theorem q_sh_0 {μ : q_M} {oc off m : Nat} : q_sh μ oc off m m = μ := by
  funext c j
  unfold q_sh
  rw [if_neg (by omega)]
theorem q_sh_o {μ : q_M} {oc off m p c j : Nat} (h : c ≠ oc) : q_sh μ oc off m p c j = μ c j := if_neg (fun q => h q.1)
theorem q_sh_l {μ : q_M} {oc off m p j : Nat} (h : j ≤ off + p) : q_sh μ oc off m p oc j = μ oc j := if_neg (by omega)
theorem q_sh_s {μ : q_M} {oc off m p : Nat} (h : p + 1 ≤ m) : q_up (q_sh μ oc off m (p + 1)) oc (off + (p + 1)) (μ oc (off + p)) = q_sh μ oc off m p := by
  funext c j
  unfold q_up q_sh
  by_cases e : c = oc ∧ j = off + (p + 1)
  · rw [if_pos e, if_pos (by omega), show j - 1 = off + p by omega]
  · rw [if_neg e]
    by_cases e2 : c = oc ∧ off + (p + 1) < j ∧ j ≤ off + m
    · rw [if_pos e2, if_pos (by omega)]
    · rw [if_neg e2, if_neg (by omega)]
/-- the row with r in its place, and one more who came -/
def q_rk (μ : q_M) (oc off cc ci m p r : Nat) : q_M := q_up (q_up (q_sh μ oc off m p) oc (off + p) (nI r)) cc ci (nI (m + 1))
/-! ===== standings: the class ===== -/
section RK
variable {C : q_C} {l : Launch} {μ : q_M} {b : Bool}
set_option maxRecDepth 100000 in
set_option maxHeartbeats 4000000 in
theorem c_isAhead {i r x : Nat} (hi : i < 7) (hr : r < 10) (hx : x < 10) : q_Ct C l FX3_isAhead 0 142 142 [.ref (q_a C 11), .int (nI i), .int (nI r), .int (nI x)] μ (q_ρ b) (q_is (q_b (μ (45 + i) r < μ (45 + i) x ∨ (μ (45 + i) r = μ (45 + i) x ∧ nI r < nI x))) μ (q_ρ b)) := by
  refine q_entry rfl (by decide) (Nat.le_of_ble_eq_true rfl) ?_
  refine g_lv [(0, _), (1, _), (2, _), (3, _)] rfl ?_
  refine g_aload_n 1 dX3_isAhead_0 rfl rfl ?_
  refine g_getR 4 _ dX3_isAhead_1 rfl f_X3_25 (by decide) rfl rfl rfl ?_
  refine g_iload_n 5 dX3_isAhead_4 rfl rfl ?_
  refine g_aald 6 _ dX3_isAhead_5 rfl (by decide) rfl (vp_in_nI hi (by omega)) rfl ?_
  rw [nI_clamp (show i < 2 ^ 31 by omega)]
  refine g_iload_n 7 dX3_isAhead_6 rfl rfl ?_
  refine g_iald 8 dX3_isAhead_7 rfl (by omega) (k_45 i hi) (vp_in_nI hr (by omega)) ?_
  rw [nI_clamp (show r < 2 ^ 31 by omega)]
  refine g_aload_n 9 dX3_isAhead_8 rfl rfl ?_
  refine g_getR 12 _ dX3_isAhead_9 rfl f_X3_25 (by decide) rfl rfl rfl ?_
  refine g_iload_n 13 dX3_isAhead_12 rfl rfl ?_
  refine g_aald 14 _ dX3_isAhead_13 rfl (by decide) rfl (vp_in_nI hi (by omega)) rfl ?_
  rw [nI_clamp (show i < 2 ^ 31 by omega)]
  refine g_iload_n 15 dX3_isAhead_14 rfl rfl ?_
  refine g_iald 16 dX3_isAhead_15 rfl (by omega) (k_45 i hi) (vp_in_nI hx (by omega)) ?_
  rw [nI_clamp (show x < 2 ^ 31 by omega)]
  refine g_icmp_lt 43 19 dX3_isAhead_16 rfl (by decide) (fun h16 => ?_) (fun h16 => ?_)
  · refine g_iconst 44 1 dX3_isAhead_43 rfl (by decide) ?_
    refine g_goto 48 dX3_isAhead_44 (by decide) ?_
    exact g_rz dX3_isAhead_48 rfl (by first | exact Or.inl rfl | exact Or.inr rfl | assumption) rfl ⟨q_b_t (Or.inl h16), rfl, rfl⟩
  · refine g_aload_n 20 dX3_isAhead_19 rfl rfl ?_
    refine g_getR 23 _ dX3_isAhead_20 rfl f_X3_25 (by decide) rfl rfl rfl ?_
    refine g_iload_n 24 dX3_isAhead_23 rfl rfl ?_
    refine g_aald 25 _ dX3_isAhead_24 rfl (by decide) rfl (vp_in_nI hi (by omega)) rfl ?_
    rw [nI_clamp (show i < 2 ^ 31 by omega)]
    refine g_iload_n 26 dX3_isAhead_25 rfl rfl ?_
    refine g_iald 27 dX3_isAhead_26 rfl (by omega) (k_45 i hi) (vp_in_nI hr (by omega)) ?_
    rw [nI_clamp (show r < 2 ^ 31 by omega)]
    refine g_aload_n 28 dX3_isAhead_27 rfl rfl ?_
    refine g_getR 31 _ dX3_isAhead_28 rfl f_X3_25 (by decide) rfl rfl rfl ?_
    refine g_iload_n 32 dX3_isAhead_31 rfl rfl ?_
    refine g_aald 33 _ dX3_isAhead_32 rfl (by decide) rfl (vp_in_nI hi (by omega)) rfl ?_
    rw [nI_clamp (show i < 2 ^ 31 by omega)]
    refine g_iload_n 34 dX3_isAhead_33 rfl rfl ?_
    refine g_iald 35 dX3_isAhead_34 rfl (by omega) (k_45 i hi) (vp_in_nI hx (by omega)) ?_
    rw [nI_clamp (show x < 2 ^ 31 by omega)]
    refine g_icmp_ne 47 38 dX3_isAhead_35 rfl (by decide) (fun h35 => ?_) (fun h35 => ?_)
    · refine g_iconst 48 0 dX3_isAhead_47 rfl (by decide) ?_
      exact g_rz dX3_isAhead_48 rfl (by first | exact Or.inl rfl | exact Or.inr rfl | assumption) rfl ⟨q_b_f (fun q => q.elim h16 (fun q2 => h35 q2.1)), rfl, rfl⟩
    · refine g_iload_n 39 dX3_isAhead_38 rfl rfl ?_
      refine g_iload_n 40 dX3_isAhead_39 rfl rfl ?_
      refine g_icmp_ge 47 43 dX3_isAhead_40 rfl (by decide) (fun h40 => ?_) (fun h40 => ?_)
      · refine g_iconst 48 0 dX3_isAhead_47 rfl (by decide) ?_
        exact g_rz dX3_isAhead_48 rfl (by first | exact Or.inl rfl | exact Or.inr rfl | assumption) rfl ⟨q_b_f (fun q => q.elim h16 (fun q2 => absurd h40 (Int32.not_le.mpr q2.2))), rfl, rfl⟩
      · refine g_iconst 44 1 dX3_isAhead_43 rfl (by decide) ?_
        refine g_goto 48 dX3_isAhead_44 (by decide) ?_
        exact g_rz dX3_isAhead_48 rfl (by first | exact Or.inl rfl | exact Or.inr rfl | assumption) rfl ⟨q_b_t (Or.inr ⟨h35, Int32.not_le.mp h40⟩), rfl, rfl⟩
theorem q_ahb {S : Nat → Int32} {r x : Nat} {y z : Int32} (h1 : y = S r) (h2 : z = S x) : q_b (y < z ∨ (y = z ∧ nI r < nI x)) = 0 ↔ q_ah S r x = false := by
  subst h1 h2
  rw [q_b_0]
  simp [q_ah]
set_option maxRecDepth 100000 in
set_option maxHeartbeats 4000000 in
theorem lp_rank {i r m : Nat} {o : Nat → Nat} {S : Nat → Int32} (hi : i < 7) (hr : r < 10) (hm : m < 10) (hcm : μ 60 i = nI m) (ho : ∀ j, j < m → μ (53 + i) j = nI (o j) ∧ o j < 10 ∧ μ (45 + i) (o j) = S (o j)) (hSr : μ (45 + i) r = S r) : ∀ p, p ≤ m → q_G C l FX3_rank 1 142 142 (q_to (q_rk μ (53 + i) 0 60 i m (q_ps (q_ah S r) o p) r) (q_ρ b)) 142 (q_sh μ (53 + i) 0 m p) (q_ρ b) [(0, .ref (q_a C 11)), (1, .int (nI i)), (2, .int (nI r)), (3, .int (nI p))] [] 7 := by
  intro p
  induction p with
  | zero =>
    intro hpm
    refine g_iload_n 8 dX3_rank_7 rfl rfl ?_
    refine g_if_le 54 11 dX3_rank_8 rfl (by decide) (fun h8 => ?_) (fun h8 => ?_)
    · refine g_aload_n 55 dX3_rank_54 rfl rfl ?_
      refine g_getR 58 _ dX3_rank_55 rfl f_X3_28 (by decide) rfl rfl rfl ?_
      refine g_iload_n 59 dX3_rank_58 rfl rfl ?_
      refine g_aald 60 _ dX3_rank_59 rfl (by decide) rfl (vp_in_nI hi (by omega)) rfl ?_
      rw [nI_clamp (show i < 2 ^ 31 by omega)]
      refine g_iload_n 61 dX3_rank_60 rfl rfl ?_
      refine g_iload_n 62 dX3_rank_61 rfl rfl ?_
      refine g_iast 63 dX3_rank_62 rfl (by omega) (k_53 i hi) (vp_in_nI (show 0 < 10 by omega) (by omega)) ?_
      rw [nI_clamp (show 0 < 2 ^ 31 by omega)]
      refine g_aload_n 64 dX3_rank_63 rfl rfl ?_
      refine g_getR 67 _ dX3_rank_64 rfl f_X3_31 (by decide) rfl rfl rfl ?_
      refine g_iload_n 68 dX3_rank_67 rfl rfl ?_
      refine g_dup2 69 dX3_rank_68 rfl rfl rfl ?_
      refine g_iald 70 dX3_rank_69 rfl (by decide) rfl (vp_in_nI hi (by omega)) ?_
      rw [nI_clamp (show i < 2 ^ 31 by omega), q_upc (by omega), q_sh_o (by omega), hcm]
      refine g_iconst 71 1 dX3_rank_70 rfl (by decide) ?_
      refine g_iadd 72 dX3_rank_71 rfl ?_
      rw [nI_1]
      refine g_iast 73 dX3_rank_72 rfl (by decide) rfl (vp_in_nI hi (by omega)) ?_
      rw [nI_clamp (show i < 2 ^ 31 by omega)]
      exact g_rv dX3_rank_73 rfl rfl (by unfold q_rk; exact ⟨rfl, rfl⟩)
    · exact absurd (by decide) h8
  | succ p ih =>
    intro hpm
    refine g_iload_n 8 dX3_rank_7 rfl rfl ?_
    refine g_if_le 54 11 dX3_rank_8 rfl (by decide) (fun h8 => ?_) (fun h8 => ?_)
    · exact absurd h8 (nI_nle (by omega) (by omega))
    · refine g_aload_n 12 dX3_rank_11 rfl rfl ?_
      refine g_iload_n 13 dX3_rank_12 rfl rfl ?_
      refine g_iload_n 14 dX3_rank_13 rfl rfl ?_
      refine g_aload_n 15 dX3_rank_14 rfl rfl ?_
      refine g_getR 18 _ dX3_rank_15 rfl f_X3_28 (by decide) rfl rfl rfl ?_
      refine g_iload_n 19 dX3_rank_18 rfl rfl ?_
      refine g_aald 20 _ dX3_rank_19 rfl (by decide) rfl (vp_in_nI hi (by omega)) rfl ?_
      rw [nI_clamp (show i < 2 ^ 31 by omega)]
      refine g_iload_n 21 dX3_rank_20 rfl rfl ?_
      refine g_iconst 22 1 dX3_rank_21 rfl (by decide) ?_
      refine g_isub 23 dX3_rank_22 rfl ?_
      rw [nI_pred]
      refine g_iald 24 dX3_rank_23 rfl (by omega) (k_53 i hi) (vp_in_nI (show p < 10 by omega) (by omega)) ?_
      rw [nI_clamp (show p < 2 ^ 31 by omega), q_sh_l (by omega), (ho p (by omega)).1]
      refine g_Vi 27 [_, _, _] _ dX3_rank_24 rfl m_X3_isAhead l_X3_93 rfl rfl rfl (by decide) (c_isAhead hi hr (ho p (by omega)).2.1) rfl (Nat.le_of_ble_eq_true rfl) (by decide) (fun v24 μ24 ρ24 hc9 => ?_)
      obtain ⟨rfl, rfl, rfl⟩ := hc9
      rw [q_sh_o (by omega), q_sh_o (by omega)]
      refine g_if_eq 54 30 dX3_rank_27 rfl (by decide) (fun h27 => ?_) (fun h27 => ?_)
      · refine g_aload_n 55 dX3_rank_54 rfl rfl ?_
        refine g_getR 58 _ dX3_rank_55 rfl f_X3_28 (by decide) rfl rfl rfl ?_
        refine g_iload_n 59 dX3_rank_58 rfl rfl ?_
        refine g_aald 60 _ dX3_rank_59 rfl (by decide) rfl (vp_in_nI hi (by omega)) rfl ?_
        rw [nI_clamp (show i < 2 ^ 31 by omega)]
        refine g_iload_n 61 dX3_rank_60 rfl rfl ?_
        refine g_iload_n 62 dX3_rank_61 rfl rfl ?_
        refine g_iast 63 dX3_rank_62 rfl (by omega) (k_53 i hi) (vp_in_nI (show p + 1 < 10 by omega) (by omega)) ?_
        rw [nI_clamp (show p + 1 < 2 ^ 31 by omega)]
        refine g_aload_n 64 dX3_rank_63 rfl rfl ?_
        refine g_getR 67 _ dX3_rank_64 rfl f_X3_31 (by decide) rfl rfl rfl ?_
        refine g_iload_n 68 dX3_rank_67 rfl rfl ?_
        refine g_dup2 69 dX3_rank_68 rfl rfl rfl ?_
        refine g_iald 70 dX3_rank_69 rfl (by decide) rfl (vp_in_nI hi (by omega)) ?_
        rw [nI_clamp (show i < 2 ^ 31 by omega), q_upc (by omega), q_sh_o (by omega), hcm]
        refine g_iconst 71 1 dX3_rank_70 rfl (by decide) ?_
        refine g_iadd 72 dX3_rank_71 rfl ?_
        rw [nI_1]
        refine g_iast 73 dX3_rank_72 rfl (by decide) rfl (vp_in_nI hi (by omega)) ?_
        rw [nI_clamp (show i < 2 ^ 31 by omega)]
        exact g_rv dX3_rank_73 rfl rfl (by
      have ht : q_ah S r (o p) = false := (q_ahb hSr (ho p (by omega)).2.2).mp h27
      rw [q_ps, ht]
      unfold q_rk
      rw [Nat.zero_add]
      exact ⟨rfl, rfl⟩)
      · refine g_aload_n 31 dX3_rank_30 rfl rfl ?_
        refine g_getR 34 _ dX3_rank_31 rfl f_X3_28 (by decide) rfl rfl rfl ?_
        refine g_iload_n 35 dX3_rank_34 rfl rfl ?_
        refine g_aald 36 _ dX3_rank_35 rfl (by decide) rfl (vp_in_nI hi (by omega)) rfl ?_
        rw [nI_clamp (show i < 2 ^ 31 by omega)]
        refine g_iload_n 37 dX3_rank_36 rfl rfl ?_
        refine g_aload_n 38 dX3_rank_37 rfl rfl ?_
        refine g_getR 41 _ dX3_rank_38 rfl f_X3_28 (by decide) rfl rfl rfl ?_
        refine g_iload_n 42 dX3_rank_41 rfl rfl ?_
        refine g_aald 43 _ dX3_rank_42 rfl (by decide) rfl (vp_in_nI hi (by omega)) rfl ?_
        rw [nI_clamp (show i < 2 ^ 31 by omega)]
        refine g_iload_n 44 dX3_rank_43 rfl rfl ?_
        refine g_iconst 45 1 dX3_rank_44 rfl (by decide) ?_
        refine g_isub 46 dX3_rank_45 rfl ?_
        rw [nI_pred]
        refine g_iald 47 dX3_rank_46 rfl (by omega) (k_53 i hi) (vp_in_nI (show p < 10 by omega) (by omega)) ?_
        rw [nI_clamp (show p < 2 ^ 31 by omega), q_sh_l (by omega)]
        refine g_iast 48 dX3_rank_47 rfl (by omega) (k_53 i hi) (vp_in_nI (show p + 1 < 10 by omega) (by omega)) ?_
        rw [nI_clamp (show p + 1 < 2 ^ 31 by omega)]
        have e9 := q_sh_s (μ := μ) (oc := 53 + i) (off := 0) (m := m) (p := p) (by omega)
        rw [Nat.zero_add, Nat.zero_add] at e9
        rw [e9]
        refine g_iinc 51 (_ + (-1)) dX3_rank_48 rfl rfl rfl (by decide) ?_
        refine g_goto 7 dX3_rank_51 (by decide) ?_
        rw [show nI (p + 1) + -1 = nI p from pk_m1 p]
        refine g_lv [(0, _), (1, _), (2, _), (3, _)] rfl ?_
        have h9 := ih (by omega)
        have ht : q_ah S r (o p) = true := by
          cases ht : q_ah S r (o p) with
          | true => rfl
          | false => exact absurd ((q_ahb hSr (ho p (by omega)).2.2).mpr ht) h27
        rw [q_ps, ht]
        exact h9
set_option maxRecDepth 100000 in
set_option maxHeartbeats 4000000 in
theorem c_rank {i r m : Nat} {o : Nat → Nat} {S : Nat → Int32} (hi : i < 7) (hr : r < 10) (hm : m < 10) (hcm : μ 60 i = nI m) (ho : ∀ j, j < m → μ (53 + i) j = nI (o j) ∧ o j < 10 ∧ μ (45 + i) (o j) = S (o j)) (hSr : μ (45 + i) r = S r) : q_Ct C l FX3_rank 1 142 142 [.ref (q_a C 11), .int (nI i), .int (nI r)] μ (q_ρ b) (q_to (q_rk μ (53 + i) 0 60 i m (q_ps (q_ah S r) o m) r) (q_ρ b)) := by
  refine q_entry rfl (by decide) (Nat.le_of_ble_eq_true rfl) ?_
  refine g_lv [(0, _), (1, _), (2, _)] rfl ?_
  refine g_aload_n 1 dX3_rank_0 rfl rfl ?_
  refine g_getR 4 _ dX3_rank_1 rfl f_X3_31 (by decide) rfl rfl rfl ?_
  refine g_iload_n 5 dX3_rank_4 rfl rfl ?_
  refine g_iald 6 dX3_rank_5 rfl (by decide) rfl (vp_in_nI hi (by omega)) ?_
  rw [nI_clamp (show i < 2 ^ 31 by omega), hcm]
  refine g_istore_n 7 dX3_rank_6 rfl (by decide) ?_
  refine g_lv [(0, _), (1, _), (2, _), (3, _)] rfl ?_
  have h9 := lp_rank (C := C) (l := l) (b := b) hi hr hm hcm ho hSr m (Nat.le_refl _)
  rw [q_sh_0] at h9
  exact h9
end RK
