/-! ===== a stage: pure ===== -/
def q_st (bg : Int32) (rin : Nat → Nat) : Nat → Nat → Int32
  | 0, _ => -1
  | k + 1, r => if r = rin k then bg + 2 * nI k else q_st bg rin k r
def q_ar (bg : Int32) (tm bk : Nat → Int32) (i : Nat) (rin : Nat → Nat) : Nat → Nat → Int32
  | 0, _ => -1
  | k + 1, r => if r = rin k ∧ ¬ bk (rin k) = nI i then bg + 2 * nI k + tm (rin k) else q_ar bg tm bk i rin k r
def q_su (S bk : Nat → Int32) (i : Nat) (rin : Nat → Nat) : Nat → Nat → Int32
  | 0, _ => -1
  | k + 1, r => if r = rin k ∧ ¬ bk (rin k) = nI i then S (rin k) else q_su S bk i rin k r
theorem q_su_S (S bk : Nat → Int32) (i : Nat) (rin : Nat → Nat) : ∀ k k', k' < k → ¬ bk (rin k') = nI i → q_su S bk i rin k (rin k') = S (rin k')
  | 0, k', h, _ => absurd h (Nat.not_lt_zero _)
  | k + 1, k', h, hb => by
    unfold q_su
    by_cases e : rin k' = rin k ∧ ¬ bk (rin k) = nI i
    · rw [if_pos e, e.1]
    · rw [if_neg e]
      have hk : k' ≠ k := fun q => e ⟨by rw [q], by rw [← q]; exact hb⟩
      exact q_su_S S bk i rin k k' (by omega) hb
theorem q_so_su (S bk : Nat → Int32) (i : Nat) (rin : Nat → Nat) (k j : Nat) (h : j < (q_so S bk i rin k).2) : q_su S bk i rin k ((q_so S bk i rin k).1 j) = S ((q_so S bk i rin k).1 j) := by
  obtain ⟨k', h1, h2, h3⟩ := q_so_mem S bk i rin k j h
  rw [h2]
  exact q_su_S S bk i rin k k' h1 h3
def q_pl (f : Nat → Int32) (o : Nat → Nat) : Nat → Nat → Int32
  | 0, r => f r
  | p + 1, r => if r = o p then nI p else q_pl f o p r
/-- of the first k starters of stage i -/
def q_RS (μ0 μ : q_M) (i k : Nat) (rin : Nat → Nat) (bg : Int32) (tm S bk : Nat → Int32) : Prop :=
  (∀ c j, c ≠ 21 + i → c ≠ 29 + i → c ≠ 45 + i → c ≠ 53 + i → (c ≠ 60 ∨ j ≠ i) → μ c j = μ0 c j) ∧
  (∀ r, r < 10 → μ (21 + i) r = q_st bg rin k r) ∧ (∀ r, r < 10 → μ (29 + i) r = q_ar bg tm bk i rin k r) ∧ (∀ r, r < 10 → μ (45 + i) r = q_su S bk i rin k r) ∧
  (∀ j, j < (q_so S bk i rin k).2 → μ (53 + i) j = nI ((q_so S bk i rin k).1 j)) ∧ μ 60 i = nI (q_so S bk i rin k).2
theorem q_RS_n {μ0 μ : q_M} {i k : Nat} {rin : Nat → Nat} {bg : Int32} {tm S bk : Nat → Int32} (hi : i < 7) (h : q_RS μ0 μ i k rin bg tm S bk) (hb : bk (rin k) = nI i) : q_RS μ0 (q_up μ (21 + i) (rin k) (bg + 2 * nI k)) i (k + 1) rin bg tm S bk := by
  obtain ⟨h1, h2, h3, h4, h5, h6⟩ := h
  have e : q_so S bk i rin (k + 1) = q_so S bk i rin k := by rw [q_so, if_pos hb]
  refine ⟨fun c j g1 g2 g3 g4 g5 => ?_, fun r hr => ?_, fun r hr => ?_, fun r hr => ?_, fun j hj => ?_, ?_⟩
  · rw [q_upc g1]; exact h1 c j g1 g2 g3 g4 g5
  · unfold q_st q_up
    by_cases q : r = rin k
    · rw [if_pos q, if_pos ⟨rfl, q⟩]
    · rw [if_neg q, if_neg (fun z => q z.2)]; exact h2 r hr
  · rw [q_upc (by omega), q_ar, if_neg (fun z => z.2 hb)]; exact h3 r hr
  · rw [q_upc (by omega), q_su, if_neg (fun z => z.2 hb)]; exact h4 r hr
  · rw [e] at hj ⊢
    rw [q_upc (by omega)]; exact h5 j hj
  · rw [e, q_upc (by omega)]; exact h6
theorem q_RS_y {μ0 μ : q_M} {i k : Nat} {rin : Nat → Nat} {bg a s : Int32} {tm S bk : Nat → Int32} (hi : i < 7) (h : q_RS μ0 μ i k rin bg tm S bk) (hb : ¬ bk (rin k) = nI i) (ha : a = bg + 2 * nI k + tm (rin k)) (hs : s = S (rin k)) :
    q_RS μ0 (q_rk (q_up (q_up (q_up μ (21 + i) (rin k) (bg + 2 * nI k)) (29 + i) (rin k) a) (45 + i) (rin k) s) (53 + i) 0 60 i (q_so S bk i rin k).2 (q_ps (q_ah S (rin k)) (q_so S bk i rin k).1 (q_so S bk i rin k).2) (rin k)) i (k + 1) rin bg tm S bk := by
  obtain ⟨h1, h2, h3, h4, h5, h6⟩ := h
  subst ha hs
  have e : q_so S bk i rin (k + 1) = (q_io (q_ah S (rin k)) (q_so S bk i rin k).1 (q_so S bk i rin k).2 (rin k), (q_so S bk i rin k).2 + 1) := by rw [q_so, if_neg hb]
  have hp := q_ps_le (q_ah S (rin k)) (q_so S bk i rin k).1 (q_so S bk i rin k).2
  generalize hm : (q_so S bk i rin k).2 = m at *
  generalize ho : (q_so S bk i rin k).1 = o at *
  generalize hP : q_ps (q_ah S (rin k)) o m = p at *
  have off : ∀ c j, c ≠ 53 + i → (c ≠ 60 ∨ j ≠ i) → q_rk (q_up (q_up (q_up μ (21 + i) (rin k) (bg + 2 * nI k)) (29 + i) (rin k) (bg + 2 * nI k + tm (rin k))) (45 + i) (rin k) (S (rin k))) (53 + i) 0 60 i m p (rin k) c j = (q_up (q_up (q_up μ (21 + i) (rin k) (bg + 2 * nI k)) (29 + i) (rin k) (bg + 2 * nI k + tm (rin k))) (45 + i) (rin k) (S (rin k))) c j := by
    intro c j g1 g2
    unfold q_rk
    rw [q_upo (by omega), q_upc g1, q_sh_o g1]
  refine ⟨fun c j g1 g2 g3 g4 g5 => ?_, fun r hr => ?_, fun r hr => ?_, fun r hr => ?_, fun j hj => ?_, ?_⟩
  · rw [off c j g4 g5, q_upc g3, q_upc g2, q_upc g1]; exact h1 c j g1 g2 g3 g4 g5
  · rw [off _ _ (by omega) (by omega), q_upc (by omega), q_upc (by omega)]
    unfold q_st q_up
    by_cases q : r = rin k
    · rw [if_pos q, if_pos ⟨rfl, q⟩]
    · rw [if_neg q, if_neg (fun z => q z.2)]; exact h2 r hr
  · rw [off _ _ (by omega) (by omega), q_upc (by omega), q_ar]
    by_cases q : r = rin k
    · rw [if_pos ⟨q, hb⟩, q, q_ups]
    · rw [if_neg (fun z => q z.1), q_upo (fun z => q z.2), q_upc (by omega)]; exact h3 r hr
  · rw [off _ _ (by omega) (by omega), q_su]
    by_cases q : r = rin k
    · rw [if_pos ⟨q, hb⟩, q, q_ups]
    · rw [if_neg (fun z => q z.1), q_upo (fun z => q z.2), q_upc (by omega), q_upc (by omega)]; exact h4 r hr
  · rw [e] at hj ⊢
    have hj : j < m + 1 := hj
    show _ = nI (q_io (q_ah S (rin k)) o m (rin k) j)
    unfold q_io q_rk
    rw [hP, q_upc (by omega)]
    by_cases g1 : j < p
    · rw [if_pos g1, q_upo (by omega), q_sh_l (by omega), q_upc (by omega), q_upc (by omega), q_upc (by omega)]
      exact h5 j (by omega)
    · rw [if_neg g1]
      by_cases g2 : j = p
      · rw [if_pos g2, Nat.zero_add, g2, q_ups]
      · rw [if_neg g2, q_upo (by omega)]
        unfold q_sh
        rw [if_pos (by omega), q_upc (by omega), q_upc (by omega), q_upc (by omega)]
        exact h5 (j - 1) (by omega)
  · rw [e]
    unfold q_rk
    rw [q_ups]
def q_fl (μ : q_M) (i k : Nat) : q_M := fun c j => if (c = 21 + i ∨ c = 29 + i ∨ c = 37 + i ∨ c = 45 + i) ∧ j < k then -1 else μ c j
theorem q_fl_0 {μ : q_M} {i : Nat} : q_fl μ i 0 = μ := by funext c j; unfold q_fl; rw [if_neg (by omega)]
theorem q_fl_s {μ : q_M} {i k : Nat} : q_up (q_up (q_up (q_up (q_fl μ i k) (21 + i) k (-1)) (29 + i) k (-1)) (37 + i) k (-1)) (45 + i) k (-1) = q_fl μ i (k + 1) := by
  funext c j
  unfold q_up q_fl
  by_cases e1 : c = 45 + i ∧ j = k
  · rw [if_pos e1, if_pos (by omega)]
  · rw [if_neg e1]
    by_cases e2 : c = 37 + i ∧ j = k
    · rw [if_pos e2, if_pos (by omega)]
    · rw [if_neg e2]
      by_cases e3 : c = 29 + i ∧ j = k
      · rw [if_pos e3, if_pos (by omega)]
      · rw [if_neg e3]
        by_cases e4 : c = 21 + i ∧ j = k
        · rw [if_pos e4, if_pos (by omega)]
        · rw [if_neg e4]
          try dsimp only
          by_cases e5 : (c = 21 + i ∨ c = 29 + i ∨ c = 37 + i ∨ c = 45 + i) ∧ j < k
          · rw [if_pos e5, if_pos (by omega)]
          · rw [if_neg e5, if_neg (by omega)]
def q_tp (μ : q_M) (i : Nat) (o : Nat → Nat) (p : Nat) : q_M := fun c j => if c = 37 + i then q_pl (μ (37 + i)) o p j else μ c j
theorem q_tp_0 {μ : q_M} {i : Nat} {o : Nat → Nat} : q_tp μ i o 0 = μ := by
  funext c j
  unfold q_tp q_pl
  by_cases e : c = 37 + i
  · rw [if_pos e, e]
  · rw [if_neg e]
theorem q_tp_s {μ : q_M} {i p : Nat} {o : Nat → Nat} : q_up (q_tp μ i o p) (37 + i) (o p) (nI p) = q_tp μ i o (p + 1) := by
  funext c j
  unfold q_up q_tp
  by_cases e : c = 37 + i
  · by_cases e2 : j = o p
    · rw [if_pos ⟨e, e2⟩, if_pos e, q_pl, if_pos e2]
    · rw [if_neg (fun z => e2 z.2), if_pos e, if_pos e, q_pl, if_neg e2]
  · rw [if_neg (fun z => e z.1), if_neg e, if_neg e]
/-! ===== a stage: the class ===== -/
section SG
variable {C : q_C} {l : Launch} {μ : q_M} {b : Bool}
set_option maxRecDepth 100000 in
set_option maxHeartbeats 4000000 in
theorem lp_frg {i : Nat} (hi : i < 7) : ∀ k k2, k2 + k = 10 → q_G C l FX3_forget 0 142 142 (q_to (q_up (q_up (q_fl μ i 10) 60 i 0) 61 i 0) (q_ρ b)) 142 (q_fl μ i k2) (q_ρ b) [(0, .ref (q_a C 11)), (1, .int (nI i)), (2, .int (nI k2))] [] 2 := by
  intro k
  induction k with
  | zero =>
    intro k2 hK9
    refine g_iload_n 3 dX3_forget_2 rfl rfl ?_
    refine g_bipush 5 10 dX3_forget_3 rfl (by decide) ?_
    refine g_icmp_ge 50 8 dX3_forget_5 rfl (by decide) (fun h5 => ?_) (fun h5 => ?_)
    · refine g_aload_n 51 dX3_forget_50 rfl rfl ?_
      refine g_getR 54 _ dX3_forget_51 rfl f_X3_31 (by decide) rfl rfl rfl ?_
      refine g_iload_n 55 dX3_forget_54 rfl rfl ?_
      refine g_iconst 56 0 dX3_forget_55 rfl (by decide) ?_
      refine g_iast 57 dX3_forget_56 rfl (by decide) rfl (vp_in_nI hi (by omega)) ?_
      rw [nI_clamp (show i < 2 ^ 31 by omega)]
      refine g_aload_n 58 dX3_forget_57 rfl rfl ?_
      refine g_getR 61 _ dX3_forget_58 rfl f_X3_35 (by decide) rfl rfl rfl ?_
      refine g_iload_n 62 dX3_forget_61 rfl rfl ?_
      refine g_iconst 63 0 dX3_forget_62 rfl (by decide) ?_
      refine g_iast 64 dX3_forget_63 rfl (by decide) rfl (vp_in_nI hi (by omega)) ?_
      rw [nI_clamp (show i < 2 ^ 31 by omega)]
      exact g_rv dX3_forget_64 rfl rfl ⟨by rw [show k2 = 10 by omega], rfl⟩
    · exact absurd (nI_le (a := 10) (b := k2) (by omega) (by omega)) h5
  | succ k ih =>
    intro k2 hK9
    refine g_iload_n 3 dX3_forget_2 rfl rfl ?_
    refine g_bipush 5 10 dX3_forget_3 rfl (by decide) ?_
    refine g_icmp_ge 50 8 dX3_forget_5 rfl (by decide) (fun h5 => ?_) (fun h5 => ?_)
    · exact absurd h5 (nI_ge (a := k2) (b := 10) (by omega) (by omega))
    · refine g_aload_n 9 dX3_forget_8 rfl rfl ?_
      refine g_getR 12 _ dX3_forget_9 rfl f_X3_16 (by decide) rfl rfl rfl ?_
      refine g_iload_n 13 dX3_forget_12 rfl rfl ?_
      refine g_aald 14 _ dX3_forget_13 rfl (by decide) rfl (vp_in_nI hi (by omega)) rfl ?_
      rw [nI_clamp (show i < 2 ^ 31 by omega)]
      refine g_iload_n 15 dX3_forget_14 rfl rfl ?_
      refine g_iconst 16 (-1) dX3_forget_15 rfl (by decide) ?_
      refine g_iast 17 dX3_forget_16 rfl (by omega) (k_21 i hi) (vp_in_nI (show k2 < 10 by omega) (by omega)) ?_
      rw [nI_clamp (show k2 < 2 ^ 31 by omega)]
      refine g_aload_n 18 dX3_forget_17 rfl rfl ?_
      refine g_getR 21 _ dX3_forget_18 rfl f_X3_19 (by decide) rfl rfl rfl ?_
      refine g_iload_n 22 dX3_forget_21 rfl rfl ?_
      refine g_aald 23 _ dX3_forget_22 rfl (by decide) rfl (vp_in_nI hi (by omega)) rfl ?_
      rw [nI_clamp (show i < 2 ^ 31 by omega)]
      refine g_iload_n 24 dX3_forget_23 rfl rfl ?_
      refine g_iconst 25 (-1) dX3_forget_24 rfl (by decide) ?_
      refine g_iast 26 dX3_forget_25 rfl (by omega) (k_29 i hi) (vp_in_nI (show k2 < 10 by omega) (by omega)) ?_
      rw [nI_clamp (show k2 < 2 ^ 31 by omega)]
      refine g_aload_n 27 dX3_forget_26 rfl rfl ?_
      refine g_getR 30 _ dX3_forget_27 rfl f_X3_22 (by decide) rfl rfl rfl ?_
      refine g_iload_n 31 dX3_forget_30 rfl rfl ?_
      refine g_aald 32 _ dX3_forget_31 rfl (by decide) rfl (vp_in_nI hi (by omega)) rfl ?_
      rw [nI_clamp (show i < 2 ^ 31 by omega)]
      refine g_iload_n 33 dX3_forget_32 rfl rfl ?_
      refine g_iconst 34 (-1) dX3_forget_33 rfl (by decide) ?_
      refine g_iast 35 dX3_forget_34 rfl (by omega) (k_37 i hi) (vp_in_nI (show k2 < 10 by omega) (by omega)) ?_
      rw [nI_clamp (show k2 < 2 ^ 31 by omega)]
      refine g_aload_n 36 dX3_forget_35 rfl rfl ?_
      refine g_getR 39 _ dX3_forget_36 rfl f_X3_25 (by decide) rfl rfl rfl ?_
      refine g_iload_n 40 dX3_forget_39 rfl rfl ?_
      refine g_aald 41 _ dX3_forget_40 rfl (by decide) rfl (vp_in_nI hi (by omega)) rfl ?_
      rw [nI_clamp (show i < 2 ^ 31 by omega)]
      refine g_iload_n 42 dX3_forget_41 rfl rfl ?_
      refine g_iconst 43 (-1) dX3_forget_42 rfl (by decide) ?_
      refine g_iast 44 dX3_forget_43 rfl (by omega) (k_45 i hi) (vp_in_nI (show k2 < 10 by omega) (by omega)) ?_
      rw [nI_clamp (show k2 < 2 ^ 31 by omega)]
      refine g_iinc 47 (_ + 1) dX3_forget_44 rfl rfl rfl (by decide) ?_
      refine g_goto 2 dX3_forget_47 (by decide) ?_
      rw [q_fl_s, nI_1]
      refine g_lv [(0, _), (1, _), (2, _)] rfl ?_
      exact ih (k2 + 1) (by omega)
set_option maxRecDepth 100000 in
set_option maxHeartbeats 4000000 in
theorem c_frg {i : Nat} (hi : i < 7) : q_Ct C l FX3_forget 0 142 142 [.ref (q_a C 11), .int (nI i)] μ (q_ρ b) (q_to (q_up (q_up (q_fl μ i 10) 60 i 0) 61 i 0) (q_ρ b)) := by
  refine q_entry rfl (by decide) (Nat.le_of_ble_eq_true rfl) ?_
  refine g_lv [(0, _), (1, _)] rfl ?_
  refine g_iconst 1 0 dX3_forget_0 rfl (by decide) ?_
  refine g_istore_n 2 dX3_forget_1 rfl (by decide) ?_
  refine g_lv [(0, _), (1, _), (2, .int 0)] rfl ?_
  have h9 := lp_frg (C := C) (l := l) (μ := μ) (b := b) hi 10 0 (by omega)
  rw [q_fl_0] at h9
  exact h9
set_option maxRecDepth 100000 in
set_option maxHeartbeats 4000000 in
theorem lp_tp {i m : Nat} {o : Nat → Nat} (hi : i < 7) (hm : m ≤ 10) (hcm : μ 60 i = nI m) (ho : ∀ j, j < m → μ (53 + i) j = nI (o j) ∧ o j < 10) : ∀ k p, p + k = m → q_G C l FX3_tellPlaces 0 142 142 (q_to (q_tp μ i o m) (q_ρ b)) 142 (q_tp μ i o p) (q_ρ b) [(0, .ref (q_a C 11)), (1, .int (nI i)), (2, .int (nI p))] [] 2 := by
  intro k
  induction k with
  | zero =>
    intro p hK9
    refine g_iload_n 3 dX3_tellPlaces_2 rfl rfl ?_
    refine g_aload_n 4 dX3_tellPlaces_3 rfl rfl ?_
    refine g_getR 7 _ dX3_tellPlaces_4 rfl f_X3_31 (by decide) rfl rfl rfl ?_
    refine g_iload_n 8 dX3_tellPlaces_7 rfl rfl ?_
    refine g_iald 9 dX3_tellPlaces_8 rfl (by decide) rfl (vp_in_nI hi (by omega)) ?_
    rw [nI_clamp (show i < 2 ^ 31 by omega), show q_tp μ i o p 60 i = μ 60 i from if_neg (by omega), hcm]
    refine g_icmp_ge 34 12 dX3_tellPlaces_9 rfl (by decide) (fun h9 => ?_) (fun h9 => ?_)
    · exact g_rv dX3_tellPlaces_34 rfl rfl ⟨by rw [show p = m by omega], rfl⟩
    · exact absurd (nI_le (by omega) (by omega)) h9
  | succ k ih =>
    intro p hK9
    refine g_iload_n 3 dX3_tellPlaces_2 rfl rfl ?_
    refine g_aload_n 4 dX3_tellPlaces_3 rfl rfl ?_
    refine g_getR 7 _ dX3_tellPlaces_4 rfl f_X3_31 (by decide) rfl rfl rfl ?_
    refine g_iload_n 8 dX3_tellPlaces_7 rfl rfl ?_
    refine g_iald 9 dX3_tellPlaces_8 rfl (by decide) rfl (vp_in_nI hi (by omega)) ?_
    rw [nI_clamp (show i < 2 ^ 31 by omega), show q_tp μ i o p 60 i = μ 60 i from if_neg (by omega), hcm]
    refine g_icmp_ge 34 12 dX3_tellPlaces_9 rfl (by decide) (fun h9 => ?_) (fun h9 => ?_)
    · exact absurd h9 (nI_ge (by omega) (by omega))
    · refine g_aload_n 13 dX3_tellPlaces_12 rfl rfl ?_
      refine g_getR 16 _ dX3_tellPlaces_13 rfl f_X3_22 (by decide) rfl rfl rfl ?_
      refine g_iload_n 17 dX3_tellPlaces_16 rfl rfl ?_
      refine g_aald 18 _ dX3_tellPlaces_17 rfl (by decide) rfl (vp_in_nI hi (by omega)) rfl ?_
      rw [nI_clamp (show i < 2 ^ 31 by omega)]
      refine g_aload_n 19 dX3_tellPlaces_18 rfl rfl ?_
      refine g_getR 22 _ dX3_tellPlaces_19 rfl f_X3_28 (by decide) rfl rfl rfl ?_
      refine g_iload_n 23 dX3_tellPlaces_22 rfl rfl ?_
      refine g_aald 24 _ dX3_tellPlaces_23 rfl (by decide) rfl (vp_in_nI hi (by omega)) rfl ?_
      rw [nI_clamp (show i < 2 ^ 31 by omega)]
      refine g_iload_n 25 dX3_tellPlaces_24 rfl rfl ?_
      refine g_iald 26 dX3_tellPlaces_25 rfl (by omega) (k_53 i hi) (vp_in_nI (show p < 10 by omega) (by omega)) ?_
      rw [nI_clamp (show p < 2 ^ 31 by omega), show q_tp μ i o p (53 + i) p = μ (53 + i) p from if_neg (by omega), (ho p (by omega)).1]
      refine g_iload_n 27 dX3_tellPlaces_26 rfl rfl ?_
      refine g_iast 28 dX3_tellPlaces_27 rfl (by omega) (k_37 i hi) (vp_in_nI (ho p (by omega)).2 (by omega)) ?_
      rw [nI_clamp (show o p < 2 ^ 31 from by have := (ho p (by omega)).2; omega)]
      refine g_iinc 31 (_ + 1) dX3_tellPlaces_28 rfl rfl rfl (by decide) ?_
      refine g_goto 2 dX3_tellPlaces_31 (by decide) ?_
      rw [q_tp_s, nI_1]
      refine g_lv [(0, _), (1, _), (2, _)] rfl ?_
      exact ih (p + 1) (by omega)
set_option maxRecDepth 100000 in
set_option maxHeartbeats 4000000 in
theorem c_tp {i m : Nat} {o : Nat → Nat} (hi : i < 7) (hm : m ≤ 10) (hcm : μ 60 i = nI m) (ho : ∀ j, j < m → μ (53 + i) j = nI (o j) ∧ o j < 10) : q_Ct C l FX3_tellPlaces 0 142 142 [.ref (q_a C 11), .int (nI i)] μ (q_ρ b) (q_to (q_tp μ i o m) (q_ρ b)) := by
  refine q_entry rfl (by decide) (Nat.le_of_ble_eq_true rfl) ?_
  refine g_lv [(0, _), (1, _)] rfl ?_
  refine g_iconst 1 0 dX3_tellPlaces_0 rfl (by decide) ?_
  refine g_istore_n 2 dX3_tellPlaces_1 rfl (by decide) ?_
  refine g_lv [(0, _), (1, _), (2, .int 0)] rfl ?_
  have h9 := lp_tp (C := C) (l := l) (μ := μ) (b := b) hi hm hcm ho m 0 (by omega)
  rw [q_tp_0] at h9
  exact h9
set_option maxRecDepth 100000 in
set_option maxHeartbeats 8000000 in
theorem lp_stage0 {M : Nat} {rin : Nat → Nat} {bg : Int32} {tm S bk : Nat → Int32} {μ0 : q_M} (hM : M ≤ 10) (hr : ∀ k, k < M → rin k = k) (hbg : μ0 62 0 = bg) (htm : ∀ k, k < M → μ0 13 (rin k) = tm (rin k)) (hS : ∀ r, S r = tm r + 0) (hbk : ∀ k, k < M → μ0 6 (rin k) = bk (rin k)) : ∀ k k2, k2 + k = M → ∀ μ, q_RS μ0 μ 0 k2 rin bg tm S bk → q_G C l FX3_runStage 2 142 142 (q_PV fun μ' ρ' => q_ρ b = ρ' ∧ ∃ μ1, q_RS μ0 μ1 0 M rin bg tm S bk ∧ q_up μ1 61 0 (nI M) = μ') 142 μ (q_ρ b) [(0, .ref (q_a C 11)), (1, .int (nI 0)), (2, .ref (q_a C 4)), (3, .int (nI M)), (4, .int (nI k2))] [] 23 := by
  intro k
  induction k with
  | zero =>
    intro k2 hk μ hq
    refine g_iload 25 dX3_runStage_23 rfl rfl ?_
    refine g_iload_n 26 dX3_runStage_25 rfl rfl ?_
    refine g_icmp_ge 161 29 dX3_runStage_26 rfl (by decide) (fun h26 => ?_) (fun h26 => ?_)
    · refine g_aload_n 162 dX3_runStage_161 rfl rfl ?_
      refine g_getR 165 _ dX3_runStage_162 rfl f_X3_35 (by decide) rfl rfl rfl ?_
      refine g_iload_n 166 dX3_runStage_165 rfl rfl ?_
      refine g_iload_n 167 dX3_runStage_166 rfl rfl ?_
      refine g_iast 168 dX3_runStage_167 rfl (by decide) rfl (vp_in_nI (show 0 < 7 by decide) (by omega)) ?_
      rw [nI_clamp (show 0 < 2 ^ 31 by omega)]
      exact g_rv dX3_runStage_168 rfl rfl ⟨rfl, μ, by rw [show k2 = M by omega] at hq; exact hq, rfl⟩
    · exact absurd (nI_le (by omega) (by omega)) h26
  | succ k ih =>
    intro k2 hk μ hq
    refine g_iload 25 dX3_runStage_23 rfl rfl ?_
    refine g_iload_n 26 dX3_runStage_25 rfl rfl ?_
    refine g_icmp_ge 161 29 dX3_runStage_26 rfl (by decide) (fun h26 => ?_) (fun h26 => ?_)
    · exact absurd h26 (nI_ge (by omega) (by omega))
    · refine g_iload_n 30 dX3_runStage_29 rfl rfl ?_
      refine g_if_ne 38 33 dX3_runStage_30 rfl (by decide) (fun h30 => ?_) (fun h30 => ?_)
      · exact absurd rfl h30
      · refine g_iload 35 dX3_runStage_33 rfl rfl ?_
        refine g_goto 49 dX3_runStage_35 (by decide) ?_
        refine g_istore 51 dX3_runStage_49 rfl (by decide) ?_
        have hr10 : rin k2 < 10 := (by rw [hr k2 (by omega)]; omega)
        refine g_lv [(0, _), (1, _), (2, _), (3, _), (4, .int (nI k2)), (5, .int (nI (rin k2)))] (by rw [hr k2 (by omega)]; rfl) ?_
        refine g_aload_n 52 dX3_runStage_51 rfl rfl ?_
        refine g_getR 55 _ dX3_runStage_52 rfl f_X3_16 (by decide) rfl rfl rfl ?_
        refine g_iload_n 56 dX3_runStage_55 rfl rfl ?_
        refine g_aald 57 _ dX3_runStage_56 rfl (by decide) rfl (vp_in_nI (show 0 < 7 by decide) (by omega)) rfl ?_
        rw [nI_clamp (show 0 < 2 ^ 31 by omega)]
        refine g_iload 59 dX3_runStage_57 rfl rfl ?_
        refine g_aload_n 60 dX3_runStage_59 rfl rfl ?_
        refine g_getR 63 _ dX3_runStage_60 rfl f_X3_38 (by decide) rfl rfl rfl ?_
        refine g_iload_n 64 dX3_runStage_63 rfl rfl ?_
        refine g_iald 65 dX3_runStage_64 rfl (by decide) rfl (vp_in_nI (show 0 < 7 by decide) (by omega)) ?_
        rw [nI_clamp (show 0 < 2 ^ 31 by omega), hq.1 62 0 (by omega) (by omega) (by omega) (by omega) (by omega), hbg]
        refine g_iconst 66 2 dX3_runStage_65 rfl (by decide) ?_
        refine g_iload 68 dX3_runStage_66 rfl rfl ?_
        refine g_imul 69 dX3_runStage_68 rfl ?_
        refine g_iadd 70 dX3_runStage_69 rfl ?_
        refine g_iast 71 dX3_runStage_70 rfl (by omega) (k_21 0 (show 0 < 7 by decide)) (vp_in_nI hr10 (by omega)) ?_
        rw [nI_clamp (show rin k2 < 2 ^ 31 by omega)]
        refine g_aload_n 72 dX3_runStage_71 rfl rfl ?_
        refine g_getR 75 _ dX3_runStage_72 rfl f_X3_77 (by decide) rfl rfl rfl ?_
        refine g_iload 77 dX3_runStage_75 rfl rfl ?_
        refine g_iald 78 dX3_runStage_77 rfl (by decide) rfl (vp_in_nI hr10 (by omega)) ?_
        rw [nI_clamp (show rin k2 < 2 ^ 31 by omega), q_upc (by omega), hq.1 6 (rin k2) (by omega) (by omega) (by omega) (by omega) (by omega), hbk k2 (by omega)]
        refine g_iload_n 79 dX3_runStage_78 rfl rfl ?_
        refine g_icmp_eq 155 82 dX3_runStage_79 rfl (by decide) (fun h79 => ?_) (fun h79 => ?_)
        · refine g_iinc 158 (_ + 1) dX3_runStage_155 rfl rfl rfl (by decide) ?_
          refine g_goto 23 dX3_runStage_158 (by decide) ?_
          rw [nI_1]
          refine g_lv [(0, _), (1, _), (2, _), (3, _), (4, _)] rfl ?_
          exact ih (k2 + 1) (by omega) _ (q_RS_n (show 0 < 7 by decide) hq h79)
        · refine g_aload_n 83 dX3_runStage_82 rfl rfl ?_
          refine g_getR 86 _ dX3_runStage_83 rfl f_X3_19 (by decide) rfl rfl rfl ?_
          refine g_iload_n 87 dX3_runStage_86 rfl rfl ?_
          refine g_aald 88 _ dX3_runStage_87 rfl (by decide) rfl (vp_in_nI (show 0 < 7 by decide) (by omega)) rfl ?_
          rw [nI_clamp (show 0 < 2 ^ 31 by omega)]
          refine g_iload 90 dX3_runStage_88 rfl rfl ?_
          refine g_aload_n 91 dX3_runStage_90 rfl rfl ?_
          refine g_getR 94 _ dX3_runStage_91 rfl f_X3_16 (by decide) rfl rfl rfl ?_
          refine g_iload_n 95 dX3_runStage_94 rfl rfl ?_
          refine g_aald 96 _ dX3_runStage_95 rfl (by decide) rfl (vp_in_nI (show 0 < 7 by decide) (by omega)) rfl ?_
          rw [nI_clamp (show 0 < 2 ^ 31 by omega)]
          refine g_iload 98 dX3_runStage_96 rfl rfl ?_
          refine g_iald 99 dX3_runStage_98 rfl (by omega) (k_21 0 (show 0 < 7 by decide)) (vp_in_nI hr10 (by omega)) ?_
          rw [nI_clamp (show rin k2 < 2 ^ 31 by omega), q_ups]
          refine g_aload_n 100 dX3_runStage_99 rfl rfl ?_
          refine g_getR 103 _ dX3_runStage_100 rfl f_X3_11 (by decide) rfl rfl rfl ?_
          refine g_iload_n 104 dX3_runStage_103 rfl rfl ?_
          refine g_aald 105 _ dX3_runStage_104 rfl (by decide) rfl (vp_in_nI (show 0 < 7 by decide) (by omega)) rfl ?_
          rw [nI_clamp (show 0 < 2 ^ 31 by omega)]
          refine g_iload 107 dX3_runStage_105 rfl rfl ?_
          refine g_iald 108 dX3_runStage_107 rfl (by omega) (k_13 0 (show 0 < 7 by decide)) (vp_in_nI hr10 (by omega)) ?_
          rw [nI_clamp (show rin k2 < 2 ^ 31 by omega), q_upc (by omega), hq.1 (13 + 0) (rin k2) (by omega) (by omega) (by omega) (by omega) (by omega), htm k2 (by omega)]
          refine g_iadd 109 dX3_runStage_108 rfl ?_
          refine g_iast 110 dX3_runStage_109 rfl (by omega) (k_29 0 (show 0 < 7 by decide)) (vp_in_nI hr10 (by omega)) ?_
          rw [nI_clamp (show rin k2 < 2 ^ 31 by omega)]
          refine g_aload_n 111 dX3_runStage_110 rfl rfl ?_
          refine g_getR 114 _ dX3_runStage_111 rfl f_X3_25 (by decide) rfl rfl rfl ?_
          refine g_iload_n 115 dX3_runStage_114 rfl rfl ?_
          refine g_aald 116 _ dX3_runStage_115 rfl (by decide) rfl (vp_in_nI (show 0 < 7 by decide) (by omega)) rfl ?_
          rw [nI_clamp (show 0 < 2 ^ 31 by omega)]
          refine g_iload 118 dX3_runStage_116 rfl rfl ?_
          refine g_aload_n 119 dX3_runStage_118 rfl rfl ?_
          refine g_getR 122 _ dX3_runStage_119 rfl f_X3_11 (by decide) rfl rfl rfl ?_
          refine g_iload_n 123 dX3_runStage_122 rfl rfl ?_
          refine g_aald 124 _ dX3_runStage_123 rfl (by decide) rfl (vp_in_nI (show 0 < 7 by decide) (by omega)) rfl ?_
          rw [nI_clamp (show 0 < 2 ^ 31 by omega)]
          refine g_iload 126 dX3_runStage_124 rfl rfl ?_
          refine g_iald 127 dX3_runStage_126 rfl (by omega) (k_13 0 (show 0 < 7 by decide)) (vp_in_nI hr10 (by omega)) ?_
          rw [nI_clamp (show rin k2 < 2 ^ 31 by omega), q_upc (by omega), q_upc (by omega), hq.1 (13 + 0) (rin k2) (by omega) (by omega) (by omega) (by omega) (by omega), htm k2 (by omega)]
          refine g_iload_n 128 dX3_runStage_127 rfl rfl ?_
          refine g_if_ne 135 131 dX3_runStage_128 rfl (by decide) (fun h128 => ?_) (fun h128 => ?_)
          · exact absurd rfl h128
          · refine g_iconst 132 0 dX3_runStage_131 rfl (by decide) ?_
            refine g_goto 146 dX3_runStage_132 (by decide) ?_
            refine g_iadd 147 dX3_runStage_146 rfl ?_
            refine g_iast 148 dX3_runStage_147 rfl (by omega) (k_45 0 (show 0 < 7 by decide)) (vp_in_nI hr10 (by omega)) ?_
            rw [nI_clamp (show rin k2 < 2 ^ 31 by omega), ← hS]
            refine g_aload_n 149 dX3_runStage_148 rfl rfl ?_
            refine g_iload_n 150 dX3_runStage_149 rfl rfl ?_
            refine g_iload 152 dX3_runStage_150 rfl rfl ?_
            have hle := q_so_le S bk 0 rin k2
            have hcm : (q_up (q_up (q_up μ (21 + 0) (rin k2) (bg + 2 * nI k2)) (29 + 0) (rin k2) (bg + 2 * nI k2 + tm (rin k2))) (45 + 0) (rin k2) (S (rin k2))) 60 0 = nI (q_so S bk 0 rin k2).2 := by rw [q_upc (by omega), q_upc (by omega), q_upc (by omega)]; exact hq.2.2.2.2.2
            have ho : ∀ j, j < (q_so S bk 0 rin k2).2 → (q_up (q_up (q_up μ (21 + 0) (rin k2) (bg + 2 * nI k2)) (29 + 0) (rin k2) (bg + 2 * nI k2 + tm (rin k2))) (45 + 0) (rin k2) (S (rin k2))) (53 + 0) j = nI ((q_so S bk 0 rin k2).1 j) ∧ (q_so S bk 0 rin k2).1 j < 10 ∧ (q_up (q_up (q_up μ (21 + 0) (rin k2) (bg + 2 * nI k2)) (29 + 0) (rin k2) (bg + 2 * nI k2 + tm (rin k2))) (45 + 0) (rin k2) (S (rin k2))) (45 + 0) ((q_so S bk 0 rin k2).1 j) = S ((q_so S bk 0 rin k2).1 j) := by
              intro j hj
              obtain ⟨k9, g1, g2, g3⟩ := q_so_mem S bk 0 rin k2 j hj
              have hk9 : rin k9 < 10 := (by rw [hr k9 (by omega)]; omega)
              refine ⟨by rw [q_upc (by omega), q_upc (by omega), q_upc (by omega)]; exact hq.2.2.2.2.1 j hj, by rw [g2]; exact hk9, ?_⟩
              by_cases q : (q_so S bk 0 rin k2).1 j = rin k2
              · rw [q, q_ups]
              · rw [q_upo (fun z => q z.2), q_upc (by omega), q_upc (by omega), hq.2.2.2.1 _ (by rw [g2]; exact hk9)]
                exact q_so_su S bk 0 rin k2 j hj
            refine g_Vv 155 [_, _] _ dX3_runStage_152 rfl m_X3_rank l_X3_89 rfl rfl rfl (by decide) (c_rank (show 0 < 7 by decide) hr10 (by omega) hcm ho q_ups) rfl (Nat.le_of_ble_eq_true rfl) (by decide) (fun μ152 ρ152 hc9 => ?_)
            obtain ⟨rfl, rfl⟩ := hc9
            refine g_iinc 158 (_ + 1) dX3_runStage_155 rfl rfl rfl (by decide) ?_
            refine g_goto 23 dX3_runStage_158 (by decide) ?_
            rw [nI_1]
            refine g_lv [(0, _), (1, _), (2, _), (3, _), (4, _)] rfl ?_
            exact ih (k2 + 1) (by omega) _ (q_RS_y (show 0 < 7 by decide) hq h79 rfl rfl)
set_option maxRecDepth 100000 in
set_option maxHeartbeats 4000000 in
theorem c_stage0 {M : Nat} {rin : Nat → Nat} {bg : Int32} {tm S bk : Nat → Int32} {μ0 : q_M} (hM : M ≤ 10) (hr : ∀ k, k < M → rin k = k) (hbg : μ0 62 0 = bg) (htm : ∀ k, k < M → μ0 13 (rin k) = tm (rin k)) (hS : ∀ r, S r = tm r + 0) (hbk : ∀ k, k < M → μ0 6 (rin k) = bk (rin k)) (hcnt : μ0 4 3 = nI M) (h0 : q_RS μ0 μ0 0 0 rin bg tm S bk) : q_Ct C l FX3_runStage 2 142 142 [.ref (q_a C 11), .int (nI 0), .ref (q_a C 4)] μ0 (q_ρ b) (q_PV fun μ' ρ' => q_ρ b = ρ' ∧ ∃ μ1, q_RS μ0 μ1 0 M rin bg tm S bk ∧ q_up μ1 61 0 (nI M) = μ') := by
  refine q_entry rfl (by decide) (Nat.le_of_ble_eq_true rfl) ?_
  refine g_lv [(0, _), (1, _), (2, _)] rfl ?_
  refine g_iload_n 1 dX3_runStage_0 rfl rfl ?_
  refine g_if_ne 11 4 dX3_runStage_1 rfl (by decide) (fun h1 => ?_) (fun h1 => ?_)
  · exact absurd rfl h1
  · refine g_aload_n 5 dX3_runStage_4 rfl rfl ?_
    refine g_getI 8 dX3_runStage_5 rfl f_X3_50 (by decide) rfl rfl ?_
    rw [hcnt]
    refine g_goto 19 dX3_runStage_8 (by decide) ?_
    refine g_istore_n 20 dX3_runStage_19 rfl (by decide) ?_
    refine g_iconst 21 0 dX3_runStage_20 rfl (by decide) ?_
    refine g_istore 23 dX3_runStage_21 rfl (by decide) ?_
    refine g_lv [(0, _), (1, _), (2, _), (3, _), (4, .int (nI 0))] rfl ?_
    exact lp_stage0 hM hr hbg htm hS hbk M 0 (by omega) μ0 h0
set_option maxRecDepth 100000 in
set_option maxHeartbeats 8000000 in
theorem lp_stages {i M : Nat} {rin : Nat → Nat} {bg : Int32} {tm S Sp bk : Nat → Int32} {μ0 : q_M} (hi : i + 1 < 7) (hM : M ≤ 10) (hr : ∀ k, k < M → rin k < 10 ∧ μ0 (53 + i) k = nI (rin k) ∧ μ0 (45 + i) (rin k) = Sp (rin k)) (hbg : μ0 62 (i + 1) = bg) (htm : ∀ k, k < M → μ0 (13 + (i + 1)) (rin k) = tm (rin k)) (hS : ∀ r, S r = tm r + Sp r) (hbk : ∀ k, k < M → μ0 6 (rin k) = bk (rin k)) : ∀ k k2, k2 + k = M → ∀ μ, q_RS μ0 μ (i + 1) k2 rin bg tm S bk → q_G C l FX3_runStage 2 142 142 (q_PV fun μ' ρ' => q_ρ b = ρ' ∧ ∃ μ1, q_RS μ0 μ1 (i + 1) M rin bg tm S bk ∧ q_up μ1 61 (i + 1) (nI M) = μ') 142 μ (q_ρ b) [(0, .ref (q_a C 11)), (1, .int (nI (i + 1))), (2, .ref (q_a C 4)), (3, .int (nI M)), (4, .int (nI k2))] [] 23 := by
  intro k
  induction k with
  | zero =>
    intro k2 hk μ hq
    refine g_iload 25 dX3_runStage_23 rfl rfl ?_
    refine g_iload_n 26 dX3_runStage_25 rfl rfl ?_
    refine g_icmp_ge 161 29 dX3_runStage_26 rfl (by decide) (fun h26 => ?_) (fun h26 => ?_)
    · refine g_aload_n 162 dX3_runStage_161 rfl rfl ?_
      refine g_getR 165 _ dX3_runStage_162 rfl f_X3_35 (by decide) rfl rfl rfl ?_
      refine g_iload_n 166 dX3_runStage_165 rfl rfl ?_
      refine g_iload_n 167 dX3_runStage_166 rfl rfl ?_
      refine g_iast 168 dX3_runStage_167 rfl (by decide) rfl (vp_in_nI hi (by omega)) ?_
      rw [nI_clamp (show (i + 1) < 2 ^ 31 by omega)]
      exact g_rv dX3_runStage_168 rfl rfl ⟨rfl, μ, by rw [show k2 = M by omega] at hq; exact hq, rfl⟩
    · exact absurd (nI_le (by omega) (by omega)) h26
  | succ k ih =>
    intro k2 hk μ hq
    refine g_iload 25 dX3_runStage_23 rfl rfl ?_
    refine g_iload_n 26 dX3_runStage_25 rfl rfl ?_
    refine g_icmp_ge 161 29 dX3_runStage_26 rfl (by decide) (fun h26 => ?_) (fun h26 => ?_)
    · exact absurd h26 (nI_ge (by omega) (by omega))
    · refine g_iload_n 30 dX3_runStage_29 rfl rfl ?_
      refine g_if_ne 38 33 dX3_runStage_30 rfl (by decide) (fun h30 => ?_) (fun h30 => ?_)
      · refine g_aload_n 39 dX3_runStage_38 rfl rfl ?_
        refine g_getR 42 _ dX3_runStage_39 rfl f_X3_28 (by decide) rfl rfl rfl ?_
        refine g_iload_n 43 dX3_runStage_42 rfl rfl ?_
        refine g_iconst 44 1 dX3_runStage_43 rfl (by decide) ?_
        refine g_isub 45 dX3_runStage_44 rfl ?_
        rw [nI_pred]
        refine g_aald 46 _ dX3_runStage_45 rfl (by decide) rfl (vp_in_nI (show i < 7 by omega) (by omega)) rfl ?_
        rw [nI_clamp (show i < 2 ^ 31 by omega)]
        refine g_iload 48 dX3_runStage_46 rfl rfl ?_
        refine g_iald 49 dX3_runStage_48 rfl (by omega) (k_53 i (by omega)) (vp_in_nI (show k2 < 10 by omega) (by omega)) ?_
        rw [nI_clamp (show k2 < 2 ^ 31 by omega), hq.1 (53 + i) k2 (by omega) (by omega) (by omega) (by omega) (by omega), (hr k2 (by omega)).2.1]
        refine g_istore 51 dX3_runStage_49 rfl (by decide) ?_
        have hr10 : rin k2 < 10 := (hr k2 (by omega)).1
        refine g_aload_n 52 dX3_runStage_51 rfl rfl ?_
        refine g_getR 55 _ dX3_runStage_52 rfl f_X3_16 (by decide) rfl rfl rfl ?_
        refine g_iload_n 56 dX3_runStage_55 rfl rfl ?_
        refine g_aald 57 _ dX3_runStage_56 rfl (by decide) rfl (vp_in_nI hi (by omega)) rfl ?_
        rw [nI_clamp (show (i + 1) < 2 ^ 31 by omega)]
        refine g_iload 59 dX3_runStage_57 rfl rfl ?_
        refine g_aload_n 60 dX3_runStage_59 rfl rfl ?_
        refine g_getR 63 _ dX3_runStage_60 rfl f_X3_38 (by decide) rfl rfl rfl ?_
        refine g_iload_n 64 dX3_runStage_63 rfl rfl ?_
        refine g_iald 65 dX3_runStage_64 rfl (by decide) rfl (vp_in_nI hi (by omega)) ?_
        rw [nI_clamp (show (i + 1) < 2 ^ 31 by omega), hq.1 62 (i + 1) (by omega) (by omega) (by omega) (by omega) (by omega), hbg]
        refine g_iconst 66 2 dX3_runStage_65 rfl (by decide) ?_
        refine g_iload 68 dX3_runStage_66 rfl rfl ?_
        refine g_imul 69 dX3_runStage_68 rfl ?_
        refine g_iadd 70 dX3_runStage_69 rfl ?_
        refine g_iast 71 dX3_runStage_70 rfl (by omega) (k_21 (i + 1) hi) (vp_in_nI hr10 (by omega)) ?_
        rw [nI_clamp (show rin k2 < 2 ^ 31 by omega)]
        refine g_aload_n 72 dX3_runStage_71 rfl rfl ?_
        refine g_getR 75 _ dX3_runStage_72 rfl f_X3_77 (by decide) rfl rfl rfl ?_
        refine g_iload 77 dX3_runStage_75 rfl rfl ?_
        refine g_iald 78 dX3_runStage_77 rfl (by decide) rfl (vp_in_nI hr10 (by omega)) ?_
        rw [nI_clamp (show rin k2 < 2 ^ 31 by omega), q_upc (by omega), hq.1 6 (rin k2) (by omega) (by omega) (by omega) (by omega) (by omega), hbk k2 (by omega)]
        refine g_iload_n 79 dX3_runStage_78 rfl rfl ?_
        refine g_icmp_eq 155 82 dX3_runStage_79 rfl (by decide) (fun h79 => ?_) (fun h79 => ?_)
        · refine g_iinc 158 (_ + 1) dX3_runStage_155 rfl rfl rfl (by decide) ?_
          refine g_goto 23 dX3_runStage_158 (by decide) ?_
          rw [nI_1]
          refine g_lv [(0, _), (1, _), (2, _), (3, _), (4, _)] rfl ?_
          exact ih (k2 + 1) (by omega) _ (q_RS_n hi hq h79)
        · refine g_aload_n 83 dX3_runStage_82 rfl rfl ?_
          refine g_getR 86 _ dX3_runStage_83 rfl f_X3_19 (by decide) rfl rfl rfl ?_
          refine g_iload_n 87 dX3_runStage_86 rfl rfl ?_
          refine g_aald 88 _ dX3_runStage_87 rfl (by decide) rfl (vp_in_nI hi (by omega)) rfl ?_
          rw [nI_clamp (show (i + 1) < 2 ^ 31 by omega)]
          refine g_iload 90 dX3_runStage_88 rfl rfl ?_
          refine g_aload_n 91 dX3_runStage_90 rfl rfl ?_
          refine g_getR 94 _ dX3_runStage_91 rfl f_X3_16 (by decide) rfl rfl rfl ?_
          refine g_iload_n 95 dX3_runStage_94 rfl rfl ?_
          refine g_aald 96 _ dX3_runStage_95 rfl (by decide) rfl (vp_in_nI hi (by omega)) rfl ?_
          rw [nI_clamp (show (i + 1) < 2 ^ 31 by omega)]
          refine g_iload 98 dX3_runStage_96 rfl rfl ?_
          refine g_iald 99 dX3_runStage_98 rfl (by omega) (k_21 (i + 1) hi) (vp_in_nI hr10 (by omega)) ?_
          rw [nI_clamp (show rin k2 < 2 ^ 31 by omega), q_ups]
          refine g_aload_n 100 dX3_runStage_99 rfl rfl ?_
          refine g_getR 103 _ dX3_runStage_100 rfl f_X3_11 (by decide) rfl rfl rfl ?_
          refine g_iload_n 104 dX3_runStage_103 rfl rfl ?_
          refine g_aald 105 _ dX3_runStage_104 rfl (by decide) rfl (vp_in_nI hi (by omega)) rfl ?_
          rw [nI_clamp (show (i + 1) < 2 ^ 31 by omega)]
          refine g_iload 107 dX3_runStage_105 rfl rfl ?_
          refine g_iald 108 dX3_runStage_107 rfl (by omega) (k_13 (i + 1) hi) (vp_in_nI hr10 (by omega)) ?_
          rw [nI_clamp (show rin k2 < 2 ^ 31 by omega), q_upc (by omega), hq.1 (13 + (i + 1)) (rin k2) (by omega) (by omega) (by omega) (by omega) (by omega), htm k2 (by omega)]
          refine g_iadd 109 dX3_runStage_108 rfl ?_
          refine g_iast 110 dX3_runStage_109 rfl (by omega) (k_29 (i + 1) hi) (vp_in_nI hr10 (by omega)) ?_
          rw [nI_clamp (show rin k2 < 2 ^ 31 by omega)]
          refine g_aload_n 111 dX3_runStage_110 rfl rfl ?_
          refine g_getR 114 _ dX3_runStage_111 rfl f_X3_25 (by decide) rfl rfl rfl ?_
          refine g_iload_n 115 dX3_runStage_114 rfl rfl ?_
          refine g_aald 116 _ dX3_runStage_115 rfl (by decide) rfl (vp_in_nI hi (by omega)) rfl ?_
          rw [nI_clamp (show (i + 1) < 2 ^ 31 by omega)]
          refine g_iload 118 dX3_runStage_116 rfl rfl ?_
          refine g_aload_n 119 dX3_runStage_118 rfl rfl ?_
          refine g_getR 122 _ dX3_runStage_119 rfl f_X3_11 (by decide) rfl rfl rfl ?_
          refine g_iload_n 123 dX3_runStage_122 rfl rfl ?_
          refine g_aald 124 _ dX3_runStage_123 rfl (by decide) rfl (vp_in_nI hi (by omega)) rfl ?_
          rw [nI_clamp (show (i + 1) < 2 ^ 31 by omega)]
          refine g_iload 126 dX3_runStage_124 rfl rfl ?_
          refine g_iald 127 dX3_runStage_126 rfl (by omega) (k_13 (i + 1) hi) (vp_in_nI hr10 (by omega)) ?_
          rw [nI_clamp (show rin k2 < 2 ^ 31 by omega), q_upc (by omega), q_upc (by omega), hq.1 (13 + (i + 1)) (rin k2) (by omega) (by omega) (by omega) (by omega) (by omega), htm k2 (by omega)]
          refine g_iload_n 128 dX3_runStage_127 rfl rfl ?_
          refine g_if_ne 135 131 dX3_runStage_128 rfl (by decide) (fun h128 => ?_) (fun h128 => ?_)
          · refine g_aload_n 136 dX3_runStage_135 rfl rfl ?_
            refine g_getR 139 _ dX3_runStage_136 rfl f_X3_25 (by decide) rfl rfl rfl ?_
            refine g_iload_n 140 dX3_runStage_139 rfl rfl ?_
            refine g_iconst 141 1 dX3_runStage_140 rfl (by decide) ?_
            refine g_isub 142 dX3_runStage_141 rfl ?_
            rw [nI_pred]
            refine g_aald 143 _ dX3_runStage_142 rfl (by decide) rfl (vp_in_nI (show i < 7 by omega) (by omega)) rfl ?_
            rw [nI_clamp (show i < 2 ^ 31 by omega)]
            refine g_iload 145 dX3_runStage_143 rfl rfl ?_
            refine g_iald 146 dX3_runStage_145 rfl (by omega) (k_45 i (by omega)) (vp_in_nI hr10 (by omega)) ?_
            rw [nI_clamp (show rin k2 < 2 ^ 31 by omega), q_upc (by omega), q_upc (by omega), hq.1 (45 + i) (rin k2) (by omega) (by omega) (by omega) (by omega) (by omega), (hr k2 (by omega)).2.2]
            refine g_iadd 147 dX3_runStage_146 rfl ?_
            refine g_iast 148 dX3_runStage_147 rfl (by omega) (k_45 (i + 1) hi) (vp_in_nI hr10 (by omega)) ?_
            rw [nI_clamp (show rin k2 < 2 ^ 31 by omega), ← hS]
            refine g_aload_n 149 dX3_runStage_148 rfl rfl ?_
            refine g_iload_n 150 dX3_runStage_149 rfl rfl ?_
            refine g_iload 152 dX3_runStage_150 rfl rfl ?_
            have hle := q_so_le S bk (i + 1) rin k2
            have hcm : (q_up (q_up (q_up μ (21 + (i + 1)) (rin k2) (bg + 2 * nI k2)) (29 + (i + 1)) (rin k2) (bg + 2 * nI k2 + tm (rin k2))) (45 + (i + 1)) (rin k2) (S (rin k2))) 60 (i + 1) = nI (q_so S bk (i + 1) rin k2).2 := by rw [q_upc (by omega), q_upc (by omega), q_upc (by omega)]; exact hq.2.2.2.2.2
            have ho : ∀ j, j < (q_so S bk (i + 1) rin k2).2 → (q_up (q_up (q_up μ (21 + (i + 1)) (rin k2) (bg + 2 * nI k2)) (29 + (i + 1)) (rin k2) (bg + 2 * nI k2 + tm (rin k2))) (45 + (i + 1)) (rin k2) (S (rin k2))) (53 + (i + 1)) j = nI ((q_so S bk (i + 1) rin k2).1 j) ∧ (q_so S bk (i + 1) rin k2).1 j < 10 ∧ (q_up (q_up (q_up μ (21 + (i + 1)) (rin k2) (bg + 2 * nI k2)) (29 + (i + 1)) (rin k2) (bg + 2 * nI k2 + tm (rin k2))) (45 + (i + 1)) (rin k2) (S (rin k2))) (45 + (i + 1)) ((q_so S bk (i + 1) rin k2).1 j) = S ((q_so S bk (i + 1) rin k2).1 j) := by
              intro j hj
              obtain ⟨k9, g1, g2, g3⟩ := q_so_mem S bk (i + 1) rin k2 j hj
              have hk9 : rin k9 < 10 := (hr k9 (by omega)).1
              refine ⟨by rw [q_upc (by omega), q_upc (by omega), q_upc (by omega)]; exact hq.2.2.2.2.1 j hj, by rw [g2]; exact hk9, ?_⟩
              by_cases q : (q_so S bk (i + 1) rin k2).1 j = rin k2
              · rw [q, q_ups]
              · rw [q_upo (fun z => q z.2), q_upc (by omega), q_upc (by omega), hq.2.2.2.1 _ (by rw [g2]; exact hk9)]
                exact q_so_su S bk (i + 1) rin k2 j hj
            refine g_Vv 155 [_, _] _ dX3_runStage_152 rfl m_X3_rank l_X3_89 rfl rfl rfl (by decide) (c_rank hi hr10 (by omega) hcm ho q_ups) rfl (Nat.le_of_ble_eq_true rfl) (by decide) (fun μ152 ρ152 hc9 => ?_)
            obtain ⟨rfl, rfl⟩ := hc9
            refine g_iinc 158 (_ + 1) dX3_runStage_155 rfl rfl rfl (by decide) ?_
            refine g_goto 23 dX3_runStage_158 (by decide) ?_
            rw [nI_1]
            refine g_lv [(0, _), (1, _), (2, _), (3, _), (4, _)] rfl ?_
            exact ih (k2 + 1) (by omega) _ (q_RS_y hi hq h79 rfl rfl)
          · exact absurd h128 (nI_ne0 (by omega) (by omega))
      · exact absurd h30 (nI_ne0 (by omega) (by omega))
set_option maxRecDepth 100000 in
set_option maxHeartbeats 4000000 in
theorem c_stages {i M : Nat} {rin : Nat → Nat} {bg : Int32} {tm S Sp bk : Nat → Int32} {μ0 : q_M} (hi : i + 1 < 7) (hM : M ≤ 10) (hr : ∀ k, k < M → rin k < 10 ∧ μ0 (53 + i) k = nI (rin k) ∧ μ0 (45 + i) (rin k) = Sp (rin k)) (hbg : μ0 62 (i + 1) = bg) (htm : ∀ k, k < M → μ0 (13 + (i + 1)) (rin k) = tm (rin k)) (hS : ∀ r, S r = tm r + Sp r) (hbk : ∀ k, k < M → μ0 6 (rin k) = bk (rin k)) (hcnt : μ0 60 i = nI M) (h0 : q_RS μ0 μ0 (i + 1) 0 rin bg tm S bk) : q_Ct C l FX3_runStage 2 142 142 [.ref (q_a C 11), .int (nI (i + 1)), .ref (q_a C 4)] μ0 (q_ρ b) (q_PV fun μ' ρ' => q_ρ b = ρ' ∧ ∃ μ1, q_RS μ0 μ1 (i + 1) M rin bg tm S bk ∧ q_up μ1 61 (i + 1) (nI M) = μ') := by
  refine q_entry rfl (by decide) (Nat.le_of_ble_eq_true rfl) ?_
  refine g_lv [(0, _), (1, _), (2, _)] rfl ?_
  refine g_iload_n 1 dX3_runStage_0 rfl rfl ?_
  refine g_if_ne 11 4 dX3_runStage_1 rfl (by decide) (fun h1 => ?_) (fun h1 => ?_)
  · refine g_aload_n 12 dX3_runStage_11 rfl rfl ?_
    refine g_getR 15 _ dX3_runStage_12 rfl f_X3_31 (by decide) rfl rfl rfl ?_
    refine g_iload_n 16 dX3_runStage_15 rfl rfl ?_
    refine g_iconst 17 1 dX3_runStage_16 rfl (by decide) ?_
    refine g_isub 18 dX3_runStage_17 rfl ?_
    rw [nI_pred]
    refine g_iald 19 dX3_runStage_18 rfl (by decide) rfl (vp_in_nI (show i < 7 by omega) (by omega)) ?_
    rw [nI_clamp (show i < 2 ^ 31 by omega), hcnt]
    refine g_istore_n 20 dX3_runStage_19 rfl (by decide) ?_
    refine g_iconst 21 0 dX3_runStage_20 rfl (by decide) ?_
    refine g_istore 23 dX3_runStage_21 rfl (by decide) ?_
    refine g_lv [(0, _), (1, _), (2, _), (3, _), (4, .int (nI 0))] rfl ?_
    exact lp_stages hi hM hr hbg htm hS hbk M 0 (by omega) μ0 h0
  · exact absurd h1 (nI_ne0 (by omega) (by omega))
end SG
