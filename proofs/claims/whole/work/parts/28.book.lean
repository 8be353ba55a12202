/-! ===== the reading of a road book ===== -/
def q_k1 (B : q_B) (n : Nat) : Nat := if n ≤ 6 then (if 4 ≤ B.1 n then 3 else 0) else 2
def q_k3 (a n : Nat) : Nat := if a ≤ n ∧ n ≤ 899 then 0 else 2
def q_k5 (a n : Nat) : Nat := if a + 1 ≤ n ∧ n ≤ 900 then 0 else 2
def q_k7 (n : Nat) : Nat := if 10 ≤ n ∧ n ≤ 99 then 0 else 2
abbrev q_W : Type := Nat × Nat × Nat × Nat × q_B
def q_stp (Y : Nat → Int32) (L slot s : Nat) (w : q_W) : Nat × q_W :=
  match slot with
  | 1 => if q_nu Y s (q_te Y L s) = -1 then (1, w) else (q_k1 w.2.2.2.2 (q_nu Y s (q_te Y L s)).toNatClampNeg, (q_nu Y s (q_te Y L s)).toNatClampNeg, w.2)
  | 3 => if q_nu Y s (q_te Y L s) = -1 then (1, w) else (q_k3 (q_re w.2.2.2.2 w.1) (q_nu Y s (q_te Y L s)).toNatClampNeg, w.1, (q_nu Y s (q_te Y L s)).toNatClampNeg, w.2.2)
  | 5 => if q_nu Y s (q_te Y L s) = -1 then (1, w) else (q_k5 w.2.1 (q_nu Y s (q_te Y L s)).toNatClampNeg, w.1, w.2.1, (q_nu Y s (q_te Y L s)).toNatClampNeg, w.2.2.2)
  | 7 => if q_nu Y s (q_te Y L s) = -1 then (1, w) else (q_k7 (q_nu Y s (q_te Y L s)).toNatClampNeg, w.1, w.2.1, w.2.2.1, (q_nu Y s (q_te Y L s)).toNatClampNeg, w.2.2.2.2)
  | 8 => if Y s = 59 then (0, w.1, w.2.1, w.2.2.1, w.2.2.2.1, q_ad w.2.2.2.2 w.1 w.2.1 w.2.2.1 w.2.2.2.1) else (1, w)
  | 0 => if q_wd Y s (q_te Y L s) 0 then (0, w) else (1, w)
  | 2 => if q_wd Y s (q_te Y L s) 1 then (0, w) else (1, w)
  | 4 => if q_wd Y s (q_te Y L s) 2 then (0, w) else (1, w)
  | _ => if q_wd Y s (q_te Y L s) 3 then (0, w) else (1, w)
theorem q_sp1 {Y : Nat → Int32} {L s : Nat} {w : q_W} : q_stp Y L 1 s w = if q_nu Y s (q_te Y L s) = -1 then (1, w) else (q_k1 w.2.2.2.2 (q_nu Y s (q_te Y L s)).toNatClampNeg, (q_nu Y s (q_te Y L s)).toNatClampNeg, w.2) := rfl
theorem q_sp3 {Y : Nat → Int32} {L s : Nat} {w : q_W} : q_stp Y L 3 s w = if q_nu Y s (q_te Y L s) = -1 then (1, w) else (q_k3 (q_re w.2.2.2.2 w.1) (q_nu Y s (q_te Y L s)).toNatClampNeg, w.1, (q_nu Y s (q_te Y L s)).toNatClampNeg, w.2.2) := rfl
theorem q_sp5 {Y : Nat → Int32} {L s : Nat} {w : q_W} : q_stp Y L 5 s w = if q_nu Y s (q_te Y L s) = -1 then (1, w) else (q_k5 w.2.1 (q_nu Y s (q_te Y L s)).toNatClampNeg, w.1, w.2.1, (q_nu Y s (q_te Y L s)).toNatClampNeg, w.2.2.2) := rfl
theorem q_sp7 {Y : Nat → Int32} {L s : Nat} {w : q_W} : q_stp Y L 7 s w = if q_nu Y s (q_te Y L s) = -1 then (1, w) else (q_k7 (q_nu Y s (q_te Y L s)).toNatClampNeg, w.1, w.2.1, w.2.2.1, (q_nu Y s (q_te Y L s)).toNatClampNeg, w.2.2.2.2) := rfl
theorem q_sp8 {Y : Nat → Int32} {L s : Nat} {w : q_W} : q_stp Y L 8 s w = if Y s = 59 then (0, w.1, w.2.1, w.2.2.1, w.2.2.2.1, q_ad w.2.2.2.2 w.1 w.2.1 w.2.2.1 w.2.2.2.1) else (1, w) := rfl
theorem q_sp0 {Y : Nat → Int32} {L s : Nat} {w : q_W} : q_stp Y L 0 s w = if q_wd Y s (q_te Y L s) 0 then (0, w) else (1, w) := rfl
theorem q_sp2 {Y : Nat → Int32} {L s : Nat} {w : q_W} : q_stp Y L 2 s w = if q_wd Y s (q_te Y L s) 1 then (0, w) else (1, w) := rfl
theorem q_sp4 {Y : Nat → Int32} {L s : Nat} {w : q_W} : q_stp Y L 4 s w = if q_wd Y s (q_te Y L s) 2 then (0, w) else (1, w) := rfl
theorem q_sp6 {Y : Nat → Int32} {L s : Nat} {w : q_W} : q_stp Y L 6 s w = if q_wd Y s (q_te Y L s) 3 then (0, w) else (1, w) := rfl
def q_rd (Y : Nat → Int32) (L : Nat) : Nat → Nat → Nat → q_W → Nat × Nat × q_B
  | 0, slot, _, w => if slot = 0 then (0, 0, w.2.2.2.2) else (1, L, w.2.2.2.2)
  | f + 1, slot, s, w => if s < L then (if (q_stp Y L slot s w).1 = 0 then q_rd Y L f ((slot + 1) % 9) (q_sk Y L (q_te Y L s)) (q_stp Y L slot s w).2 else ((q_stp Y L slot s w).1, s, w.2.2.2.2)) else if slot = 0 then (0, 0, w.2.2.2.2) else (1, L, w.2.2.2.2)
def q_iv (slot : Nat) (w : q_W) : Prop := (2 ≤ slot → w.1 < 7 ∧ w.2.2.2.2.1 w.1 < 4) ∧ (4 ≤ slot → q_re w.2.2.2.2 w.1 ≤ w.2.1 ∧ w.2.1 ≤ 899) ∧ (6 ≤ slot → w.2.1 < w.2.2.1 ∧ w.2.2.1 ≤ 900) ∧ (8 ≤ slot → 10 ≤ w.2.2.2.1 ∧ w.2.2.2.1 ≤ 99) ∧ q_WF w.2.2.2.2
theorem q_iv_le {a b : Nat} {w : q_W} (h : a ≤ b) (i : q_iv b w) : q_iv a w := ⟨fun q => i.1 (by omega), fun q => i.2.1 (by omega), fun q => i.2.2.1 (by omega), fun q => i.2.2.2.1 (by omega), i.2.2.2.2⟩
theorem q_k1_0 {B : q_B} {n : Nat} (h : q_k1 B n = 0) : n < 7 ∧ B.1 n < 4 := by
  unfold q_k1 at h
  by_cases h1 : n ≤ 6
  · rw [if_pos h1] at h
    by_cases h2 : 4 ≤ B.1 n
    · rw [if_pos h2] at h; omega
    · omega
  · rw [if_neg h1] at h; omega
theorem q_k3_0 {a n : Nat} (h : q_k3 a n = 0) : a ≤ n ∧ n ≤ 899 := by
  unfold q_k3 at h
  by_cases h1 : a ≤ n ∧ n ≤ 899
  · exact h1
  · rw [if_neg h1] at h; omega
theorem q_k5_0 {a n : Nat} (h : q_k5 a n = 0) : a < n ∧ n ≤ 900 := by
  unfold q_k5 at h
  by_cases h1 : a + 1 ≤ n ∧ n ≤ 900
  · omega
  · rw [if_neg h1] at h; omega
theorem q_k7_0 {n : Nat} (h : q_k7 n = 0) : 10 ≤ n ∧ n ≤ 99 := by
  unfold q_k7 at h
  by_cases h1 : 10 ≤ n ∧ n ≤ 99
  · exact h1
  · rw [if_neg h1] at h; omega
theorem q_s9 {slot : Nat} (h : slot < 9) : slot = 0 ∨ slot = 1 ∨ slot = 2 ∨ slot = 3 ∨ slot = 4 ∨ slot = 5 ∨ slot = 6 ∨ slot = 7 ∨ slot = 8 := by omega
theorem q_iv_wd {P : Prop} [Decidable P] {w : q_W} {a c : Nat} (h : (if P then ((0, w) : Nat × q_W) else (1, w)).1 = 0) (i : q_iv a w) (hc : ∀ k, 2 ≤ k → k ≤ 8 → k % 2 = 0 → k ≤ c → k ≤ a) : q_iv c (if P then ((0, w) : Nat × q_W) else (1, w)).2 := by
  have e : (if P then ((0, w) : Nat × q_W) else (1, w)).2 = w := by by_cases hp : P <;> simp [hp]
  rw [e]
  exact ⟨fun q => i.1 (hc 2 (by omega) (by omega) rfl q), fun q => i.2.1 (hc 4 (by omega) (by omega) rfl q), fun q => i.2.2.1 (hc 6 (by omega) (by omega) rfl q), fun q => i.2.2.2.1 (hc 8 (by omega) (by omega) rfl q), i.2.2.2.2⟩
theorem q_iv_s {Y : Nat → Int32} {L slot s : Nat} {w : q_W} (hs : slot < 9) (i : q_iv slot w) (h : (q_stp Y L slot s w).1 = 0) : q_iv ((slot + 1) % 9) (q_stp Y L slot s w).2 := by
  rcases q_s9 hs with rfl | rfl | rfl | rfl | rfl | rfl | rfl | rfl | rfl
  · exact q_iv_wd h i (by omega)
  · rw [q_sp1] at h ⊢
    by_cases e : q_nu Y s (q_te Y L s) = -1
    · rw [if_pos e] at h; exact absurd h Nat.one_ne_zero
    · rw [if_neg e] at h ⊢
      exact ⟨fun _ => q_k1_0 h, fun q => absurd q (by decide), fun q => absurd q (by decide), fun q => absurd q (by decide), i.2.2.2.2⟩
  · exact q_iv_wd h i (by omega)
  · rw [q_sp3] at h ⊢
    by_cases e : q_nu Y s (q_te Y L s) = -1
    · rw [if_pos e] at h; exact absurd h Nat.one_ne_zero
    · rw [if_neg e] at h ⊢
      exact ⟨fun _ => i.1 (by decide), fun q => q_k3_0 h, fun q => absurd q (by decide), fun q => absurd q (by decide), i.2.2.2.2⟩
  · exact q_iv_wd h i (by omega)
  · rw [q_sp5] at h ⊢
    by_cases e : q_nu Y s (q_te Y L s) = -1
    · rw [if_pos e] at h; exact absurd h Nat.one_ne_zero
    · rw [if_neg e] at h ⊢
      exact ⟨fun _ => i.1 (by decide), fun q => i.2.1 (by decide), fun q => q_k5_0 h, fun q => absurd q (by decide), i.2.2.2.2⟩
  · exact q_iv_wd h i (by omega)
  · rw [q_sp7] at h ⊢
    by_cases e : q_nu Y s (q_te Y L s) = -1
    · rw [if_pos e] at h; exact absurd h Nat.one_ne_zero
    · rw [if_neg e] at h ⊢
      exact ⟨fun _ => i.1 (by decide), fun q => i.2.1 (by decide), fun q => i.2.2.1 (by decide), fun q => q_k7_0 h, i.2.2.2.2⟩
  · rw [q_sp8] at h ⊢
    by_cases e : Y s = 59
    · rw [if_pos e]
      refine ⟨fun q => absurd q (by decide), fun q => absurd q (by decide), fun q => absurd q (by decide), fun q => absurd q (by decide), ?_⟩
      exact q_WFa i.2.2.2.2 (i.1 (by decide)).2 (i.2.1 (by decide)).1 (i.2.2.1 (by decide)).1 (i.2.2.1 (by decide)).2 (i.2.2.2.1 (by decide)).1 (i.2.2.2.1 (by decide)).2
    · rw [if_neg e] at h; exact absurd h Nat.one_ne_zero
theorem q_rd_WF {Y : Nat → Int32} {L : Nat} : ∀ f slot s w, slot < 9 → q_iv slot w → q_WF (q_rd Y L f slot s w).2.2 := by
  intro f
  induction f with
  | zero =>
    intro slot s w hs hi
    unfold q_rd
    by_cases e : slot = 0
    · rw [if_pos e]; exact hi.2.2.2.2
    · rw [if_neg e]; exact hi.2.2.2.2
  | succ f ih =>
    intro slot s w hs hi
    unfold q_rd
    by_cases h : s < L
    · rw [if_pos h]
      by_cases h2 : (q_stp Y L slot s w).1 = 0
      · rw [if_pos h2]
        exact ih _ _ _ (Nat.mod_lt _ (by decide)) (q_iv_s hs hi h2)
      · rw [if_neg h2]; exact hi.2.2.2.2
    · rw [if_neg h]
      by_cases e : slot = 0
      · rw [if_pos e]; exact hi.2.2.2.2
      · rw [if_neg e]; exact hi.2.2.2.2
def q_CF (r slot : Nat) (μ : q_M) (w : q_W) : Prop := (2 ≤ slot → μ 10 2 = nI w.1) ∧ (4 ≤ slot → μ 10 3 = nI w.2.1) ∧ (6 ≤ slot → μ 10 4 = nI w.2.2.1) ∧ (8 ≤ slot → μ 10 5 = nI w.2.2.2.1) ∧ q_RB r μ w.2.2.2.2
theorem q_CF_le {a b r : Nat} {μ : q_M} {w : q_W} (h : a ≤ b) (i : q_CF r b μ w) : q_CF r a μ w := ⟨fun q => i.1 (by omega), fun q => i.2.1 (by omega), fun q => i.2.2.1 (by omega), fun q => i.2.2.2.1 (by omega), i.2.2.2.2⟩
def q_fr (r : Nat) (μ μ' : q_M) : Prop := ∀ c j, (c ≠ 10 ∨ j < 2) → ¬ (r ≤ c ∧ c < r + 26) → μ' c j = μ c j
theorem q_RB_ad {r i : Nat} {μ : q_M} {B : q_B} {x y z : Nat} (h : q_RB r μ B) (hi : i < 7) : q_RB r (q_up (q_up (q_up (q_up (q_up μ (r + 3 + i) (B.1 i) (nI x)) (r + 11 + i) (B.1 i) (nI y)) (r + 19 + i) (B.1 i) (nI z)) (r + 1) i (nI (B.1 i + 1))) r 4 (μ r 4 + 1)) (q_ad B i x y z) := by
  refine ⟨fun k hk => ?_, fun k hk j hj => ?_, ?_⟩
  · rw [q_upc (by omega), q_ad_n]
    by_cases e : k = i
    · subst e; rw [q_ups, if_pos rfl]
    · rw [q_upo (fun q => e q.2), q_upc (by omega), q_upc (by omega), q_upc (by omega), if_neg e]
      exact h.1 k hk
  · rw [q_ad_n] at hj
    unfold q_ad
    dsimp only
    refine ⟨?_, ?_, ?_⟩
    · rw [q_upc (by omega), q_upc (by omega), q_upc (by omega), q_upc (by omega)]
      by_cases e : k = i
      · subst e
        rw [if_pos rfl] at hj
        by_cases ej : j = B.1 k
        · subst ej
          rw [q_ups, if_pos ⟨rfl, rfl⟩]
        · rw [q_upo (fun q => ej q.2), if_neg (fun q => ej q.2)]
          exact (h.2.1 k hk j (by omega)).1
      · rw [if_neg e] at hj
        rw [q_upc (by omega), if_neg (fun q => e q.1)]
        exact (h.2.1 k hk j hj).1
    · rw [q_upc (by omega), q_upc (by omega), q_upc (by omega)]
      by_cases e : k = i
      · subst e
        rw [if_pos rfl] at hj
        by_cases ej : j = B.1 k
        · subst ej
          rw [q_ups, if_pos ⟨rfl, rfl⟩]
        · rw [q_upo (fun q => ej q.2), q_upc (by omega), if_neg (fun q => ej q.2)]
          exact (h.2.1 k hk j (by omega)).2.1
      · rw [if_neg e] at hj
        rw [q_upc (by omega), q_upc (by omega), if_neg (fun q => e q.1)]
        exact (h.2.1 k hk j hj).2.1
    · rw [q_upc (by omega), q_upc (by omega)]
      by_cases e : k = i
      · subst e
        rw [if_pos rfl] at hj
        by_cases ej : j = B.1 k
        · subst ej
          rw [q_ups, if_pos ⟨rfl, rfl⟩]
        · rw [q_upo (fun q => ej q.2), q_upc (by omega), q_upc (by omega), if_neg (fun q => ej q.2)]
          exact (h.2.1 k hk j (by omega)).2.2
      · rw [if_neg e] at hj
        rw [q_upc (by omega), q_upc (by omega), q_upc (by omega), if_neg (fun q => e q.1)]
        exact (h.2.1 k hk j hj).2.2
  · rw [q_ups, h.2.2, q_tot_ad hi, nI_1]
theorem q_fr_ad {r i K : Nat} {μ : q_M} {x y z u v : Int32} (hi : i < 7) : q_fr r μ (q_up (q_up (q_up (q_up (q_up μ (r + 3 + i) K x) (r + 11 + i) K y) (r + 19 + i) K z) (r + 1) i u) r 4 v) := by
  intro c j h1 h2
  rw [q_upc (by omega), q_upc (by omega), q_upc (by omega), q_upc (by omega), q_upc (by omega)]
theorem q_fr_f {r f : Nat} {μ : q_M} {x : Int32} (hf : 2 ≤ f) : q_fr r μ (q_up μ 10 f x) := by
  intro c j h1 h2
  exact q_upo (by omega)
section BK
variable {C : q_C} {l : Launch} {μ : q_M} {b : Bool} {Y : Nat → Int32} {L : Nat}
set_option maxRecDepth 100000 in
set_option maxHeartbeats 4000000 in
theorem c_fn1 {x : Int32} (hx : ∃ n, n < 1000 ∧ x = nI n) {r : Nat} (hr : r = 70 ∨ r = 96) {B : q_B} (hB : q_RB r μ B) (hW : q_WF B) : q_Ct C l FX0_faultOfNumber 3 142 142 [.ref (q_a C 10), .int x, .int 1, .ref (q_a C r)] μ (q_ρ b) (q_is (nI (q_k1 B x.toNatClampNeg)) (q_up μ 10 2 x) (q_ρ b)) := by
  refine q_entry rfl (by decide) (Nat.le_of_ble_eq_true rfl) ?_
  refine g_lv [(0, _), (1, _), (2, _), (3, _)] rfl ?_
  obtain ⟨n, hn, rfl⟩ := hx
  rw [nI_clamp (show n < 2 ^ 31 by omega)]
  rcases hr with rfl | rfl
  all_goals
    refine g_iload_n 1 dX0_faultOfNumber_0 rfl rfl ?_
    refine g_tabIn 44 dX0_faultOfNumber_1 (by decide) (by decide) rfl (by decide) ?_
    refine g_aload_n 45 dX0_faultOfNumber_44 rfl rfl ?_
    refine g_iload_n 46 dX0_faultOfNumber_45 rfl rfl ?_
    refine g_putI 49 dX0_faultOfNumber_46 rfl f_X0_43 (by decide) rfl rfl (Or.inl rfl) ?_
    refine g_iload_n 50 dX0_faultOfNumber_49 rfl rfl ?_
    refine g_SNi 53 [_] _ dX0_faultOfNumber_50 rfl m_X7_isStage l_X0_75 rfl (c_isStage _) rfl (Nat.le_of_ble_eq_true rfl) (by decide) (fun v50 μ50 ρ50 hc9 => ?_)
    obtain ⟨rfl, rfl, rfl⟩ := hc9
    rw [q_b_iff (show q_in (nI n) (0) 6 ↔ 0 ≤ n ∧ n ≤ 6 from q_inN (n := n) (a := 0) (b := 6) (by omega) (by omega) (by omega))]
    refine g_if_ne 58 56 dX0_faultOfNumber_53 rfl (by decide) (fun h53 => ?_) (fun h53 => ?_)
    · refine g_aload_n 59 dX0_faultOfNumber_58 rfl rfl ?_
      refine g_iload_n 60 dX0_faultOfNumber_59 rfl rfl ?_
      refine g_Vi 63 [_] _ dX0_faultOfNumber_60 rfl m_X5_isFull l_X0_79 rfl rfl rfl (by decide) (c_full (i := n) (K := B.1 n) (by first | exact Or.inl rfl | exact Or.inr rfl) (by have := (q_b_n.mp h53).2; omega) (hW n).1 (by rw [q_upc (by decide)]; exact hB.1 n (by have := (q_b_n.mp h53).2; omega))) rfl (Nat.le_of_ble_eq_true rfl) (by decide) (fun v60 μ60 ρ60 hc9 => ?_)
      obtain ⟨rfl, rfl, rfl⟩ := hc9
      refine g_if_eq 70 66 dX0_faultOfNumber_63 rfl (by decide) (fun h63 => ?_) (fun h63 => ?_)
      · refine g_iconst 71 0 dX0_faultOfNumber_70 rfl (by decide) ?_
        exact g_ri dX0_faultOfNumber_71 rfl rfl ⟨by unfold q_k1; rw [if_pos (q_b_n.mp h53).2, if_neg (q_b_0.mp h63)]; rfl, rfl, rfl⟩
      · refine g_iconst 67 3 dX0_faultOfNumber_66 rfl (by decide) ?_
        refine g_goto 71 dX0_faultOfNumber_67 (by decide) ?_
        exact g_ri dX0_faultOfNumber_71 rfl rfl ⟨by unfold q_k1; rw [if_pos (q_b_n.mp h53).2, if_pos (q_b_n.mp h63)]; rfl, rfl, rfl⟩
    · refine g_iconst 57 2 dX0_faultOfNumber_56 rfl (by decide) ?_
      exact g_ri dX0_faultOfNumber_57 rfl rfl ⟨by unfold q_k1; rw [if_neg (fun q => q_b_0.mp h53 ⟨Nat.zero_le _, q⟩)]; rfl, rfl, rfl⟩
set_option maxRecDepth 100000 in
set_option maxHeartbeats 4000000 in
theorem c_fn3 {x : Int32} (hx : ∃ n, n < 1000 ∧ x = nI n) {r : Nat} (hr : r = 70 ∨ r = 96) {B : q_B} (hB : q_RB r μ B) (hW : q_WF B) {a : Nat} (ha : a < 7) (h2 : μ 10 2 = nI a) : q_Ct C l FX0_faultOfNumber 3 142 142 [.ref (q_a C 10), .int x, .int 3, .ref (q_a C r)] μ (q_ρ b) (q_is (nI (q_k3 (q_re B a) x.toNatClampNeg)) (q_up μ 10 3 x) (q_ρ b)) := by
  refine q_entry rfl (by decide) (Nat.le_of_ble_eq_true rfl) ?_
  refine g_lv [(0, _), (1, _), (2, _), (3, _)] rfl ?_
  obtain ⟨n, hn, rfl⟩ := hx
  rw [nI_clamp (show n < 2 ^ 31 by omega)]
  rcases hr with rfl | rfl
  all_goals
    refine g_iload_n 1 dX0_faultOfNumber_0 rfl rfl ?_
    refine g_tabIn 72 dX0_faultOfNumber_1 (by decide) (by decide) rfl (by decide) ?_
    refine g_aload_n 73 dX0_faultOfNumber_72 rfl rfl ?_
    refine g_iload_n 74 dX0_faultOfNumber_73 rfl rfl ?_
    refine g_putI 77 dX0_faultOfNumber_74 rfl f_X0_46 (by decide) rfl rfl (Or.inl rfl) ?_
    refine g_iload_n 78 dX0_faultOfNumber_77 rfl rfl ?_
    refine g_aload_n 79 dX0_faultOfNumber_78 rfl rfl ?_
    refine g_aload_n 80 dX0_faultOfNumber_79 rfl rfl ?_
    refine g_getI 83 dX0_faultOfNumber_80 rfl f_X0_43 (by decide) rfl rfl ?_
    rw [q_upo (by decide), h2]
    refine g_Vi 86 [_] _ dX0_faultOfNumber_83 rfl m_X5_reach l_X0_82 rfl rfl rfl (by decide) (c_reach (i := a) (K := B.1 a) (by first | exact Or.inl rfl | exact Or.inr rfl) ha (hW a).1 (by rw [q_upc (by decide)]; exact hB.1 a ha)) rfl (Nat.le_of_ble_eq_true rfl) (by decide) (fun v83 μ83 ρ83 hc9 => ?_)
    obtain ⟨rfl, rfl, rfl⟩ := hc9
    rw [show (if B.1 a = 0 then (0 : Int32) else q_up μ 10 3 (nI n) (_ + 11 + a) (B.1 a - 1)) = nI (q_re B a) from ?q9]
    case q9 =>
      unfold q_re
      by_cases e : B.1 a = 0
      · rw [if_pos e, if_pos e]; rfl
      · rw [if_neg e, if_neg e, q_upc (by omega)]
        exact (hB.2.1 a ha _ (by omega)).2.1
    have hre : q_re B a ≤ 900 := by
      unfold q_re
      by_cases e : B.1 a = 0
      · rw [if_pos e]; omega
      · rw [if_neg e]; exact ((hW a).2 _ (by omega)).2.1
    refine g_sipush 89 899 dX0_faultOfNumber_86 rfl (by decide) ?_
    refine g_SNi 92 [_, _, _] _ dX0_faultOfNumber_89 rfl m_X7_within l_X0_85 rfl (c_within _ _ _) rfl (Nat.le_of_ble_eq_true rfl) (by decide) (fun v89 μ89 ρ89 hc9 => ?_)
    obtain ⟨rfl, rfl, rfl⟩ := hc9
    rw [q_b_iff (show q_in (nI n) (nI (q_re B a)) 899 ↔ q_re B a ≤ n ∧ n ≤ 899 from q_inN (n := n) (a := q_re B a) (b := 899) (by omega) (by omega) (by omega))]
    refine g_if_eq 99 95 dX0_faultOfNumber_92 rfl (by decide) (fun h92 => ?_) (fun h92 => ?_)
    · refine g_iconst 100 2 dX0_faultOfNumber_99 rfl (by decide) ?_
      exact g_ri dX0_faultOfNumber_100 rfl rfl ⟨by unfold q_k3; rw [if_neg (q_b_0.mp h92)]; rfl, rfl, rfl⟩
    · refine g_iconst 96 0 dX0_faultOfNumber_95 rfl (by decide) ?_
      refine g_goto 100 dX0_faultOfNumber_96 (by decide) ?_
      exact g_ri dX0_faultOfNumber_100 rfl rfl ⟨by unfold q_k3; rw [if_pos (q_b_n.mp h92)]; rfl, rfl, rfl⟩
set_option maxRecDepth 100000 in
set_option maxHeartbeats 4000000 in
theorem c_fn5 {x : Int32} (hx : ∃ n, n < 1000 ∧ x = nI n) {r : Nat} (hr : r = 70 ∨ r = 96) {B : q_B} (hB : q_RB r μ B) (hW : q_WF B) {a : Nat} (ha : a < 1000) (h2 : μ 10 3 = nI a) : q_Ct C l FX0_faultOfNumber 3 142 142 [.ref (q_a C 10), .int x, .int 5, .ref (q_a C r)] μ (q_ρ b) (q_is (nI (q_k5 a x.toNatClampNeg)) (q_up μ 10 4 x) (q_ρ b)) := by
  refine q_entry rfl (by decide) (Nat.le_of_ble_eq_true rfl) ?_
  refine g_lv [(0, _), (1, _), (2, _), (3, _)] rfl ?_
  obtain ⟨n, hn, rfl⟩ := hx
  rw [nI_clamp (show n < 2 ^ 31 by omega)]
  rcases hr with rfl | rfl
  all_goals
    refine g_iload_n 1 dX0_faultOfNumber_0 rfl rfl ?_
    refine g_tabIn 101 dX0_faultOfNumber_1 (by decide) (by decide) rfl (by decide) ?_
    refine g_aload_n 102 dX0_faultOfNumber_101 rfl rfl ?_
    refine g_iload_n 103 dX0_faultOfNumber_102 rfl rfl ?_
    refine g_putI 106 dX0_faultOfNumber_103 rfl f_X0_49 (by decide) rfl rfl (Or.inl rfl) ?_
    refine g_iload_n 107 dX0_faultOfNumber_106 rfl rfl ?_
    refine g_aload_n 108 dX0_faultOfNumber_107 rfl rfl ?_
    refine g_getI 111 dX0_faultOfNumber_108 rfl f_X0_46 (by decide) rfl rfl ?_
    rw [q_upo (by decide), h2]
    refine g_iconst 112 1 dX0_faultOfNumber_111 rfl (by decide) ?_
    refine g_iadd 113 dX0_faultOfNumber_112 rfl ?_
    rw [nI_1]
    refine g_sipush 116 900 dX0_faultOfNumber_113 rfl (by decide) ?_
    refine g_SNi 119 [_, _, _] _ dX0_faultOfNumber_116 rfl m_X7_within l_X0_85 rfl (c_within _ _ _) rfl (Nat.le_of_ble_eq_true rfl) (by decide) (fun v116 μ116 ρ116 hc9 => ?_)
    obtain ⟨rfl, rfl, rfl⟩ := hc9
    rw [q_b_iff (show q_in (nI n) (nI (a + 1)) 900 ↔ a + 1 ≤ n ∧ n ≤ 900 from q_inN (n := n) (a := a + 1) (b := 900) (by omega) (by omega) (by omega))]
    refine g_if_eq 126 122 dX0_faultOfNumber_119 rfl (by decide) (fun h119 => ?_) (fun h119 => ?_)
    · refine g_iconst 127 2 dX0_faultOfNumber_126 rfl (by decide) ?_
      exact g_ri dX0_faultOfNumber_127 rfl rfl ⟨by unfold q_k5; rw [if_neg (q_b_0.mp h119)]; rfl, rfl, rfl⟩
    · refine g_iconst 123 0 dX0_faultOfNumber_122 rfl (by decide) ?_
      refine g_goto 127 dX0_faultOfNumber_123 (by decide) ?_
      exact g_ri dX0_faultOfNumber_127 rfl rfl ⟨by unfold q_k5; rw [if_pos (q_b_n.mp h119)]; rfl, rfl, rfl⟩
set_option maxRecDepth 100000 in
set_option maxHeartbeats 4000000 in
theorem c_fn7 {x : Int32} (hx : ∃ n, n < 1000 ∧ x = nI n) {r : Nat} (hr : r = 70 ∨ r = 96) {B : q_B} (hB : q_RB r μ B) (hW : q_WF B) : q_Ct C l FX0_faultOfNumber 3 142 142 [.ref (q_a C 10), .int x, .int 7, .ref (q_a C r)] μ (q_ρ b) (q_is (nI (q_k7 x.toNatClampNeg)) (q_up μ 10 5 x) (q_ρ b)) := by
  refine q_entry rfl (by decide) (Nat.le_of_ble_eq_true rfl) ?_
  refine g_lv [(0, _), (1, _), (2, _), (3, _)] rfl ?_
  obtain ⟨n, hn, rfl⟩ := hx
  rw [nI_clamp (show n < 2 ^ 31 by omega)]
  rcases hr with rfl | rfl
  all_goals
    refine g_iload_n 1 dX0_faultOfNumber_0 rfl rfl ?_
    refine g_tabIn 128 dX0_faultOfNumber_1 (by decide) (by decide) rfl (by decide) ?_
    refine g_aload_n 129 dX0_faultOfNumber_128 rfl rfl ?_
    refine g_iload_n 130 dX0_faultOfNumber_129 rfl rfl ?_
    refine g_putI 133 dX0_faultOfNumber_130 rfl f_X0_52 (by decide) rfl rfl (Or.inl rfl) ?_
    refine g_iload_n 134 dX0_faultOfNumber_133 rfl rfl ?_
    refine g_bipush 136 10 dX0_faultOfNumber_134 rfl (by decide) ?_
    refine g_bipush 138 99 dX0_faultOfNumber_136 rfl (by decide) ?_
    refine g_SNi 141 [_, _, _] _ dX0_faultOfNumber_138 rfl m_X7_within l_X0_85 rfl (c_within _ _ _) rfl (Nat.le_of_ble_eq_true rfl) (by decide) (fun v138 μ138 ρ138 hc9 => ?_)
    obtain ⟨rfl, rfl, rfl⟩ := hc9
    rw [q_b_iff (show q_in (nI n) (10) 99 ↔ 10 ≤ n ∧ n ≤ 99 from q_inN (n := n) (a := 10) (b := 99) (by omega) (by omega) (by omega))]
    refine g_if_eq 148 144 dX0_faultOfNumber_141 rfl (by decide) (fun h141 => ?_) (fun h141 => ?_)
    · refine g_iconst 149 2 dX0_faultOfNumber_148 rfl (by decide) ?_
      exact g_ri dX0_faultOfNumber_149 rfl rfl ⟨by unfold q_k7; rw [if_neg (q_b_0.mp h141)]; rfl, rfl, rfl⟩
    · refine g_iconst 145 0 dX0_faultOfNumber_144 rfl (by decide) ?_
      refine g_goto 149 dX0_faultOfNumber_145 (by decide) ?_
      exact g_ri dX0_faultOfNumber_149 rfl rfl ⟨by unfold q_k7; rw [if_pos (q_b_n.mp h141)]; rfl, rfl, rfl⟩
set_option maxRecDepth 100000 in
set_option maxHeartbeats 4000000 in
theorem c_fow0 (hY : q_TY Y L) (hT : q_TC μ Y L) {s e : Nat} (hs : s < L) (he : s ≤ e) (heL : e ≤ L) {r : Nat} : q_Ct C l FX0_faultOf 5 142 142 [.ref (q_a C 10), .ref (q_a C 8), .int (nI s), .int (nI e), .int 0, .ref (q_a C r)] μ (q_ρ b) (q_is (if q_wd Y s e 0 then 0 else 1) μ (q_ρ b)) := by
  refine q_entry rfl (by decide) (Nat.le_of_ble_eq_true rfl) ?_
  refine g_lv [(0, _), (1, _), (2, _), (3, _), (4, _), (5, _)] rfl ?_
  refine g_iload 2 dX0_faultOf_0 rfl rfl ?_
  refine g_bipush 4 8 dX0_faultOf_2 rfl (by decide) ?_
  refine g_icmp_ne 42 7 dX0_faultOf_4 rfl (by decide) (fun h4 => ?_) (fun h4 => ?_)
  · refine g_iload 44 dX0_faultOf_42 rfl rfl ?_
    refine g_iconst 45 2 dX0_faultOf_44 rfl (by decide) ?_
    refine g_irem 46 dX0_faultOf_45 rfl (by decide) ?_
    refine g_if_ne 69 49 dX0_faultOf_46 rfl (by decide) (fun h46 => ?_) (fun h46 => ?_)
    · exact absurd (by decide) h46
    · refine g_aload_n 50 dX0_faultOf_49 rfl rfl ?_
      refine g_iload_n 51 dX0_faultOf_50 rfl rfl ?_
      refine g_iload_n 52 dX0_faultOf_51 rfl rfl ?_
      refine g_iload 54 dX0_faultOf_52 rfl rfl ?_
      refine g_Sr 57 [_] _ dX0_faultOf_54 rfl m_X0_keywordOf l_X0_59 rfl c_kw0 rfl (Nat.le_of_ble_eq_true rfl) (by decide) ?_
      refine g_Si 60 [_, _, _, _] _ dX0_faultOf_57 rfl m_X0_isWord l_X0_63 rfl (c_wd (i := 0) hY hT hs he heL (by decide)) rfl (Nat.le_of_ble_eq_true rfl) (by decide) (fun v57 μ57 ρ57 hc9 => ?_)
      obtain ⟨rfl, rfl, rfl⟩ := hc9
      refine g_if_eq 67 63 dX0_faultOf_60 rfl (by decide) (fun h60 => ?_) (fun h60 => ?_)
      · refine g_iconst 68 1 dX0_faultOf_67 rfl (by decide) ?_
        exact g_ri dX0_faultOf_68 rfl rfl ⟨if_neg (q_b_0.mp h60), rfl, rfl⟩
      · refine g_iconst 64 0 dX0_faultOf_63 rfl (by decide) ?_
        refine g_goto 68 dX0_faultOf_64 (by decide) ?_
        exact g_ri dX0_faultOf_68 rfl rfl ⟨if_pos (q_b_n.mp h60), rfl, rfl⟩
  · exact absurd h4 (by decide)
set_option maxRecDepth 100000 in
set_option maxHeartbeats 4000000 in
theorem c_fow1 (hY : q_TY Y L) (hT : q_TC μ Y L) {s e : Nat} (hs : s < L) (he : s ≤ e) (heL : e ≤ L) {r : Nat} : q_Ct C l FX0_faultOf 5 142 142 [.ref (q_a C 10), .ref (q_a C 8), .int (nI s), .int (nI e), .int 2, .ref (q_a C r)] μ (q_ρ b) (q_is (if q_wd Y s e 1 then 0 else 1) μ (q_ρ b)) := by
  refine q_entry rfl (by decide) (Nat.le_of_ble_eq_true rfl) ?_
  refine g_lv [(0, _), (1, _), (2, _), (3, _), (4, _), (5, _)] rfl ?_
  refine g_iload 2 dX0_faultOf_0 rfl rfl ?_
  refine g_bipush 4 8 dX0_faultOf_2 rfl (by decide) ?_
  refine g_icmp_ne 42 7 dX0_faultOf_4 rfl (by decide) (fun h4 => ?_) (fun h4 => ?_)
  · refine g_iload 44 dX0_faultOf_42 rfl rfl ?_
    refine g_iconst 45 2 dX0_faultOf_44 rfl (by decide) ?_
    refine g_irem 46 dX0_faultOf_45 rfl (by decide) ?_
    refine g_if_ne 69 49 dX0_faultOf_46 rfl (by decide) (fun h46 => ?_) (fun h46 => ?_)
    · exact absurd (by decide) h46
    · refine g_aload_n 50 dX0_faultOf_49 rfl rfl ?_
      refine g_iload_n 51 dX0_faultOf_50 rfl rfl ?_
      refine g_iload_n 52 dX0_faultOf_51 rfl rfl ?_
      refine g_iload 54 dX0_faultOf_52 rfl rfl ?_
      refine g_Sr 57 [_] _ dX0_faultOf_54 rfl m_X0_keywordOf l_X0_59 rfl c_kw1 rfl (Nat.le_of_ble_eq_true rfl) (by decide) ?_
      refine g_Si 60 [_, _, _, _] _ dX0_faultOf_57 rfl m_X0_isWord l_X0_63 rfl (c_wd (i := 1) hY hT hs he heL (by decide)) rfl (Nat.le_of_ble_eq_true rfl) (by decide) (fun v57 μ57 ρ57 hc9 => ?_)
      obtain ⟨rfl, rfl, rfl⟩ := hc9
      refine g_if_eq 67 63 dX0_faultOf_60 rfl (by decide) (fun h60 => ?_) (fun h60 => ?_)
      · refine g_iconst 68 1 dX0_faultOf_67 rfl (by decide) ?_
        exact g_ri dX0_faultOf_68 rfl rfl ⟨if_neg (q_b_0.mp h60), rfl, rfl⟩
      · refine g_iconst 64 0 dX0_faultOf_63 rfl (by decide) ?_
        refine g_goto 68 dX0_faultOf_64 (by decide) ?_
        exact g_ri dX0_faultOf_68 rfl rfl ⟨if_pos (q_b_n.mp h60), rfl, rfl⟩
  · exact absurd h4 (by decide)
set_option maxRecDepth 100000 in
set_option maxHeartbeats 4000000 in
theorem c_fow2 (hY : q_TY Y L) (hT : q_TC μ Y L) {s e : Nat} (hs : s < L) (he : s ≤ e) (heL : e ≤ L) {r : Nat} : q_Ct C l FX0_faultOf 5 142 142 [.ref (q_a C 10), .ref (q_a C 8), .int (nI s), .int (nI e), .int 4, .ref (q_a C r)] μ (q_ρ b) (q_is (if q_wd Y s e 2 then 0 else 1) μ (q_ρ b)) := by
  refine q_entry rfl (by decide) (Nat.le_of_ble_eq_true rfl) ?_
  refine g_lv [(0, _), (1, _), (2, _), (3, _), (4, _), (5, _)] rfl ?_
  refine g_iload 2 dX0_faultOf_0 rfl rfl ?_
  refine g_bipush 4 8 dX0_faultOf_2 rfl (by decide) ?_
  refine g_icmp_ne 42 7 dX0_faultOf_4 rfl (by decide) (fun h4 => ?_) (fun h4 => ?_)
  · refine g_iload 44 dX0_faultOf_42 rfl rfl ?_
    refine g_iconst 45 2 dX0_faultOf_44 rfl (by decide) ?_
    refine g_irem 46 dX0_faultOf_45 rfl (by decide) ?_
    refine g_if_ne 69 49 dX0_faultOf_46 rfl (by decide) (fun h46 => ?_) (fun h46 => ?_)
    · exact absurd (by decide) h46
    · refine g_aload_n 50 dX0_faultOf_49 rfl rfl ?_
      refine g_iload_n 51 dX0_faultOf_50 rfl rfl ?_
      refine g_iload_n 52 dX0_faultOf_51 rfl rfl ?_
      refine g_iload 54 dX0_faultOf_52 rfl rfl ?_
      refine g_Sr 57 [_] _ dX0_faultOf_54 rfl m_X0_keywordOf l_X0_59 rfl c_kw2 rfl (Nat.le_of_ble_eq_true rfl) (by decide) ?_
      refine g_Si 60 [_, _, _, _] _ dX0_faultOf_57 rfl m_X0_isWord l_X0_63 rfl (c_wd (i := 2) hY hT hs he heL (by decide)) rfl (Nat.le_of_ble_eq_true rfl) (by decide) (fun v57 μ57 ρ57 hc9 => ?_)
      obtain ⟨rfl, rfl, rfl⟩ := hc9
      refine g_if_eq 67 63 dX0_faultOf_60 rfl (by decide) (fun h60 => ?_) (fun h60 => ?_)
      · refine g_iconst 68 1 dX0_faultOf_67 rfl (by decide) ?_
        exact g_ri dX0_faultOf_68 rfl rfl ⟨if_neg (q_b_0.mp h60), rfl, rfl⟩
      · refine g_iconst 64 0 dX0_faultOf_63 rfl (by decide) ?_
        refine g_goto 68 dX0_faultOf_64 (by decide) ?_
        exact g_ri dX0_faultOf_68 rfl rfl ⟨if_pos (q_b_n.mp h60), rfl, rfl⟩
  · exact absurd h4 (by decide)
set_option maxRecDepth 100000 in
set_option maxHeartbeats 4000000 in
theorem c_fow3 (hY : q_TY Y L) (hT : q_TC μ Y L) {s e : Nat} (hs : s < L) (he : s ≤ e) (heL : e ≤ L) {r : Nat} : q_Ct C l FX0_faultOf 5 142 142 [.ref (q_a C 10), .ref (q_a C 8), .int (nI s), .int (nI e), .int 6, .ref (q_a C r)] μ (q_ρ b) (q_is (if q_wd Y s e 3 then 0 else 1) μ (q_ρ b)) := by
  refine q_entry rfl (by decide) (Nat.le_of_ble_eq_true rfl) ?_
  refine g_lv [(0, _), (1, _), (2, _), (3, _), (4, _), (5, _)] rfl ?_
  refine g_iload 2 dX0_faultOf_0 rfl rfl ?_
  refine g_bipush 4 8 dX0_faultOf_2 rfl (by decide) ?_
  refine g_icmp_ne 42 7 dX0_faultOf_4 rfl (by decide) (fun h4 => ?_) (fun h4 => ?_)
  · refine g_iload 44 dX0_faultOf_42 rfl rfl ?_
    refine g_iconst 45 2 dX0_faultOf_44 rfl (by decide) ?_
    refine g_irem 46 dX0_faultOf_45 rfl (by decide) ?_
    refine g_if_ne 69 49 dX0_faultOf_46 rfl (by decide) (fun h46 => ?_) (fun h46 => ?_)
    · exact absurd (by decide) h46
    · refine g_aload_n 50 dX0_faultOf_49 rfl rfl ?_
      refine g_iload_n 51 dX0_faultOf_50 rfl rfl ?_
      refine g_iload_n 52 dX0_faultOf_51 rfl rfl ?_
      refine g_iload 54 dX0_faultOf_52 rfl rfl ?_
      refine g_Sr 57 [_] _ dX0_faultOf_54 rfl m_X0_keywordOf l_X0_59 rfl c_kw3 rfl (Nat.le_of_ble_eq_true rfl) (by decide) ?_
      refine g_Si 60 [_, _, _, _] _ dX0_faultOf_57 rfl m_X0_isWord l_X0_63 rfl (c_wd (i := 3) hY hT hs he heL (by decide)) rfl (Nat.le_of_ble_eq_true rfl) (by decide) (fun v57 μ57 ρ57 hc9 => ?_)
      obtain ⟨rfl, rfl, rfl⟩ := hc9
      refine g_if_eq 67 63 dX0_faultOf_60 rfl (by decide) (fun h60 => ?_) (fun h60 => ?_)
      · refine g_iconst 68 1 dX0_faultOf_67 rfl (by decide) ?_
        exact g_ri dX0_faultOf_68 rfl rfl ⟨if_neg (q_b_0.mp h60), rfl, rfl⟩
      · refine g_iconst 64 0 dX0_faultOf_63 rfl (by decide) ?_
        refine g_goto 68 dX0_faultOf_64 (by decide) ?_
        exact g_ri dX0_faultOf_68 rfl rfl ⟨if_pos (q_b_n.mp h60), rfl, rfl⟩
  · exact absurd h4 (by decide)
set_option maxRecDepth 100000 in
set_option maxHeartbeats 4000000 in
theorem c_fon1 (hY : q_TY Y L) (hT : q_TC μ Y L) {s e : Nat} (hs : s < L) (he : s ≤ e) (heL : e ≤ L) {x : Int32} (hx : q_nu Y s e = x) (hxn : ¬ x = -1 → ∃ n, n < 1000 ∧ x = nI n) {r : Nat} (hr : r = 70 ∨ r = 96) {B : q_B} (hB : q_RB r μ B) (hW : q_WF B) : q_Ct C l FX0_faultOf 5 142 142 [.ref (q_a C 10), .ref (q_a C 8), .int (nI s), .int (nI e), .int 1, .ref (q_a C r)] μ (q_ρ b) (q_is (if x = -1 then 1 else nI (q_k1 B x.toNatClampNeg)) (if x = -1 then μ else q_up μ 10 2 x) (q_ρ b)) := by
  refine q_entry rfl (by decide) (Nat.le_of_ble_eq_true rfl) ?_
  refine g_lv [(0, _), (1, _), (2, _), (3, _), (4, _), (5, _)] rfl ?_
  refine g_iload 2 dX0_faultOf_0 rfl rfl ?_
  refine g_bipush 4 8 dX0_faultOf_2 rfl (by decide) ?_
  refine g_icmp_ne 42 7 dX0_faultOf_4 rfl (by decide) (fun h4 => ?_) (fun h4 => ?_)
  · refine g_iload 44 dX0_faultOf_42 rfl rfl ?_
    refine g_iconst 45 2 dX0_faultOf_44 rfl (by decide) ?_
    refine g_irem 46 dX0_faultOf_45 rfl (by decide) ?_
    refine g_if_ne 69 49 dX0_faultOf_46 rfl (by decide) (fun h46 => ?_) (fun h46 => ?_)
    · refine g_aload_n 70 dX0_faultOf_69 rfl rfl ?_
      refine g_iload_n 71 dX0_faultOf_70 rfl rfl ?_
      refine g_iload_n 72 dX0_faultOf_71 rfl rfl ?_
      refine g_Si 75 [_, _, _] _ dX0_faultOf_72 rfl m_X0_numberOf l_X0_67 rfl (c_nu hY hT hs he heL) rfl (Nat.le_of_ble_eq_true rfl) (by decide) (fun v72 μ72 ρ72 hc9 => ?_)
      obtain ⟨rfl, rfl, rfl⟩ := hc9
      rw [hx]
      refine g_istore 77 dX0_faultOf_75 rfl (by decide) ?_
      refine g_iload 79 dX0_faultOf_77 rfl rfl ?_
      refine g_iconst 80 (-1) dX0_faultOf_79 rfl (by decide) ?_
      refine g_icmp_ne 87 83 dX0_faultOf_80 rfl (by decide) (fun h80 => ?_) (fun h80 => ?_)
      · refine g_aload_n 88 dX0_faultOf_87 rfl rfl ?_
        refine g_iload 90 dX0_faultOf_88 rfl rfl ?_
        refine g_iload 92 dX0_faultOf_90 rfl rfl ?_
        refine g_aload 94 dX0_faultOf_92 rfl rfl ?_
        refine g_Vi 97 [_, _, _] _ dX0_faultOf_94 rfl m_X0_faultOfNumber l_X0_71 rfl rfl rfl (by decide) (c_fn1 (hxn h80) hr hB hW) rfl (Nat.le_of_ble_eq_true rfl) (by decide) (fun v94 μ94 ρ94 hc9 => ?_)
        obtain ⟨rfl, rfl, rfl⟩ := hc9
        exact g_ri dX0_faultOf_97 rfl rfl ⟨if_neg h80, if_neg h80, rfl⟩
      · refine g_iconst 84 1 dX0_faultOf_83 rfl (by decide) ?_
        refine g_goto 97 dX0_faultOf_84 (by decide) ?_
        exact g_ri dX0_faultOf_97 rfl rfl ⟨if_pos h80, if_pos h80, rfl⟩
    · exact absurd h46 (by decide)
  · exact absurd h4 (by decide)
set_option maxRecDepth 100000 in
set_option maxHeartbeats 4000000 in
theorem c_fon3 (hY : q_TY Y L) (hT : q_TC μ Y L) {s e : Nat} (hs : s < L) (he : s ≤ e) (heL : e ≤ L) {x : Int32} (hx : q_nu Y s e = x) (hxn : ¬ x = -1 → ∃ n, n < 1000 ∧ x = nI n) {r : Nat} (hr : r = 70 ∨ r = 96) {B : q_B} (hB : q_RB r μ B) (hW : q_WF B) {a : Nat} (ha : a < 7) (h2 : μ 10 2 = nI a) : q_Ct C l FX0_faultOf 5 142 142 [.ref (q_a C 10), .ref (q_a C 8), .int (nI s), .int (nI e), .int 3, .ref (q_a C r)] μ (q_ρ b) (q_is (if x = -1 then 1 else nI (q_k3 (q_re B a) x.toNatClampNeg)) (if x = -1 then μ else q_up μ 10 3 x) (q_ρ b)) := by
  refine q_entry rfl (by decide) (Nat.le_of_ble_eq_true rfl) ?_
  refine g_lv [(0, _), (1, _), (2, _), (3, _), (4, _), (5, _)] rfl ?_
  refine g_iload 2 dX0_faultOf_0 rfl rfl ?_
  refine g_bipush 4 8 dX0_faultOf_2 rfl (by decide) ?_
  refine g_icmp_ne 42 7 dX0_faultOf_4 rfl (by decide) (fun h4 => ?_) (fun h4 => ?_)
  · refine g_iload 44 dX0_faultOf_42 rfl rfl ?_
    refine g_iconst 45 2 dX0_faultOf_44 rfl (by decide) ?_
    refine g_irem 46 dX0_faultOf_45 rfl (by decide) ?_
    refine g_if_ne 69 49 dX0_faultOf_46 rfl (by decide) (fun h46 => ?_) (fun h46 => ?_)
    · refine g_aload_n 70 dX0_faultOf_69 rfl rfl ?_
      refine g_iload_n 71 dX0_faultOf_70 rfl rfl ?_
      refine g_iload_n 72 dX0_faultOf_71 rfl rfl ?_
      refine g_Si 75 [_, _, _] _ dX0_faultOf_72 rfl m_X0_numberOf l_X0_67 rfl (c_nu hY hT hs he heL) rfl (Nat.le_of_ble_eq_true rfl) (by decide) (fun v72 μ72 ρ72 hc9 => ?_)
      obtain ⟨rfl, rfl, rfl⟩ := hc9
      rw [hx]
      refine g_istore 77 dX0_faultOf_75 rfl (by decide) ?_
      refine g_iload 79 dX0_faultOf_77 rfl rfl ?_
      refine g_iconst 80 (-1) dX0_faultOf_79 rfl (by decide) ?_
      refine g_icmp_ne 87 83 dX0_faultOf_80 rfl (by decide) (fun h80 => ?_) (fun h80 => ?_)
      · refine g_aload_n 88 dX0_faultOf_87 rfl rfl ?_
        refine g_iload 90 dX0_faultOf_88 rfl rfl ?_
        refine g_iload 92 dX0_faultOf_90 rfl rfl ?_
        refine g_aload 94 dX0_faultOf_92 rfl rfl ?_
        refine g_Vi 97 [_, _, _] _ dX0_faultOf_94 rfl m_X0_faultOfNumber l_X0_71 rfl rfl rfl (by decide) (c_fn3 (hxn h80) hr hB hW ha h2) rfl (Nat.le_of_ble_eq_true rfl) (by decide) (fun v94 μ94 ρ94 hc9 => ?_)
        obtain ⟨rfl, rfl, rfl⟩ := hc9
        exact g_ri dX0_faultOf_97 rfl rfl ⟨if_neg h80, if_neg h80, rfl⟩
      · refine g_iconst 84 1 dX0_faultOf_83 rfl (by decide) ?_
        refine g_goto 97 dX0_faultOf_84 (by decide) ?_
        exact g_ri dX0_faultOf_97 rfl rfl ⟨if_pos h80, if_pos h80, rfl⟩
    · exact absurd h46 (by decide)
  · exact absurd h4 (by decide)
set_option maxRecDepth 100000 in
set_option maxHeartbeats 4000000 in
theorem c_fon5 (hY : q_TY Y L) (hT : q_TC μ Y L) {s e : Nat} (hs : s < L) (he : s ≤ e) (heL : e ≤ L) {x : Int32} (hx : q_nu Y s e = x) (hxn : ¬ x = -1 → ∃ n, n < 1000 ∧ x = nI n) {r : Nat} (hr : r = 70 ∨ r = 96) {B : q_B} (hB : q_RB r μ B) (hW : q_WF B) {a : Nat} (ha : a < 1000) (h2 : μ 10 3 = nI a) : q_Ct C l FX0_faultOf 5 142 142 [.ref (q_a C 10), .ref (q_a C 8), .int (nI s), .int (nI e), .int 5, .ref (q_a C r)] μ (q_ρ b) (q_is (if x = -1 then 1 else nI (q_k5 a x.toNatClampNeg)) (if x = -1 then μ else q_up μ 10 4 x) (q_ρ b)) := by
  refine q_entry rfl (by decide) (Nat.le_of_ble_eq_true rfl) ?_
  refine g_lv [(0, _), (1, _), (2, _), (3, _), (4, _), (5, _)] rfl ?_
  refine g_iload 2 dX0_faultOf_0 rfl rfl ?_
  refine g_bipush 4 8 dX0_faultOf_2 rfl (by decide) ?_
  refine g_icmp_ne 42 7 dX0_faultOf_4 rfl (by decide) (fun h4 => ?_) (fun h4 => ?_)
  · refine g_iload 44 dX0_faultOf_42 rfl rfl ?_
    refine g_iconst 45 2 dX0_faultOf_44 rfl (by decide) ?_
    refine g_irem 46 dX0_faultOf_45 rfl (by decide) ?_
    refine g_if_ne 69 49 dX0_faultOf_46 rfl (by decide) (fun h46 => ?_) (fun h46 => ?_)
    · refine g_aload_n 70 dX0_faultOf_69 rfl rfl ?_
      refine g_iload_n 71 dX0_faultOf_70 rfl rfl ?_
      refine g_iload_n 72 dX0_faultOf_71 rfl rfl ?_
      refine g_Si 75 [_, _, _] _ dX0_faultOf_72 rfl m_X0_numberOf l_X0_67 rfl (c_nu hY hT hs he heL) rfl (Nat.le_of_ble_eq_true rfl) (by decide) (fun v72 μ72 ρ72 hc9 => ?_)
      obtain ⟨rfl, rfl, rfl⟩ := hc9
      rw [hx]
      refine g_istore 77 dX0_faultOf_75 rfl (by decide) ?_
      refine g_iload 79 dX0_faultOf_77 rfl rfl ?_
      refine g_iconst 80 (-1) dX0_faultOf_79 rfl (by decide) ?_
      refine g_icmp_ne 87 83 dX0_faultOf_80 rfl (by decide) (fun h80 => ?_) (fun h80 => ?_)
      · refine g_aload_n 88 dX0_faultOf_87 rfl rfl ?_
        refine g_iload 90 dX0_faultOf_88 rfl rfl ?_
        refine g_iload 92 dX0_faultOf_90 rfl rfl ?_
        refine g_aload 94 dX0_faultOf_92 rfl rfl ?_
        refine g_Vi 97 [_, _, _] _ dX0_faultOf_94 rfl m_X0_faultOfNumber l_X0_71 rfl rfl rfl (by decide) (c_fn5 (hxn h80) hr hB hW ha h2) rfl (Nat.le_of_ble_eq_true rfl) (by decide) (fun v94 μ94 ρ94 hc9 => ?_)
        obtain ⟨rfl, rfl, rfl⟩ := hc9
        exact g_ri dX0_faultOf_97 rfl rfl ⟨if_neg h80, if_neg h80, rfl⟩
      · refine g_iconst 84 1 dX0_faultOf_83 rfl (by decide) ?_
        refine g_goto 97 dX0_faultOf_84 (by decide) ?_
        exact g_ri dX0_faultOf_97 rfl rfl ⟨if_pos h80, if_pos h80, rfl⟩
    · exact absurd h46 (by decide)
  · exact absurd h4 (by decide)
set_option maxRecDepth 100000 in
set_option maxHeartbeats 4000000 in
theorem c_fon7 (hY : q_TY Y L) (hT : q_TC μ Y L) {s e : Nat} (hs : s < L) (he : s ≤ e) (heL : e ≤ L) {x : Int32} (hx : q_nu Y s e = x) (hxn : ¬ x = -1 → ∃ n, n < 1000 ∧ x = nI n) {r : Nat} (hr : r = 70 ∨ r = 96) {B : q_B} (hB : q_RB r μ B) (hW : q_WF B) : q_Ct C l FX0_faultOf 5 142 142 [.ref (q_a C 10), .ref (q_a C 8), .int (nI s), .int (nI e), .int 7, .ref (q_a C r)] μ (q_ρ b) (q_is (if x = -1 then 1 else nI (q_k7 x.toNatClampNeg)) (if x = -1 then μ else q_up μ 10 5 x) (q_ρ b)) := by
  refine q_entry rfl (by decide) (Nat.le_of_ble_eq_true rfl) ?_
  refine g_lv [(0, _), (1, _), (2, _), (3, _), (4, _), (5, _)] rfl ?_
  refine g_iload 2 dX0_faultOf_0 rfl rfl ?_
  refine g_bipush 4 8 dX0_faultOf_2 rfl (by decide) ?_
  refine g_icmp_ne 42 7 dX0_faultOf_4 rfl (by decide) (fun h4 => ?_) (fun h4 => ?_)
  · refine g_iload 44 dX0_faultOf_42 rfl rfl ?_
    refine g_iconst 45 2 dX0_faultOf_44 rfl (by decide) ?_
    refine g_irem 46 dX0_faultOf_45 rfl (by decide) ?_
    refine g_if_ne 69 49 dX0_faultOf_46 rfl (by decide) (fun h46 => ?_) (fun h46 => ?_)
    · refine g_aload_n 70 dX0_faultOf_69 rfl rfl ?_
      refine g_iload_n 71 dX0_faultOf_70 rfl rfl ?_
      refine g_iload_n 72 dX0_faultOf_71 rfl rfl ?_
      refine g_Si 75 [_, _, _] _ dX0_faultOf_72 rfl m_X0_numberOf l_X0_67 rfl (c_nu hY hT hs he heL) rfl (Nat.le_of_ble_eq_true rfl) (by decide) (fun v72 μ72 ρ72 hc9 => ?_)
      obtain ⟨rfl, rfl, rfl⟩ := hc9
      rw [hx]
      refine g_istore 77 dX0_faultOf_75 rfl (by decide) ?_
      refine g_iload 79 dX0_faultOf_77 rfl rfl ?_
      refine g_iconst 80 (-1) dX0_faultOf_79 rfl (by decide) ?_
      refine g_icmp_ne 87 83 dX0_faultOf_80 rfl (by decide) (fun h80 => ?_) (fun h80 => ?_)
      · refine g_aload_n 88 dX0_faultOf_87 rfl rfl ?_
        refine g_iload 90 dX0_faultOf_88 rfl rfl ?_
        refine g_iload 92 dX0_faultOf_90 rfl rfl ?_
        refine g_aload 94 dX0_faultOf_92 rfl rfl ?_
        refine g_Vi 97 [_, _, _] _ dX0_faultOf_94 rfl m_X0_faultOfNumber l_X0_71 rfl rfl rfl (by decide) (c_fn7 (hxn h80) hr hB hW) rfl (Nat.le_of_ble_eq_true rfl) (by decide) (fun v94 μ94 ρ94 hc9 => ?_)
        obtain ⟨rfl, rfl, rfl⟩ := hc9
        exact g_ri dX0_faultOf_97 rfl rfl ⟨if_neg h80, if_neg h80, rfl⟩
      · refine g_iconst 84 1 dX0_faultOf_83 rfl (by decide) ?_
        refine g_goto 97 dX0_faultOf_84 (by decide) ?_
        exact g_ri dX0_faultOf_97 rfl rfl ⟨if_pos h80, if_pos h80, rfl⟩
    · exact absurd h46 (by decide)
  · exact absurd h4 (by decide)
set_option maxRecDepth 100000 in
set_option maxHeartbeats 4000000 in
theorem c_fo8 (hY : q_TY Y L) (hT : q_TC μ Y L) {s e : Nat} (hs : s < L) (he : s ≤ e) (heL : e ≤ L) {r : Nat} (hr : r = 70 ∨ r = 96) {B : q_B} (hB : q_RB r μ B) (hW : q_WF B) {i x y z : Nat} (hi : i < 7) (hi4 : B.1 i < 4) (h2 : μ 10 2 = nI i) (h3 : μ 10 3 = nI x) (h9 : μ 10 4 = nI y) (h5 : μ 10 5 = nI z) : q_Ct C l FX0_faultOf 5 142 142 [.ref (q_a C 10), .ref (q_a C 8), .int (nI s), .int (nI e), .int 8, .ref (q_a C r)] μ (q_ρ b) (q_is (if Y s = 59 then 0 else 1) (if Y s = 59 then (q_up (q_up (q_up (q_up (q_up μ (r + 3 + i) (B.1 i) (nI x)) (r + 11 + i) (B.1 i) (nI y)) (r + 19 + i) (B.1 i) (nI z)) (r + 1) i (nI (B.1 i + 1))) r 4 (μ r 4 + 1)) else μ) (q_ρ b)) := by
  refine q_entry rfl (by decide) (Nat.le_of_ble_eq_true rfl) ?_
  refine g_lv [(0, _), (1, _), (2, _), (3, _), (4, _), (5, _)] rfl ?_
  rcases hr with rfl | rfl
  all_goals
    refine g_iload 2 dX0_faultOf_0 rfl rfl ?_
    refine g_bipush 4 8 dX0_faultOf_2 rfl (by decide) ?_
    refine g_icmp_ne 42 7 dX0_faultOf_4 rfl (by decide) (fun h4 => ?_) (fun h4 => ?_)
    · exact absurd rfl h4
    · refine g_aload_n 8 dX0_faultOf_7 rfl rfl ?_
      refine g_iload_n 9 dX0_faultOf_8 rfl rfl ?_
      refine g_Vi 12 [_] _ dX0_faultOf_9 rfl m_X6_byteAt l_X0_39 rfl rfl rfl (by decide) (c_byteAt hY hT _ (by have := hY.1; omega)) rfl (Nat.le_of_ble_eq_true rfl) (by decide) (fun v9 μ9 ρ9 hc9 => ?_)
      obtain ⟨rfl, rfl, rfl⟩ := hc9
      refine g_bipush 14 59 dX0_faultOf_12 rfl (by decide) ?_
      refine g_icmp_eq 19 17 dX0_faultOf_14 rfl (by decide) (fun h14 => ?_) (fun h14 => ?_)
      · refine g_aload 21 dX0_faultOf_19 rfl rfl ?_
        refine g_aload_n 22 dX0_faultOf_21 rfl rfl ?_
        refine g_getI 25 dX0_faultOf_22 rfl f_X0_43 (by decide) rfl rfl ?_
        refine g_aload_n 26 dX0_faultOf_25 rfl rfl ?_
        refine g_getI 29 dX0_faultOf_26 rfl f_X0_46 (by decide) rfl rfl ?_
        refine g_aload_n 30 dX0_faultOf_29 rfl rfl ?_
        refine g_getI 33 dX0_faultOf_30 rfl f_X0_49 (by decide) rfl rfl ?_
        refine g_aload_n 34 dX0_faultOf_33 rfl rfl ?_
        refine g_getI 37 dX0_faultOf_34 rfl f_X0_52 (by decide) rfl rfl ?_
        rw [h2, h3, h9, h5]
        refine g_Vv 40 [_, _, _, _] _ dX0_faultOf_37 rfl m_X5_add l_X0_55 rfl rfl rfl (by decide) (c_add (by first | exact Or.inl rfl | exact Or.inr rfl) hi hi4 (hB.1 i hi)) rfl (Nat.le_of_ble_eq_true rfl) (by decide) (fun μ37 ρ37 hc9 => ?_)
        obtain ⟨rfl, rfl⟩ := hc9
        refine g_iconst 41 0 dX0_faultOf_40 rfl (by decide) ?_
        exact g_ri dX0_faultOf_41 rfl rfl ⟨if_pos h14, if_pos h14, rfl⟩
      · refine g_iconst 18 1 dX0_faultOf_17 rfl (by decide) ?_
        exact g_ri dX0_faultOf_18 rfl rfl ⟨if_neg h14, if_neg h14, rfl⟩
theorem q_fo_w {r slot s i : Nat} {w : q_W} {v : Int32} {μ' : q_M} (hF : q_CF r slot μ w) (hsl : slot % 2 = 0) (hs8 : slot < 8) (he : q_stp Y L slot s w = if q_wd Y s (q_te Y L s) i then (0, w) else (1, w)) (h1 : (if q_wd Y s (q_te Y L s) i then 0 else 1) = v) (h2 : μ = μ') : nI (q_stp Y L slot s w).1 = v ∧ q_fr r μ μ' ∧ ((q_stp Y L slot s w).1 = 0 → q_CF r (slot + 1) μ' (q_stp Y L slot s w).2) := by
  subst h2
  rw [he, ← h1]
  by_cases hw : q_wd Y s (q_te Y L s) i
  · rw [if_pos hw, if_pos hw]
    exact ⟨rfl, fun c j _ _ => rfl, fun _ => ⟨fun q => hF.1 (by omega), fun q => hF.2.1 (by omega), fun q => hF.2.2.1 (by omega), fun q => hF.2.2.2.1 (by omega), hF.2.2.2.2⟩⟩
  · rw [if_neg hw, if_neg hw]
    exact ⟨rfl, fun c j _ _ => rfl, fun q => absurd q Nat.one_ne_zero⟩
theorem q_RB_f {r f : Nat} {B : q_B} {x : Int32} (hr : r = 70 ∨ r = 96) (h : q_RB r μ B) : q_RB r (q_up μ 10 f x) B := h.same (fun c j h1 h2 => q_upc (by omega))
theorem q_fo_n {r slot s f : Nat} {w w' : q_W} {k : Nat} {x v : Int32} {μ' : q_M} (hx : q_nu Y s (q_te Y L s) = x) (hf : 2 ≤ f) (he : q_stp Y L slot s w = if q_nu Y s (q_te Y L s) = -1 then (1, w) else (k, w')) (h1 : (if x = -1 then 1 else nI k) = v) (h2 : (if x = -1 then μ else q_up μ 10 f x) = μ') (hF : q_CF r (slot + 1) (q_up μ 10 f x) w') : nI (q_stp Y L slot s w).1 = v ∧ q_fr r μ μ' ∧ ((q_stp Y L slot s w).1 = 0 → q_CF r (slot + 1) μ' (q_stp Y L slot s w).2) := by
  rw [he, hx, ← h1, ← h2]
  by_cases e : x = -1
  · rw [if_pos e, if_pos e, if_pos e]
    exact ⟨rfl, fun c j _ _ => rfl, fun q => absurd q Nat.one_ne_zero⟩
  · rw [if_neg e, if_neg e, if_neg e]
    exact ⟨rfl, q_fr_f hf, fun _ => hF⟩
theorem q_xn {s : Nat} {x : Int32} (hs : s < L) (hx : q_nu Y s (q_te Y L s) = x) (h : ¬ x = -1) : ∃ n, n < 1000 ∧ x = nI n := by
  subst hx
  exact (q_nu_n hs h).2.2
theorem q_xc {x : Int32} (h : ∃ n, n < 1000 ∧ x = nI n) : x = nI x.toNatClampNeg := by
  obtain ⟨n, h1, rfl⟩ := h
  rw [nI_clamp (show n < 2 ^ 31 by omega)]
theorem c_fo (hY : q_TY Y L) (hT : q_TC μ Y L) {r slot s : Nat} (hs : s < L) (hr : r = 70 ∨ r = 96) {w : q_W} (hsl : slot < 9) (hi : q_iv slot w) (hF : q_CF r slot μ w) : q_Ct C l FX0_faultOf 5 142 142 [.ref (q_a C 10), .ref (q_a C 8), .int (nI s), .int (nI (q_te Y L s)), .int (nI slot), .ref (q_a C r)] μ (q_ρ b) (q_PI fun v μ' ρ' => q_ρ b = ρ' ∧ nI (q_stp Y L slot s w).1 = v ∧ q_fr r μ μ' ∧ ((q_stp Y L slot s w).1 = 0 → q_CF r (slot + 1) μ' (q_stp Y L slot s w).2)) := by
  have hte := q_te_gt (Y := Y) hs
  have he : s ≤ q_te Y L s := by omega
  have hB := hF.2.2.2.2
  have hW := hi.2.2.2.2
  rcases q_s9 hsl with rfl | rfl | rfl | rfl | rfl | rfl | rfl | rfl | rfl
  · exact (c_fow0 hY hT hs he hte.2).weak (fun _ _ _ ⟨v, e, h1, h2, h3⟩ => ⟨v, e, h3, q_fo_w hF rfl (by decide) rfl h1 h2⟩)
  · refine (c_fon1 hY hT hs he hte.2 rfl (q_xn hs rfl) hr hB hW).weak (fun _ _ _ ⟨v, e, h1, h2, h3⟩ => ⟨v, e, h3, ?_⟩)
    by_cases e9 : q_nu Y s (q_te Y L s) = -1
    · rw [if_pos e9] at h1 h2
      subst h1 h2
      rw [q_sp1]
      rw [if_pos e9]
      exact ⟨rfl, fun c j _ _ => rfl, fun q => absurd q Nat.one_ne_zero⟩
    · exact q_fo_n rfl (by decide) rfl h1 h2 ⟨fun _ => by rw [q_ups]; exact q_xc (q_xn hs rfl e9), fun q => absurd q (by decide), fun q => absurd q (by decide), fun q => absurd q (by decide), q_RB_f hr hB⟩
  · exact (c_fow1 hY hT hs he hte.2).weak (fun _ _ _ ⟨v, e, h1, h2, h3⟩ => ⟨v, e, h3, q_fo_w hF rfl (by decide) rfl h1 h2⟩)
  · refine (c_fon3 hY hT hs he hte.2 rfl (q_xn hs rfl) hr hB hW (hi.1 (by decide)).1 (hF.1 (by decide))).weak (fun _ _ _ ⟨v, e, h1, h2, h3⟩ => ⟨v, e, h3, ?_⟩)
    by_cases e9 : q_nu Y s (q_te Y L s) = -1
    · rw [if_pos e9] at h1 h2
      subst h1 h2
      rw [q_sp3]
      rw [if_pos e9]
      exact ⟨rfl, fun c j _ _ => rfl, fun q => absurd q Nat.one_ne_zero⟩
    · exact q_fo_n rfl (by decide) rfl h1 h2 ⟨fun _ => by rw [q_upo (by decide)]; exact hF.1 (by decide), fun _ => by rw [q_ups]; exact q_xc (q_xn hs rfl e9), fun q => absurd q (by decide), fun q => absurd q (by decide), q_RB_f hr hB⟩
  · exact (c_fow2 hY hT hs he hte.2).weak (fun _ _ _ ⟨v, e, h1, h2, h3⟩ => ⟨v, e, h3, q_fo_w hF rfl (by decide) rfl h1 h2⟩)
  · refine (c_fon5 hY hT hs he hte.2 rfl (q_xn hs rfl) hr hB hW (Nat.lt_of_le_of_lt (hi.2.1 (by decide)).2 (by decide)) (hF.2.1 (by decide))).weak (fun _ _ _ ⟨v, e, h1, h2, h3⟩ => ⟨v, e, h3, ?_⟩)
    by_cases e9 : q_nu Y s (q_te Y L s) = -1
    · rw [if_pos e9] at h1 h2
      subst h1 h2
      rw [q_sp5]
      rw [if_pos e9]
      exact ⟨rfl, fun c j _ _ => rfl, fun q => absurd q Nat.one_ne_zero⟩
    · exact q_fo_n rfl (by decide) rfl h1 h2 ⟨fun _ => by rw [q_upo (by decide)]; exact hF.1 (by decide), fun _ => by rw [q_upo (by decide)]; exact hF.2.1 (by decide), fun _ => by rw [q_ups]; exact q_xc (q_xn hs rfl e9), fun q => absurd q (by decide), q_RB_f hr hB⟩
  · exact (c_fow3 hY hT hs he hte.2).weak (fun _ _ _ ⟨v, e, h1, h2, h3⟩ => ⟨v, e, h3, q_fo_w hF rfl (by decide) rfl h1 h2⟩)
  · refine (c_fon7 hY hT hs he hte.2 rfl (q_xn hs rfl) hr hB hW).weak (fun _ _ _ ⟨v, e, h1, h2, h3⟩ => ⟨v, e, h3, ?_⟩)
    by_cases e9 : q_nu Y s (q_te Y L s) = -1
    · rw [if_pos e9] at h1 h2
      subst h1 h2
      rw [q_sp7]
      rw [if_pos e9]
      exact ⟨rfl, fun c j _ _ => rfl, fun q => absurd q Nat.one_ne_zero⟩
    · exact q_fo_n rfl (by decide) rfl h1 h2 ⟨fun _ => by rw [q_upo (by decide)]; exact hF.1 (by decide), fun _ => by rw [q_upo (by decide)]; exact hF.2.1 (by decide), fun _ => by rw [q_upo (by decide)]; exact hF.2.2.1 (by decide), fun _ => by rw [q_ups]; exact q_xc (q_xn hs rfl e9), q_RB_f hr hB⟩
  · refine (c_fo8 hY hT hs he hte.2 hr hB hW (hi.1 (by decide)).1 (hi.1 (by decide)).2 (hF.1 (by decide)) (hF.2.1 (by decide)) (hF.2.2.1 (by decide)) (hF.2.2.2.1 (by decide))).weak (fun _ _ _ ⟨v, e, h1, h2, h3⟩ => ⟨v, e, h3, ?_⟩)
    rw [q_sp8]
    by_cases e9 : Y s = 59
    · rw [if_pos e9] at h1 h2 ⊢
      subst h1 h2
      have h7 := (hi.1 (by decide)).1
      refine ⟨rfl, q_fr_ad h7, fun _ => ⟨fun _ => ?_, fun _ => ?_, fun _ => ?_, fun _ => ?_, q_RB_ad hB h7⟩⟩
      · rw [q_upc (by omega), q_upc (by omega), q_upc (by omega), q_upc (by omega), q_upc (by omega)]; exact hF.1 (by decide)
      · rw [q_upc (by omega), q_upc (by omega), q_upc (by omega), q_upc (by omega), q_upc (by omega)]; exact hF.2.1 (by decide)
      · rw [q_upc (by omega), q_upc (by omega), q_upc (by omega), q_upc (by omega), q_upc (by omega)]; exact hF.2.2.1 (by decide)
      · rw [q_upc (by omega), q_upc (by omega), q_upc (by omega), q_upc (by omega), q_upc (by omega)]; exact hF.2.2.2.1 (by decide)
    · rw [if_neg e9] at h1 h2 ⊢
      subst h1 h2
      exact ⟨rfl, fun c j _ _ => rfl, fun q => absurd q Nat.one_ne_zero⟩
end BK
