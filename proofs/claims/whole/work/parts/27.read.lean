/-! ===== a text as tokens ===== -/
def q_TY (Y : Nat → Int32) (L : Nat) : Prop := L ≤ 600 ∧ (∀ p, L ≤ p → Y p = -1) ∧ ∀ p, p < L → ∃ a, a < 256 ∧ Y p = nI a
def q_TC (μ : q_M) (Y : Nat → Int32) (L : Nat) : Prop := μ 8 1 = nI L ∧ ∀ p, p < L → μ 9 p &&& 255 = Y p
def q_sd (g : Int32 → Bool) (Y : Nat → Int32) : Nat → Nat → Nat
  | 0, i => i
  | k + 1, i => if g (Y i) = true then q_sd g Y k (i + 1) else i
def q_sk (Y : Nat → Int32) (L p : Nat) : Nat := q_sd q_bk Y (L - p) p
def q_te (Y : Nat → Int32) (L s : Nat) : Nat := if q_lt (Y s) = true then q_sd q_lt Y (L - (s + 1)) (s + 1) else if q_dg (Y s) = true then q_sd q_dg Y (L - (s + 1)) (s + 1) else s + 1
def q_ws (Y : Nat → Int32) (s i : Nat) : Nat → Nat → Bool
  | 0, _ => true
  | k + 1, j => if Y (s + j) = (q_kb.getD i []).getD j 0 then q_ws Y s i k (j + 1) else false
abbrev q_wd (Y : Nat → Int32) (s e i : Nat) : Prop := e - s = q_kn.getD i 0 ∧ q_ws Y s i (q_kn.getD i 0) 0 = true
def q_nv (Y : Nat → Int32) : Nat → Nat → Int32 → Int32
  | 0, _, a => a
  | k + 1, p, a => q_nv Y k (p + 1) (10 * a + (Y p - 48))
def q_nu (Y : Nat → Int32) (s e : Nat) : Int32 := if q_dg (Y s) = true ∧ e - s ≤ 3 then q_nv Y (e - s) s 0 else -1
theorem q_sd_ge {g : Int32 → Bool} {Y : Nat → Int32} : ∀ k i, i ≤ q_sd g Y k i ∧ q_sd g Y k i ≤ i + k := by
  intro k
  induction k with
  | zero => intro i; exact ⟨Nat.le_refl _, Nat.le_refl _⟩
  | succ k ih =>
    intro i
    unfold q_sd
    by_cases h : g (Y i) = true
    · rw [if_pos h]
      have := ih (i + 1)
      omega
    · rw [if_neg h]
      omega
theorem q_sd_all {g : Int32 → Bool} {Y : Nat → Int32} : ∀ k i p, i ≤ p → p < q_sd g Y k i → g (Y p) = true := by
  intro k
  induction k with
  | zero => intro i p h1 h2; exact absurd h2 (Nat.not_lt.mpr h1)
  | succ k ih =>
    intro i p h1 h2
    unfold q_sd at h2
    by_cases h : g (Y i) = true
    · rw [if_pos h] at h2
      by_cases e : p = i
      · rw [e]; exact h
      · exact ih (i + 1) p (by omega) h2
    · rw [if_neg h] at h2
      omega
theorem q_sd_st {g : Int32 → Bool} {Y : Nat → Int32} : ∀ k i, q_sd g Y k i < i + k → ¬ g (Y (q_sd g Y k i)) = true := by
  intro k
  induction k with
  | zero => intro i h; exact absurd h (Nat.lt_irrefl _)
  | succ k ih =>
    intro i h
    unfold q_sd at h ⊢
    by_cases hg : g (Y i) = true
    · rw [if_pos hg] at h ⊢
      exact ih (i + 1) (by omega)
    · rw [if_neg hg] at h ⊢
      exact hg
theorem q_te_gt {Y : Nat → Int32} {L s : Nat} (h : s < L) : s < q_te Y L s ∧ q_te Y L s ≤ L := by
  unfold q_te
  have h1 := q_sd_ge (g := q_lt) (Y := Y) (L - (s + 1)) (s + 1)
  have h2 := q_sd_ge (g := q_dg) (Y := Y) (L - (s + 1)) (s + 1)
  by_cases e1 : q_lt (Y s) = true
  · rw [if_pos e1]; omega
  · rw [if_neg e1]
    by_cases e2 : q_dg (Y s) = true
    · rw [if_pos e2]; omega
    · rw [if_neg e2]; omega
theorem q_sk_ge {Y : Nat → Int32} {L s : Nat} (h : s ≤ L) : s ≤ q_sk Y L s ∧ q_sk Y L s ≤ L := by
  unfold q_sk
  have h1 := q_sd_ge (g := q_bk) (Y := Y) (L - s) s
  omega
theorem q_ld (c : Int32) (h : q_dg c = true) : ¬ q_lt c = true := by
  intro h2
  have a := of_decide_eq_true h
  have b := of_decide_eq_true h2
  have e1 := Int32.le_iff_toInt_le.mp a.2
  have e0 : (57 : Int32).toInt = 57 := rfl
  rcases b with b | b
  · have e2 := Int32.le_iff_toInt_le.mp b.1
    have e3 : (97 : Int32).toInt = 97 := rfl
    omega
  · have e2 := Int32.le_iff_toInt_le.mp b.1
    have e3 : (65 : Int32).toInt = 65 := rfl
    omega
theorem q_dgn {c : Int32} (h : q_dg c = true) : ∃ a, a ≤ 9 ∧ c - 48 = nI a ∧ c = nI (a + 48) := by
  have a := of_decide_eq_true h
  obtain ⟨j, h1, h2⟩ := nI_of2 (n := 57) (M := 57) rfl (Int32.not_lt.mpr (Int32.le_trans (by decide) a.1)) a.2
  have h3 : 48 ≤ j := by
    have := a.1
    rw [h2] at this
    exact (nI_leI (a := 48) (b := j) (by omega) (by omega)).mp this
  exact ⟨j - 48, by omega, by rw [h2]; exact pk_sub (b := 48) h3, by rw [h2]; congr 1; omega⟩
theorem q_nv_n {Y : Nat → Int32} : ∀ k p a M, a < M → M * 10 ^ k ≤ 1000 → (∀ q, p ≤ q → q < p + k → q_dg (Y q) = true) → ∃ n, n < M * 10 ^ k ∧ q_nv Y k p (nI a) = nI n := by
  intro k
  induction k with
  | zero => intro p a M h1 h2 _; exact ⟨a, by simpa using h1, rfl⟩
  | succ k ih =>
    intro p a M h1 h2 h3
    obtain ⟨x, g1, g2, _⟩ := q_dgn (h3 p (Nat.le_refl _) (by omega))
    unfold q_nv
    rw [g2, show (10 : Int32) * nI a = nI (10 * a) from pk_mul 10 a, nI_add]
    have h4 : M * 10 ^ (k + 1) = M * 10 * 10 ^ k := by rw [Nat.pow_succ, Nat.mul_comm (10 ^ k) 10, Nat.mul_assoc]
    rw [h4] at h2 ⊢
    exact ih (p + 1) (10 * a + x) (M * 10) (by omega) h2 (fun q q1 q2 => h3 q (by omega) (by omega))
theorem q_te_dg {Y : Nat → Int32} {L s : Nat} (hs : q_dg (Y s) = true) : q_te Y L s = q_sd q_dg Y (L - (s + 1)) (s + 1) := by
  unfold q_te
  rw [if_neg (q_ld _ hs), if_pos hs]
theorem q_te_all {Y : Nat → Int32} {L s : Nat} (hs : q_dg (Y s) = true) : ∀ q, s ≤ q → q < q_te Y L s → q_dg (Y q) = true := by
  intro q h1 h2
  rw [q_te_dg hs] at h2
  by_cases e : q = s
  · rw [e]; exact hs
  · exact q_sd_all _ _ q (by omega) h2
theorem q_nu_n {Y : Nat → Int32} {L s : Nat} (hL : s < L) (h : ¬ q_nu Y s (q_te Y L s) = -1) : q_dg (Y s) = true ∧ q_te Y L s - s ≤ 3 ∧ ∃ n, n < 1000 ∧ q_nu Y s (q_te Y L s) = nI n := by
  unfold q_nu at h ⊢
  by_cases hc : q_dg (Y s) = true ∧ q_te Y L s - s ≤ 3
  · rw [if_pos hc]
    refine ⟨hc.1, hc.2, ?_⟩
    have h9 := q_te_gt (Y := Y) hL
    have h8 : ∀ q, s ≤ q → q < s + (q_te Y L s - s) → q_dg (Y q) = true := fun q a b => q_te_all (L := L) hc.1 q a (by omega)
    have h7 : 1 * 10 ^ (q_te Y L s - s) ≤ 1000 := by
      have h6 : q_te Y L s - s = 0 ∨ q_te Y L s - s = 1 ∨ q_te Y L s - s = 2 ∨ q_te Y L s - s = 3 := by omega
      rcases h6 with e | e | e | e <;> rw [e] <;> decide
    obtain ⟨n, g1, g2⟩ := q_nv_n (Y := Y) (q_te Y L s - s) s 0 1 (by omega) h7 h8
    exact ⟨n, by omega, g2⟩
  · rw [if_neg hc] at h
    exact absurd rfl h
theorem q_nu_d {Y : Nat → Int32} {L s : Nat} (hL : s < L) (h1 : q_dg (Y s) = true) (h2 : q_te Y L s - s ≤ 3) : ¬ q_nu Y s (q_te Y L s) = -1 := by
  have h9 := q_te_gt (Y := Y) hL
  have h8 : ∀ q, s ≤ q → q < s + (q_te Y L s - s) → q_dg (Y q) = true := fun q a b => q_te_all (L := L) h1 q a (by omega)
  have h7 : 1 * 10 ^ (q_te Y L s - s) ≤ 1000 := by
    have h6 : q_te Y L s - s = 0 ∨ q_te Y L s - s = 1 ∨ q_te Y L s - s = 2 ∨ q_te Y L s - s = 3 := by omega
    rcases h6 with e | e | e | e <;> rw [e] <;> decide
  obtain ⟨n, g1, g2⟩ := q_nv_n (Y := Y) (q_te Y L s - s) s 0 1 (by omega) h7 h8
  unfold q_nu
  rw [if_pos ⟨h1, h2⟩, show (0 : Int32) = nI 0 from rfl, g2]
  intro q
  have := nI_pos (n := n) (by omega)
  rw [q] at this
  exact this (by decide)
theorem q_inL {p L : Nat} (hp : p < 2 ^ 31) (hL : L ≤ 600) : q_in (nI p) 0 (nI L - 1) ↔ p < L := by
  cases L with
  | zero =>
    refine ⟨fun h => ?_, fun h => absurd h (Nat.not_lt_zero _)⟩
    exact absurd (Int32.le_trans h.1 h.2) (by decide)
  | succ L =>
    rw [nI_pred]
    exact ⟨fun h => Nat.lt_succ_of_le ((nI_leI hp (by omega)).mp h.2), fun h => ⟨nI_pos' hp, (nI_leI hp (by omega)).mpr (by omega)⟩⟩
theorem q_inN {n a b : Nat} (hn : n < 2 ^ 31) (ha : a < 2 ^ 31) (hb : b < 2 ^ 31) : q_in (nI n) (nI a) (nI b) ↔ a ≤ n ∧ n ≤ b := by
  unfold q_in
  rw [nI_leI ha hn, nI_leI hn hb]
theorem q_b_iff {P Q : Prop} [Decidable P] [Decidable Q] (h : P ↔ Q) : q_b P = q_b Q := by
  by_cases p : P
  · rw [q_b_t p, q_b_t (h.mp p)]
  · rw [q_b_f p, q_b_f (fun q => p (h.mpr q))]
/-! ===== road books ===== -/
abbrev q_B : Type := (Nat → Nat) × (Nat → Nat → Nat) × (Nat → Nat → Nat) × (Nat → Nat → Nat)
def q_tot (B : q_B) : Nat := B.1 0 + B.1 1 + B.1 2 + B.1 3 + B.1 4 + B.1 5 + B.1 6
def q_B0 : q_B := (fun _ => 0, fun _ _ => 0, fun _ _ => 0, fun _ _ => 0)
def q_re (B : q_B) (a : Nat) : Nat := if B.1 a = 0 then 0 else B.2.2.1 a (B.1 a - 1)
def q_ad (B : q_B) (a x y z : Nat) : q_B := (fun i => if i = a then B.1 a + 1 else B.1 i, fun i j => if i = a ∧ j = B.1 a then x else B.2.1 i j, fun i j => if i = a ∧ j = B.1 a then y else B.2.2.1 i j, fun i j => if i = a ∧ j = B.1 a then z else B.2.2.2 i j)
def q_WF (B : q_B) : Prop := ∀ i, B.1 i ≤ 4 ∧ ∀ j, j < B.1 i → B.2.1 i j < B.2.2.1 i j ∧ B.2.2.1 i j ≤ 900 ∧ 10 ≤ B.2.2.2 i j ∧ B.2.2.2 i j ≤ 99 ∧ (j + 1 < B.1 i → B.2.2.1 i j ≤ B.2.1 i (j + 1))
theorem q_WF0 : q_WF q_B0 := fun i => ⟨Nat.zero_le _, fun j h => absurd h (Nat.not_lt_zero _)⟩
theorem q_ad_n {B : q_B} {a x y z i : Nat} : (q_ad B a x y z).1 i = if i = a then B.1 a + 1 else B.1 i := rfl
theorem q_WFa {B : q_B} {a x y z : Nat} (h : q_WF B) (h1 : B.1 a < 4) (h2 : q_re B a ≤ x) (h3 : x < y) (h4 : y ≤ 900) (h5 : 10 ≤ z) (h6 : z ≤ 99) : q_WF (q_ad B a x y z) := by
  intro i
  by_cases e : i = a
  · subst e
    have hb := h i
    unfold q_ad
    simp only [if_true, true_and]
    refine ⟨by omega, fun j hj => ?_⟩
    by_cases ej : j = B.1 i
    · simp only [ej, if_true]
      exact ⟨h3, h4, h5, h6, fun q => by omega⟩
    · have hj2 : j < B.1 i := by omega
      simp only [ej, if_false]
      have hb2 := hb.2 j hj2
      refine ⟨hb2.1, hb2.2.1, hb2.2.2.1, hb2.2.2.2.1, fun q => ?_⟩
      by_cases e2 : j + 1 = B.1 i
      · simp only [e2, if_true]
        unfold q_re at h2
        rw [if_neg (by omega)] at h2
        rw [show B.1 i - 1 = j by omega] at h2
        exact h2
      · simp only [e2, if_false]
        exact hb2.2.2.2.2 (by omega)
  · have hb := h i
    unfold q_ad
    simp only [e, if_false, false_and]
    exact hb
def q_RB (r : Nat) (μ : q_M) (B : q_B) : Prop := (∀ i, i < 7 → μ (r + 1) i = nI (B.1 i)) ∧ (∀ i, i < 7 → ∀ j, j < B.1 i → μ (r + 3 + i) j = nI (B.2.1 i j) ∧ μ (r + 11 + i) j = nI (B.2.2.1 i j) ∧ μ (r + 19 + i) j = nI (B.2.2.2 i j)) ∧ μ r 4 = nI (q_tot B)
theorem q_RB.same {r : Nat} {μ μ' : q_M} {B : q_B} (h : q_RB r μ B) (e : ∀ c j, r ≤ c → c < r + 26 → μ' c j = μ c j) : q_RB r μ' B := by
  refine ⟨fun i hi => ?_, fun i hi j hj => ?_, ?_⟩
  · rw [e _ _ (by omega) (by omega)]; exact h.1 i hi
  · rw [e _ _ (by omega) (by omega), e _ _ (by omega) (by omega), e _ _ (by omega) (by omega)]
    exact h.2.1 i hi j hj
  · rw [e _ _ (by omega) (by omega)]; exact h.2.2
theorem q_tot_ad {B : q_B} {a x y z : Nat} (ha : a < 7) : q_tot (q_ad B a x y z) = q_tot B + 1 := by
  have h9 : a = 0 ∨ a = 1 ∨ a = 2 ∨ a = 3 ∨ a = 4 ∨ a = 5 ∨ a = 6 := by omega
  unfold q_tot q_ad
  rcases h9 with rfl | rfl | rfl | rfl | rfl | rfl | rfl <;> simp <;> omega
section RD
variable {C : q_C} {l : Launch} {μ : q_M} {b : Bool} {Y : Nat → Int32} {L : Nat}
set_option maxRecDepth 100000 in
set_option maxHeartbeats 4000000 in
theorem c_byteAt (hY : q_TY Y L) (hT : q_TC μ Y L) (p : Nat) (hp : p < 2 ^ 31) : q_Ct C l FX6_byteAt 1 142 142 [.ref (q_a C 8), .int (nI p)] μ (q_ρ b) (q_is (Y p) μ (q_ρ b)) := by
  refine q_entry rfl (by decide) (Nat.le_of_ble_eq_true rfl) ?_
  refine g_lv [(0, _), (1, _)] rfl ?_
  refine g_iload_n 1 dX6_byteAt_0 rfl rfl ?_
  refine g_iconst 2 0 dX6_byteAt_1 rfl (by decide) ?_
  refine g_aload_n 3 dX6_byteAt_2 rfl rfl ?_
  refine g_getI 6 dX6_byteAt_3 rfl f_X6_15 (by decide) rfl rfl ?_
  rw [hT.1]
  refine g_iconst 7 1 dX6_byteAt_6 rfl (by decide) ?_
  refine g_isub 8 dX6_byteAt_7 rfl ?_
  refine g_SNi 11 [_, _, _] _ dX6_byteAt_8 rfl m_X7_within l_X6_19 rfl (c_within _ _ _) rfl (Nat.le_of_ble_eq_true rfl) (by decide) (fun v8 μ8 ρ8 hc9 => ?_)
  obtain ⟨rfl, rfl, rfl⟩ := hc9
  rw [q_b_iff (q_inL hp hY.1)]
  refine g_if_eq 27 14 dX6_byteAt_11 rfl (by decide) (fun h11 => ?_) (fun h11 => ?_)
  · refine g_iconst 28 (-1) dX6_byteAt_27 rfl (by decide) ?_
    exact g_ri dX6_byteAt_28 rfl rfl ⟨hY.2.1 p (Nat.not_lt.mp (q_b_0.mp h11)), rfl, rfl⟩
  · refine g_aload_n 15 dX6_byteAt_14 rfl rfl ?_
    refine g_getR 18 _ dX6_byteAt_15 rfl f_X6_9 (by decide) rfl rfl rfl ?_
    refine g_iload_n 19 dX6_byteAt_18 rfl rfl ?_
    refine g_bald 20 dX6_byteAt_19 rfl (by decide) rfl (vp_in_nI (show p < 600 from Nat.lt_of_lt_of_le (q_b_n.mp h11) hY.1) (by omega)) ?_
    rw [nI_clamp hp]
    refine g_sipush 23 255 dX6_byteAt_20 rfl (by decide) ?_
    refine g_iand 24 dX6_byteAt_23 rfl ?_
    refine g_goto 28 dX6_byteAt_24 (by decide) ?_
    exact g_ri dX6_byteAt_28 rfl rfl ⟨(hT.2 p (q_b_n.mp h11)).symm, rfl, rfl⟩
set_option maxRecDepth 100000 in
set_option maxHeartbeats 4000000 in
theorem lp_bl (hY : q_TY Y L) (hT : q_TC μ Y L) : ∀ k i, i + k = L → q_G C l FX0_behindBlanks 2 142 142 (q_is (nI (q_sd q_bk Y k i)) μ (q_ρ b)) 142 μ (q_ρ b) [(0, .ref (q_a C 8)), (2, .int (nI i))] [] 2 := by
  intro k
  induction k with
  | zero =>
    intro i hK9
    refine g_iload_n 3 dX0_behindBlanks_2 rfl rfl ?_
    refine g_aload_n 4 dX0_behindBlanks_3 rfl rfl ?_
    refine g_getI 7 dX0_behindBlanks_4 rfl f_X0_27 (by decide) rfl rfl ?_
    rw [hT.1]
    refine g_icmp_ge 27 10 dX0_behindBlanks_7 rfl (by decide) (fun h7 => ?_) (fun h7 => ?_)
    · refine g_iload_n 28 dX0_behindBlanks_27 rfl rfl ?_
      exact g_ri dX0_behindBlanks_28 rfl rfl ⟨rfl, rfl, rfl⟩
    · exact absurd (nI_le (by omega) (by have := hY.1; omega)) h7
  | succ k ih =>
    intro i hK9
    refine g_iload_n 3 dX0_behindBlanks_2 rfl rfl ?_
    refine g_aload_n 4 dX0_behindBlanks_3 rfl rfl ?_
    refine g_getI 7 dX0_behindBlanks_4 rfl f_X0_27 (by decide) rfl rfl ?_
    rw [hT.1]
    refine g_icmp_ge 27 10 dX0_behindBlanks_7 rfl (by decide) (fun h7 => ?_) (fun h7 => ?_)
    · exact absurd h7 (nI_ge (by omega) (by have := hY.1; omega))
    · have hL9 := hY.1
      refine g_aload_n 11 dX0_behindBlanks_10 rfl rfl ?_
      refine g_iload_n 12 dX0_behindBlanks_11 rfl rfl ?_
      refine g_Vi 15 [_] _ dX0_behindBlanks_12 rfl m_X6_byteAt l_X0_39 rfl rfl rfl (by decide) (c_byteAt hY hT _ (by omega)) rfl (Nat.le_of_ble_eq_true rfl) (by decide) (fun v12 μ12 ρ12 hc9 => ?_)
      obtain ⟨rfl, rfl, rfl⟩ := hc9
      refine g_Si 18 [_] _ dX0_behindBlanks_15 rfl m_X0_isBlank l_X0_95 rfl (c_blank _) rfl (Nat.le_of_ble_eq_true rfl) (by decide) (fun v15 μ15 ρ15 hc9 => ?_)
      obtain ⟨rfl, rfl, rfl⟩ := hc9
      refine g_if_eq 27 21 dX0_behindBlanks_18 rfl (by decide) (fun h18 => ?_) (fun h18 => ?_)
      · refine g_iload_n 28 dX0_behindBlanks_27 rfl rfl ?_
        exact g_ri dX0_behindBlanks_28 rfl rfl ⟨by rw [q_sd, if_neg (q_b_0.mp h18)], rfl, rfl⟩
      · refine g_iinc 24 (_ + 1) dX0_behindBlanks_21 rfl rfl rfl (by decide) ?_
        refine g_goto 2 dX0_behindBlanks_24 (by decide) ?_
        rw [nI_1]
        refine g_lv [(0, _), (2, _)] rfl ?_
        have h9 := ih (i + 1) (by omega)
        rw [q_sd, if_pos (q_b_n.mp h18)]
        exact h9
set_option maxRecDepth 100000 in
set_option maxHeartbeats 4000000 in
theorem c_bl (hY : q_TY Y L) (hT : q_TC μ Y L) {p : Nat} (hp : p ≤ L) : q_Ct C l FX0_behindBlanks 2 142 142 [.ref (q_a C 8), .int (nI p)] μ (q_ρ b) (q_is (nI (q_sk Y L p)) μ (q_ρ b)) := by
  refine q_entry rfl (by decide) (Nat.le_of_ble_eq_true rfl) ?_
  refine g_lv [(0, _), (1, _)] rfl ?_
  refine g_iload_n 1 dX0_behindBlanks_0 rfl rfl ?_
  refine g_istore_n 2 dX0_behindBlanks_1 rfl (by decide) ?_
  refine g_lv [(0, _), (2, _)] rfl ?_
  exact lp_bl hY hT (L - p) p (by omega)
set_option maxRecDepth 100000 in
set_option maxHeartbeats 4000000 in
theorem lp_tlt (hY : q_TY Y L) (hT : q_TC μ Y L) : ∀ k i, i + k = L → q_G C l FX0_behindToken 2 142 142 (q_is (nI (q_sd q_lt Y k i)) μ (q_ρ b)) 142 μ (q_ρ b) [(0, .ref (q_a C 8)), (2, .int (nI i))] [] 15 := by
  intro k
  induction k with
  | zero =>
    intro i hK9
    refine g_iload_n 16 dX0_behindToken_15 rfl rfl ?_
    refine g_aload_n 17 dX0_behindToken_16 rfl rfl ?_
    refine g_getI 20 dX0_behindToken_17 rfl f_X0_27 (by decide) rfl rfl ?_
    rw [hT.1]
    refine g_icmp_ge 76 23 dX0_behindToken_20 rfl (by decide) (fun h20 => ?_) (fun h20 => ?_)
    · refine g_iload_n 77 dX0_behindToken_76 rfl rfl ?_
      exact g_ri dX0_behindToken_77 rfl rfl ⟨rfl, rfl, rfl⟩
    · exact absurd (nI_le (by omega) (by have := hY.1; omega)) h20
  | succ k ih =>
    intro i hK9
    refine g_iload_n 16 dX0_behindToken_15 rfl rfl ?_
    refine g_aload_n 17 dX0_behindToken_16 rfl rfl ?_
    refine g_getI 20 dX0_behindToken_17 rfl f_X0_27 (by decide) rfl rfl ?_
    rw [hT.1]
    refine g_icmp_ge 76 23 dX0_behindToken_20 rfl (by decide) (fun h20 => ?_) (fun h20 => ?_)
    · exact absurd h20 (nI_ge (by omega) (by have := hY.1; omega))
    · have hL9 := hY.1
      refine g_aload_n 24 dX0_behindToken_23 rfl rfl ?_
      refine g_iload_n 25 dX0_behindToken_24 rfl rfl ?_
      refine g_Vi 28 [_] _ dX0_behindToken_25 rfl m_X6_byteAt l_X0_39 rfl rfl rfl (by decide) (c_byteAt hY hT _ (by omega)) rfl (Nat.le_of_ble_eq_true rfl) (by decide) (fun v25 μ25 ρ25 hc9 => ?_)
      obtain ⟨rfl, rfl, rfl⟩ := hc9
      refine g_Si 31 [_] _ dX0_behindToken_28 rfl m_X0_isLetter l_X0_98 rfl (c_letter _) rfl (Nat.le_of_ble_eq_true rfl) (by decide) (fun v28 μ28 ρ28 hc9 => ?_)
      obtain ⟨rfl, rfl, rfl⟩ := hc9
      refine g_if_eq 76 34 dX0_behindToken_31 rfl (by decide) (fun h31 => ?_) (fun h31 => ?_)
      · refine g_iload_n 77 dX0_behindToken_76 rfl rfl ?_
        exact g_ri dX0_behindToken_77 rfl rfl ⟨by rw [q_sd, if_neg (q_b_0.mp h31)], rfl, rfl⟩
      · refine g_iinc 37 (_ + 1) dX0_behindToken_34 rfl rfl rfl (by decide) ?_
        refine g_goto 15 dX0_behindToken_37 (by decide) ?_
        rw [nI_1]
        refine g_lv [(0, _), (2, _)] rfl ?_
        have h9 := ih (i + 1) (by omega)
        rw [q_sd, if_pos (q_b_n.mp h31)]
        exact h9
set_option maxRecDepth 100000 in
set_option maxHeartbeats 4000000 in
theorem lp_tdg (hY : q_TY Y L) (hT : q_TC μ Y L) : ∀ k i, i + k = L → q_G C l FX0_behindToken 2 142 142 (q_is (nI (q_sd q_dg Y k i)) μ (q_ρ b)) 142 μ (q_ρ b) [(0, .ref (q_a C 8)), (2, .int (nI i))] [] 51 := by
  intro k
  induction k with
  | zero =>
    intro i hK9
    refine g_iload_n 52 dX0_behindToken_51 rfl rfl ?_
    refine g_aload_n 53 dX0_behindToken_52 rfl rfl ?_
    refine g_getI 56 dX0_behindToken_53 rfl f_X0_27 (by decide) rfl rfl ?_
    rw [hT.1]
    refine g_icmp_ge 76 59 dX0_behindToken_56 rfl (by decide) (fun h56 => ?_) (fun h56 => ?_)
    · refine g_iload_n 77 dX0_behindToken_76 rfl rfl ?_
      exact g_ri dX0_behindToken_77 rfl rfl ⟨rfl, rfl, rfl⟩
    · exact absurd (nI_le (by omega) (by have := hY.1; omega)) h56
  | succ k ih =>
    intro i hK9
    refine g_iload_n 52 dX0_behindToken_51 rfl rfl ?_
    refine g_aload_n 53 dX0_behindToken_52 rfl rfl ?_
    refine g_getI 56 dX0_behindToken_53 rfl f_X0_27 (by decide) rfl rfl ?_
    rw [hT.1]
    refine g_icmp_ge 76 59 dX0_behindToken_56 rfl (by decide) (fun h56 => ?_) (fun h56 => ?_)
    · exact absurd h56 (nI_ge (by omega) (by have := hY.1; omega))
    · have hL9 := hY.1
      refine g_aload_n 60 dX0_behindToken_59 rfl rfl ?_
      refine g_iload_n 61 dX0_behindToken_60 rfl rfl ?_
      refine g_Vi 64 [_] _ dX0_behindToken_61 rfl m_X6_byteAt l_X0_39 rfl rfl rfl (by decide) (c_byteAt hY hT _ (by omega)) rfl (Nat.le_of_ble_eq_true rfl) (by decide) (fun v61 μ61 ρ61 hc9 => ?_)
      obtain ⟨rfl, rfl, rfl⟩ := hc9
      refine g_Si 67 [_] _ dX0_behindToken_64 rfl m_X0_isDigit l_X0_101 rfl (c_digit _) rfl (Nat.le_of_ble_eq_true rfl) (by decide) (fun v64 μ64 ρ64 hc9 => ?_)
      obtain ⟨rfl, rfl, rfl⟩ := hc9
      refine g_if_eq 76 70 dX0_behindToken_67 rfl (by decide) (fun h67 => ?_) (fun h67 => ?_)
      · refine g_iload_n 77 dX0_behindToken_76 rfl rfl ?_
        exact g_ri dX0_behindToken_77 rfl rfl ⟨by rw [q_sd, if_neg (q_b_0.mp h67)], rfl, rfl⟩
      · refine g_iinc 73 (_ + 1) dX0_behindToken_70 rfl rfl rfl (by decide) ?_
        refine g_goto 51 dX0_behindToken_73 (by decide) ?_
        rw [nI_1]
        refine g_lv [(0, _), (2, _)] rfl ?_
        have h9 := ih (i + 1) (by omega)
        rw [q_sd, if_pos (q_b_n.mp h67)]
        exact h9
set_option maxRecDepth 100000 in
set_option maxHeartbeats 4000000 in
theorem c_te (hY : q_TY Y L) (hT : q_TC μ Y L) {s : Nat} (hs : s < L) : q_Ct C l FX0_behindToken 2 142 142 [.ref (q_a C 8), .int (nI s)] μ (q_ρ b) (q_is (nI (q_te Y L s)) μ (q_ρ b)) := by
  refine q_entry rfl (by decide) (Nat.le_of_ble_eq_true rfl) ?_
  refine g_lv [(0, _), (1, _)] rfl ?_
  refine g_iload_n 1 dX0_behindToken_0 rfl rfl ?_
  refine g_iconst 2 1 dX0_behindToken_1 rfl (by decide) ?_
  refine g_iadd 3 dX0_behindToken_2 rfl ?_
  rw [nI_1]
  have hL9 := hY.1
  refine g_istore_n 4 dX0_behindToken_3 rfl (by decide) ?_
  refine g_aload_n 5 dX0_behindToken_4 rfl rfl ?_
  refine g_iload_n 6 dX0_behindToken_5 rfl rfl ?_
  refine g_Vi 9 [_] _ dX0_behindToken_6 rfl m_X6_byteAt l_X0_39 rfl rfl rfl (by decide) (c_byteAt hY hT _ (by omega)) rfl (Nat.le_of_ble_eq_true rfl) (by decide) (fun v6 μ6 ρ6 hc9 => ?_)
  obtain ⟨rfl, rfl, rfl⟩ := hc9
  refine g_Si 12 [_] _ dX0_behindToken_9 rfl m_X0_isLetter l_X0_98 rfl (c_letter _) rfl (Nat.le_of_ble_eq_true rfl) (by decide) (fun v9 μ9 ρ9 hc9 => ?_)
  obtain ⟨rfl, rfl, rfl⟩ := hc9
  refine g_if_eq 40 15 dX0_behindToken_12 rfl (by decide) (fun h12 => ?_) (fun h12 => ?_)
  · refine g_aload_n 41 dX0_behindToken_40 rfl rfl ?_
    refine g_iload_n 42 dX0_behindToken_41 rfl rfl ?_
    refine g_Vi 45 [_] _ dX0_behindToken_42 rfl m_X6_byteAt l_X0_39 rfl rfl rfl (by decide) (c_byteAt hY hT _ (by omega)) rfl (Nat.le_of_ble_eq_true rfl) (by decide) (fun v42 μ42 ρ42 hc9 => ?_)
    obtain ⟨rfl, rfl, rfl⟩ := hc9
    refine g_Si 48 [_] _ dX0_behindToken_45 rfl m_X0_isDigit l_X0_101 rfl (c_digit _) rfl (Nat.le_of_ble_eq_true rfl) (by decide) (fun v45 μ45 ρ45 hc9 => ?_)
    obtain ⟨rfl, rfl, rfl⟩ := hc9
    refine g_if_eq 76 51 dX0_behindToken_48 rfl (by decide) (fun h48 => ?_) (fun h48 => ?_)
    · refine g_iload_n 77 dX0_behindToken_76 rfl rfl ?_
      exact g_ri dX0_behindToken_77 rfl rfl ⟨by rw [q_te, if_neg (q_b_0.mp h12), if_neg (q_b_0.mp h48)], rfl, rfl⟩
    · rw [q_te, if_neg (q_b_0.mp h12), if_pos (q_b_n.mp h48)]
      refine g_lv [(0, _), (2, _)] rfl ?_
      exact lp_tdg hY hT _ (s + 1) (by omega)
  · rw [q_te, if_pos (q_b_n.mp h12)]
    refine g_lv [(0, _), (2, _)] rfl ?_
    exact lp_tlt hY hT _ (s + 1) (by omega)
set_option maxRecDepth 100000 in
set_option maxHeartbeats 4000000 in
theorem lp_wd (hY : q_TY Y L) (hT : q_TC μ Y L) {s i : Nat} (hs : s < L) (hi : i < 4) : ∀ k j, j + k = q_kn.getD i 0 → q_G C l FX0_isWord 4 142 142 (q_is (q_b (q_ws Y s i k j = true)) μ (q_ρ b)) 142 μ (q_ρ b) [(0, .ref (q_a C 8)), (1, .int (nI s)), (3, .ref (q_x C (2 + i))), (4, .int (nI j))] [] 15 := by
  intro k
  induction k with
  | zero =>
    intro j hK9
    refine g_iload 17 dX0_isWord_15 rfl rfl ?_
    refine g_aload_n 18 dX0_isWord_17 rfl rfl ?_
    refine g_Vsi 21 i hi [] _ dX0_isWord_18 rfl m_J0_length_8abf5 l_X0_104 rfl rfl (c_slen hi) rfl (Nat.le_of_ble_eq_true rfl) (by decide) (fun v18 μ18 ρ18 hc9 => ?_)
    obtain ⟨rfl, rfl, rfl⟩ := hc9
    refine g_icmp_ge 49 24 dX0_isWord_21 rfl (by decide) (fun h21 => ?_) (fun h21 => ?_)
    · refine g_iconst 50 1 dX0_isWord_49 rfl (by decide) ?_
      exact g_rz dX0_isWord_50 rfl (by first | exact Or.inl rfl | exact Or.inr rfl | assumption) rfl ⟨q_b_t rfl, rfl, rfl⟩
    · exact absurd (nI_le (by omega) (by have := q_knl hi; omega)) h21
  | succ k ih =>
    intro j hK9
    refine g_iload 17 dX0_isWord_15 rfl rfl ?_
    refine g_aload_n 18 dX0_isWord_17 rfl rfl ?_
    refine g_Vsi 21 i hi [] _ dX0_isWord_18 rfl m_J0_length_8abf5 l_X0_104 rfl rfl (c_slen hi) rfl (Nat.le_of_ble_eq_true rfl) (by decide) (fun v18 μ18 ρ18 hc9 => ?_)
    obtain ⟨rfl, rfl, rfl⟩ := hc9
    refine g_icmp_ge 49 24 dX0_isWord_21 rfl (by decide) (fun h21 => ?_) (fun h21 => ?_)
    · exact absurd h21 (nI_ge (by omega) (by have := q_knl hi; omega))
    · refine g_aload_n 25 dX0_isWord_24 rfl rfl ?_
      refine g_iload_n 26 dX0_isWord_25 rfl rfl ?_
      refine g_iload 28 dX0_isWord_26 rfl rfl ?_
      refine g_iadd 29 dX0_isWord_28 rfl ?_
      have hL9 := hY.1
      have hk9 := q_knl hi
      rw [nI_add]
      refine g_Vi 32 [_] _ dX0_isWord_29 rfl m_X6_byteAt l_X0_39 rfl rfl rfl (by decide) (c_byteAt hY hT _ (by omega)) rfl (Nat.le_of_ble_eq_true rfl) (by decide) (fun v29 μ29 ρ29 hc9 => ?_)
      obtain ⟨rfl, rfl, rfl⟩ := hc9
      refine g_aload_n 33 dX0_isWord_32 rfl rfl ?_
      refine g_iload 35 dX0_isWord_33 rfl rfl ?_
      refine g_Vsi 38 i hi [_] _ dX0_isWord_35 rfl m_J0_charAt_5068e l_X0_109 rfl rfl (c_schar hi (j := j) (by omega)) rfl (Nat.le_of_ble_eq_true rfl) (by decide) (fun v35 μ35 ρ35 hc9 => ?_)
      obtain ⟨rfl, rfl, rfl⟩ := hc9
      refine g_icmp_eq 43 41 dX0_isWord_38 rfl (by decide) (fun h38 => ?_) (fun h38 => ?_)
      · refine g_iinc 46 (_ + 1) dX0_isWord_43 rfl rfl rfl (by decide) ?_
        refine g_goto 15 dX0_isWord_46 (by decide) ?_
        rw [nI_1]
        refine g_lv [(0, _), (1, _), (3, _), (4, _)] rfl ?_
        have h9 := ih (j + 1) (by omega)
        rw [show q_b (q_ws Y s i (k + 1) j = true) = q_b (q_ws Y s i k (j + 1) = true) from by rw [q_ws]; simp only [if_pos h38]]
        exact h9
      · refine g_iconst 42 0 dX0_isWord_41 rfl (by decide) ?_
        exact g_rz dX0_isWord_42 rfl (by first | exact Or.inl rfl | exact Or.inr rfl | assumption) rfl ⟨q_b_f (by rw [q_ws, if_neg h38]; decide), rfl, rfl⟩
set_option maxRecDepth 100000 in
set_option maxHeartbeats 4000000 in
theorem c_wd (hY : q_TY Y L) (hT : q_TC μ Y L) {s e i : Nat} (hs : s < L) (he : s ≤ e) (heL : e ≤ L) (hi : i < 4) : q_Ct C l FX0_isWord 4 142 142 [.ref (q_a C 8), .int (nI s), .int (nI e), .ref (q_x C (2 + i))] μ (q_ρ b) (q_is (q_b (q_wd Y s e i)) μ (q_ρ b)) := by
  refine q_entry rfl (by decide) (Nat.le_of_ble_eq_true rfl) ?_
  refine g_lv [(0, _), (1, _), (2, _), (3, _)] rfl ?_
  refine g_iload_n 1 dX0_isWord_0 rfl rfl ?_
  refine g_iload_n 2 dX0_isWord_1 rfl rfl ?_
  refine g_isub 3 dX0_isWord_2 rfl ?_
  refine g_aload_n 4 dX0_isWord_3 rfl rfl ?_
  refine g_Vsi 7 i hi [] _ dX0_isWord_4 rfl m_J0_length_8abf5 l_X0_104 rfl rfl (c_slen hi) rfl (Nat.le_of_ble_eq_true rfl) (by decide) (fun v4 μ4 ρ4 hc9 => ?_)
  obtain ⟨rfl, rfl, rfl⟩ := hc9
  have hL9 := hY.1
  have hk9 := q_knl hi
  rw [pk_sub he]
  refine g_icmp_eq 12 10 dX0_isWord_7 rfl (by decide) (fun h7 => ?_) (fun h7 => ?_)
  · refine g_iconst 13 0 dX0_isWord_12 rfl (by decide) ?_
    refine g_istore 15 dX0_isWord_13 rfl (by decide) ?_
    have h8 := (nI_eq (by omega) (by omega)).mp h7
    refine g_lv [(0, _), (1, _), (3, _), (4, .int 0)] rfl ?_
    rw [show q_b (q_wd Y s e i) = q_b (q_ws Y s i (q_kn.getD i 0) 0 = true) from q_b_iff ⟨fun q => q.2, fun q => ⟨h8, q⟩⟩]
    exact lp_wd hY hT hs hi _ 0 (by omega)
  · refine g_iconst 11 0 dX0_isWord_10 rfl (by decide) ?_
    exact g_rz dX0_isWord_11 rfl (by first | exact Or.inl rfl | exact Or.inr rfl | assumption) rfl ⟨q_b_f (fun q => h7 ((nI_eq (by omega) (by omega)).mpr q.1)), rfl, rfl⟩
set_option maxRecDepth 100000 in
set_option maxHeartbeats 4000000 in
theorem lp_nu (hY : q_TY Y L) (hT : q_TC μ Y L) {e : Nat} (heL : e ≤ L) : ∀ k p, p + k = e → ∀ a : Int32, q_G C l FX0_numberOf 2 142 142 (q_is (q_nv Y k p a) μ (q_ρ b)) 142 μ (q_ρ b) [(0, .ref (q_a C 8)), (2, .int (nI e)), (3, .int a), (4, .int (nI p))] [] 25 := by
  intro k
  induction k with
  | zero =>
    intro p hK9 a
    refine g_iload 27 dX0_numberOf_25 rfl rfl ?_
    refine g_iload_n 28 dX0_numberOf_27 rfl rfl ?_
    refine g_icmp_ge 52 31 dX0_numberOf_28 rfl (by decide) (fun h28 => ?_) (fun h28 => ?_)
    · refine g_iload_n 53 dX0_numberOf_52 rfl rfl ?_
      exact g_ri dX0_numberOf_53 rfl rfl ⟨rfl, rfl, rfl⟩
    · exact absurd (nI_le (by omega) (by have := hY.1; omega)) h28
  | succ k ih =>
    intro p hK9 a
    refine g_iload 27 dX0_numberOf_25 rfl rfl ?_
    refine g_iload_n 28 dX0_numberOf_27 rfl rfl ?_
    refine g_icmp_ge 52 31 dX0_numberOf_28 rfl (by decide) (fun h28 => ?_) (fun h28 => ?_)
    · exact absurd h28 (nI_ge (by omega) (by have := hY.1; omega))
    · have hL9 := hY.1
      refine g_bipush 33 10 dX0_numberOf_31 rfl (by decide) ?_
      refine g_iload_n 34 dX0_numberOf_33 rfl rfl ?_
      refine g_imul 35 dX0_numberOf_34 rfl ?_
      refine g_aload_n 36 dX0_numberOf_35 rfl rfl ?_
      refine g_iload 38 dX0_numberOf_36 rfl rfl ?_
      refine g_Vi 41 [_] _ dX0_numberOf_38 rfl m_X6_byteAt l_X0_39 rfl rfl rfl (by decide) (c_byteAt hY hT _ (by omega)) rfl (Nat.le_of_ble_eq_true rfl) (by decide) (fun v38 μ38 ρ38 hc9 => ?_)
      obtain ⟨rfl, rfl, rfl⟩ := hc9
      refine g_bipush 43 48 dX0_numberOf_41 rfl (by decide) ?_
      refine g_isub 44 dX0_numberOf_43 rfl ?_
      refine g_iadd 45 dX0_numberOf_44 rfl ?_
      refine g_istore_n 46 dX0_numberOf_45 rfl (by decide) ?_
      refine g_iinc 49 (_ + 1) dX0_numberOf_46 rfl rfl rfl (by decide) ?_
      refine g_goto 25 dX0_numberOf_49 (by decide) ?_
      rw [nI_1]
      refine g_lv [(0, _), (2, _), (3, _), (4, _)] rfl ?_
      exact ih (p + 1) (by omega) _
set_option maxRecDepth 100000 in
set_option maxHeartbeats 4000000 in
theorem c_nu (hY : q_TY Y L) (hT : q_TC μ Y L) {s e : Nat} (hs : s < L) (he : s ≤ e) (heL : e ≤ L) : q_Ct C l FX0_numberOf 2 142 142 [.ref (q_a C 8), .int (nI s), .int (nI e)] μ (q_ρ b) (q_is (q_nu Y s e) μ (q_ρ b)) := by
  refine q_entry rfl (by decide) (Nat.le_of_ble_eq_true rfl) ?_
  refine g_lv [(0, _), (1, _), (2, _)] rfl ?_
  have hL9 := hY.1
  refine g_aload_n 1 dX0_numberOf_0 rfl rfl ?_
  refine g_iload_n 2 dX0_numberOf_1 rfl rfl ?_
  refine g_Vi 5 [_] _ dX0_numberOf_2 rfl m_X6_byteAt l_X0_39 rfl rfl rfl (by decide) (c_byteAt hY hT _ (by omega)) rfl (Nat.le_of_ble_eq_true rfl) (by decide) (fun v2 μ2 ρ2 hc9 => ?_)
  obtain ⟨rfl, rfl, rfl⟩ := hc9
  refine g_Si 8 [_] _ dX0_numberOf_5 rfl m_X0_isDigit l_X0_101 rfl (c_digit _) rfl (Nat.le_of_ble_eq_true rfl) (by decide) (fun v5 μ5 ρ5 hc9 => ?_)
  obtain ⟨rfl, rfl, rfl⟩ := hc9
  refine g_if_eq 18 11 dX0_numberOf_8 rfl (by decide) (fun h8 => ?_) (fun h8 => ?_)
  · refine g_iconst 19 (-1) dX0_numberOf_18 rfl (by decide) ?_
    exact g_ri dX0_numberOf_19 rfl rfl ⟨by rw [q_nu, if_neg (fun q => (q_b_0.mp h8) q.1)], rfl, rfl⟩
  · refine g_iload_n 12 dX0_numberOf_11 rfl rfl ?_
    refine g_iload_n 13 dX0_numberOf_12 rfl rfl ?_
    refine g_isub 14 dX0_numberOf_13 rfl ?_
    rw [pk_sub he]
    refine g_iconst 15 3 dX0_numberOf_14 rfl (by decide) ?_
    refine g_icmp_le 20 18 dX0_numberOf_15 rfl (by decide) (fun h15 => ?_) (fun h15 => ?_)
    · refine g_iconst 21 0 dX0_numberOf_20 rfl (by decide) ?_
      refine g_istore_n 22 dX0_numberOf_21 rfl (by decide) ?_
      refine g_iload_n 23 dX0_numberOf_22 rfl rfl ?_
      refine g_istore 25 dX0_numberOf_23 rfl (by decide) ?_
      have h14 := (nI_leI (a := e - s) (b := 3) (by omega) (by omega)).mp h15
      refine g_lv [(0, _), (2, _), (3, .int 0), (4, _)] rfl ?_
      rw [q_nu, if_pos ⟨q_b_n.mp h8, h14⟩]
      exact lp_nu hY hT heL (e - s) s (by omega) 0
    · refine g_iconst 19 (-1) dX0_numberOf_18 rfl (by decide) ?_
      exact g_ri dX0_numberOf_19 rfl rfl ⟨by rw [q_nu, if_neg (fun q => h15 (nI_le (a := e - s) (b := 3) q.2 (by omega)))], rfl, rfl⟩
def q_cl (μ : q_M) (r k : Nat) : q_M := fun c j => if c = r + 1 ∧ j < k then 0 else μ c j
theorem q_cl_0 {μ : q_M} {r : Nat} : q_cl μ r 0 = μ := by funext c j; simp [q_cl]
theorem q_cl_s {μ : q_M} {r k : Nat} : q_up (q_cl μ r k) (r + 1) k 0 = q_cl μ r (k + 1) := by
  funext c j
  unfold q_up q_cl
  by_cases h : c = r + 1 ∧ j = k
  · rw [if_pos h, if_pos (by omega)]
  · rw [if_neg h]
    by_cases h2 : c = r + 1 ∧ j < k
    · rw [if_pos h2, if_pos (by omega)]
    · rw [if_neg h2, if_neg (by omega)]
theorem q_cl_RB {μ : q_M} {r : Nat} : q_RB r (q_up (q_cl μ r 7) r 4 0) q_B0 := by
  refine ⟨fun i hi => ?_, fun i hi j hj => absurd hj (Nat.not_lt_zero _), ?_⟩
  · rw [q_upc (by omega)]
    exact if_pos ⟨rfl, hi⟩
  · rw [q_ups]; rfl
set_option maxRecDepth 100000 in
set_option maxHeartbeats 4000000 in
theorem lp_clear {r : Nat} (hr : r = 70 ∨ r = 96) : ∀ k i, i + k = 7 → q_G C l FX5_clear 0 142 142 (q_to (q_up (q_cl μ r 7) r 4 0) (q_ρ b)) 142 (q_cl μ r i) (q_ρ b) [(0, .ref (q_a C r)), (1, .int (nI i))] [] 2 := by
  intro k
  induction k with
  | zero =>
    intro i hK9
    rcases hr with rfl | rfl
    all_goals
      refine g_iload_n 3 dX5_clear_2 rfl rfl ?_
      refine g_bipush 5 7 dX5_clear_3 rfl (by decide) ?_
      refine g_icmp_ge 21 8 dX5_clear_5 rfl (by decide) (fun h5 => ?_) (fun h5 => ?_)
      · refine g_aload_n 22 dX5_clear_21 rfl rfl ?_
        refine g_iconst 23 0 dX5_clear_22 rfl (by decide) ?_
        refine g_putI 26 dX5_clear_23 rfl f_X5_26 (by decide) rfl rfl (Or.inl rfl) ?_
        exact g_rv dX5_clear_26 rfl rfl ⟨by rw [show i = 7 by omega], rfl⟩
      · exact absurd (nI_le (a := 7) (b := i) (by omega) (by omega)) h5
  | succ k ih =>
    intro i hK9
    rcases hr with rfl | rfl
    all_goals
      refine g_iload_n 3 dX5_clear_2 rfl rfl ?_
      refine g_bipush 5 7 dX5_clear_3 rfl (by decide) ?_
      refine g_icmp_ge 21 8 dX5_clear_5 rfl (by decide) (fun h5 => ?_) (fun h5 => ?_)
      · exact absurd h5 (nI_ge (a := i) (b := 7) (by omega) (by omega))
      · refine g_aload_n 9 dX5_clear_8 rfl rfl ?_
        refine g_getR 12 _ dX5_clear_9 rfl f_X5_9 (by decide) rfl rfl rfl ?_
        refine g_iload_n 13 dX5_clear_12 rfl rfl ?_
        refine g_iconst 14 0 dX5_clear_13 rfl (by decide) ?_
        refine g_iast 15 dX5_clear_14 rfl (by decide) rfl (vp_in_nI (show i < 7 by omega) (by omega)) ?_
        refine g_iinc 18 (_ + 1) dX5_clear_15 rfl rfl rfl (by decide) ?_
        refine g_goto 2 dX5_clear_18 (by decide) ?_
        rw [nI_clamp (show i < 2 ^ 31 by omega), nI_1]
        refine g_lv [(0, _), (1, _)] rfl ?_
        have h9 := ih (i + 1) (by omega)
        rw [← q_cl_s (k := i)] at h9
        exact h9
set_option maxRecDepth 100000 in
set_option maxHeartbeats 4000000 in
theorem c_clear {r : Nat} (hr : r = 70 ∨ r = 96) : q_Ct C l FX5_clear 0 142 142 [.ref (q_a C r)] μ (q_ρ b) (q_to (q_up (q_cl μ r 7) r 4 0) (q_ρ b)) := by
  refine q_entry rfl (by decide) (Nat.le_of_ble_eq_true rfl) ?_
  refine g_lv [(0, _)] rfl ?_
  refine g_iconst 1 0 dX5_clear_0 rfl (by decide) ?_
  refine g_istore_n 2 dX5_clear_1 rfl (by decide) ?_
  refine g_lv [(0, _), (1, .int 0)] rfl ?_
  have h9 := lp_clear (C := C) (l := l) (μ := μ) (b := b) hr 7 0 (by omega)
  rw [q_cl_0] at h9
  exact h9
set_option maxRecDepth 100000 in
set_option maxHeartbeats 4000000 in
theorem c_full {r i K : Nat} (hr : r = 70 ∨ r = 96) (hi7 : i < 7) (hK : K ≤ 4) (hc : μ (r + 1) i = nI K) : q_Ct C l FX5_isFull 2 142 142 [.ref (q_a C r), .int (nI i)] μ (q_ρ b) (q_is (q_b (4 ≤ K)) μ (q_ρ b)) := by
  refine q_entry rfl (by decide) (Nat.le_of_ble_eq_true rfl) ?_
  refine g_lv [(0, _), (1, _)] rfl ?_
  rcases hr with rfl | rfl
  all_goals
    refine g_iload_n 1 dX5_isFull_0 rfl rfl ?_
    refine g_SNi 4 [_] _ dX5_isFull_1 rfl m_X7_isStage l_X5_30 rfl (c_isStage _) rfl (Nat.le_of_ble_eq_true rfl) (by decide) (fun v1 μ1 ρ1 hc9 => ?_)
    obtain ⟨rfl, rfl, rfl⟩ := hc9
    refine g_if_eq 17 7 dX5_isFull_4 rfl (by decide) (fun h4 => ?_) (fun h4 => ?_)
    · exact (q_b_0.mp h4 ⟨nI_pos' (by omega), (nI_leI (a := i) (b := 6) (by omega) (by omega)).mpr (by omega)⟩).elim
    · refine g_aload_n 8 dX5_isFull_7 rfl rfl ?_
      refine g_getR 11 _ dX5_isFull_8 rfl f_X5_9 (by decide) rfl rfl rfl ?_
      refine g_iload_n 12 dX5_isFull_11 rfl rfl ?_
      refine g_iald 13 dX5_isFull_12 rfl (by decide) rfl (vp_in_nI hi7 (by omega)) ?_
      rw [nI_clamp (show i < 2 ^ 31 by omega)]
      rw [show μ _ i = nI K from hc]
      refine g_iconst 14 4 dX5_isFull_13 rfl (by decide) ?_
      refine g_icmp_lt 21 17 dX5_isFull_14 rfl (by decide) (fun h14 => ?_) (fun h14 => ?_)
      · refine g_iconst 22 0 dX5_isFull_21 rfl (by decide) ?_
        exact g_rz dX5_isFull_22 rfl (by first | exact Or.inl rfl | exact Or.inr rfl | assumption) rfl ⟨q_b_f (fun q => absurd ((nI_ltI (a := K) (b := 4) (by omega) (by omega)).mp h14) (by omega)), rfl, rfl⟩
      · refine g_iconst 18 1 dX5_isFull_17 rfl (by decide) ?_
        refine g_goto 22 dX5_isFull_18 (by decide) ?_
        exact g_rz dX5_isFull_22 rfl (by first | exact Or.inl rfl | exact Or.inr rfl | assumption) rfl ⟨q_b_t (Nat.not_lt.mp (fun q => h14 (nI_lt (a := K) (b := 4) q (by omega)))), rfl, rfl⟩
set_option maxRecDepth 100000 in
set_option maxHeartbeats 4000000 in
theorem c_reach {r i K : Nat} (hr : r = 70 ∨ r = 96) (hi7 : i < 7) (hK : K ≤ 4) (hc : μ (r + 1) i = nI K) : q_Ct C l FX5_reach 2 142 142 [.ref (q_a C r), .int (nI i)] μ (q_ρ b) (q_is (if K = 0 then 0 else μ (r + 11 + i) (K - 1)) μ (q_ρ b)) := by
  refine q_entry rfl (by decide) (Nat.le_of_ble_eq_true rfl) ?_
  refine g_lv [(0, _), (1, _)] rfl ?_
  rcases hr with rfl | rfl
  all_goals
    refine g_iload_n 1 dX5_reach_0 rfl rfl ?_
    refine g_SNi 4 [_] _ dX5_reach_1 rfl m_X7_isStage l_X5_30 rfl (c_isStage _) rfl (Nat.le_of_ble_eq_true rfl) (by decide) (fun v1 μ1 ρ1 hc9 => ?_)
    obtain ⟨rfl, rfl, rfl⟩ := hc9
    refine g_if_eq 21 7 dX5_reach_4 rfl (by decide) (fun h4 => ?_) (fun h4 => ?_)
    · exact (q_b_0.mp h4 ⟨nI_pos' (by omega), (nI_leI (a := i) (b := 6) (by omega) (by omega)).mpr (by omega)⟩).elim
    · refine g_aload_n 8 dX5_reach_7 rfl rfl ?_
      refine g_getR 11 _ dX5_reach_8 rfl f_X5_9 (by decide) rfl rfl rfl ?_
      refine g_iload_n 12 dX5_reach_11 rfl rfl ?_
      refine g_iald 13 dX5_reach_12 rfl (by decide) rfl (vp_in_nI hi7 (by omega)) ?_
      rw [nI_clamp (show i < 2 ^ 31 by omega)]
      rw [show μ _ i = nI K from hc]
      refine g_iconst 14 1 dX5_reach_13 rfl (by decide) ?_
      refine g_iconst 15 4 dX5_reach_14 rfl (by decide) ?_
      refine g_SNi 18 [_, _, _] _ dX5_reach_15 rfl m_X7_within l_X5_34 rfl (c_within _ _ _) rfl (Nat.le_of_ble_eq_true rfl) (by decide) (fun v15 μ15 ρ15 hc9 => ?_)
      obtain ⟨rfl, rfl, rfl⟩ := hc9
      refine g_if_ne 23 21 dX5_reach_18 rfl (by decide) (fun h18 => ?_) (fun h18 => ?_)
      · have hK1 : 1 ≤ K := ((q_inN (a := 1) (b := 4) (by omega) (by omega) (by omega)).mp (q_b_n.mp h18)).1
        refine g_aload_n 24 dX5_reach_23 rfl rfl ?_
        refine g_getR 27 _ dX5_reach_24 rfl f_X5_20 (by decide) rfl rfl rfl ?_
        refine g_iload_n 28 dX5_reach_27 rfl rfl ?_
        refine g_aald 29 _ dX5_reach_28 rfl (by decide) rfl (vp_in_nI hi7 (by omega)) rfl ?_
        rw [nI_clamp (show i < 2 ^ 31 by omega)]
        refine g_aload_n 30 dX5_reach_29 rfl rfl ?_
        refine g_getR 33 _ dX5_reach_30 rfl f_X5_9 (by decide) rfl rfl rfl ?_
        refine g_iload_n 34 dX5_reach_33 rfl rfl ?_
        refine g_iald 35 dX5_reach_34 rfl (by decide) rfl (vp_in_nI hi7 (by omega)) ?_
        rw [nI_clamp (show i < 2 ^ 31 by omega)]
        rw [show μ _ i = nI K from hc]
        refine g_iconst 36 1 dX5_reach_35 rfl (by decide) ?_
        refine g_isub 37 dX5_reach_36 rfl ?_
        rw [show nI K - 1 = nI (K - 1) from pk_sub (b := 1) hK1]
        refine g_iald 38 dX5_reach_37 rfl (by omega) (by first | exact k_81 i hi7 | exact k_107 i hi7) (vp_in_nI (show K - 1 < 4 by omega) (by omega)) ?_
        rw [nI_clamp (show K - 1 < 2 ^ 31 by omega)]
        exact g_ri dX5_reach_38 rfl rfl ⟨by rw [if_neg (show ¬ K = 0 by omega)], rfl, rfl⟩
      · refine g_iconst 22 0 dX5_reach_21 rfl (by decide) ?_
        exact g_ri dX5_reach_22 rfl rfl ⟨by rw [if_pos (show K = 0 from Nat.eq_zero_of_not_pos (fun q => (q_b_0.mp h18) ((q_inN (a := 1) (b := 4) (by omega) (by omega) (by omega)).mpr ⟨q, hK⟩)))], rfl, rfl⟩
set_option maxRecDepth 100000 in
set_option maxHeartbeats 4000000 in
theorem c_add {r i K : Nat} {x y z : Int32} (hr : r = 70 ∨ r = 96) (hi7 : i < 7) (hK : K < 4) (hc : μ (r + 1) i = nI K) : q_Ct C l FX5_add 3 142 142 [.ref (q_a C r), .int (nI i), .int x, .int y, .int z] μ (q_ρ b) (q_to (q_up (q_up (q_up (q_up (q_up μ (r + 3 + i) K x) (r + 11 + i) K y) (r + 19 + i) K z) (r + 1) i (nI (K + 1))) r 4 (μ r 4 + 1)) (q_ρ b)) := by
  refine q_entry rfl (by decide) (Nat.le_of_ble_eq_true rfl) ?_
  refine g_lv [(0, _), (1, _), (2, _), (3, _), (4, _)] rfl ?_
  rcases hr with rfl | rfl
  all_goals
    refine g_aload_n 1 dX5_add_0 rfl rfl ?_
    refine g_iload_n 2 dX5_add_1 rfl rfl ?_
    refine g_Vi 5 [_] _ dX5_add_2 rfl m_X5_isFull l_X5_38 rfl rfl rfl (by decide) (c_full (by first | exact Or.inl rfl | exact Or.inr rfl) hi7 (show K ≤ 4 by omega) hc) rfl (Nat.le_of_ble_eq_true rfl) (by decide) (fun v2 μ2 ρ2 hc9 => ?_)
    obtain ⟨rfl, rfl, rfl⟩ := hc9
    refine g_if_eq 9 8 dX5_add_5 rfl (by decide) (fun h5 => ?_) (fun h5 => ?_)
    · refine g_aload_n 10 dX5_add_9 rfl rfl ?_
      refine g_getR 13 _ dX5_add_10 rfl f_X5_9 (by decide) rfl rfl rfl ?_
      refine g_iload_n 14 dX5_add_13 rfl rfl ?_
      refine g_iald 15 dX5_add_14 rfl (by decide) rfl (vp_in_nI hi7 (by omega)) ?_
      rw [nI_clamp (show i < 2 ^ 31 by omega)]
      rw [show μ _ i = nI K from hc]
      refine g_istore 17 dX5_add_15 rfl (by decide) ?_
      refine g_aload_n 18 dX5_add_17 rfl rfl ?_
      refine g_getR 21 _ dX5_add_18 rfl f_X5_17 (by decide) rfl rfl rfl ?_
      refine g_iload_n 22 dX5_add_21 rfl rfl ?_
      refine g_aald 23 _ dX5_add_22 rfl (by decide) rfl (vp_in_nI hi7 (by omega)) rfl ?_
      rw [nI_clamp (show i < 2 ^ 31 by omega)]
      refine g_iload 25 dX5_add_23 rfl rfl ?_
      refine g_iload_n 26 dX5_add_25 rfl rfl ?_
      refine g_iast 27 dX5_add_26 rfl (by omega) (by first | exact k_73 i hi7 | exact k_99 i hi7) (vp_in_nI (show K < 4 by omega) (by omega)) ?_
      rw [nI_clamp (show K < 2 ^ 31 by omega)]
      refine g_aload_n 28 dX5_add_27 rfl rfl ?_
      refine g_getR 31 _ dX5_add_28 rfl f_X5_20 (by decide) rfl rfl rfl ?_
      refine g_iload_n 32 dX5_add_31 rfl rfl ?_
      refine g_aald 33 _ dX5_add_32 rfl (by decide) rfl (vp_in_nI hi7 (by omega)) rfl ?_
      rw [nI_clamp (show i < 2 ^ 31 by omega)]
      refine g_iload 35 dX5_add_33 rfl rfl ?_
      refine g_iload_n 36 dX5_add_35 rfl rfl ?_
      refine g_iast 37 dX5_add_36 rfl (by omega) (by first | exact k_81 i hi7 | exact k_107 i hi7) (vp_in_nI (show K < 4 by omega) (by omega)) ?_
      rw [nI_clamp (show K < 2 ^ 31 by omega)]
      refine g_aload_n 38 dX5_add_37 rfl rfl ?_
      refine g_getR 41 _ dX5_add_38 rfl f_X5_23 (by decide) rfl rfl rfl ?_
      refine g_iload_n 42 dX5_add_41 rfl rfl ?_
      refine g_aald 43 _ dX5_add_42 rfl (by decide) rfl (vp_in_nI hi7 (by omega)) rfl ?_
      rw [nI_clamp (show i < 2 ^ 31 by omega)]
      refine g_iload 45 dX5_add_43 rfl rfl ?_
      refine g_iload 47 dX5_add_45 rfl rfl ?_
      refine g_iast 48 dX5_add_47 rfl (by omega) (by first | exact k_89 i hi7 | exact k_115 i hi7) (vp_in_nI (show K < 4 by omega) (by omega)) ?_
      rw [nI_clamp (show K < 2 ^ 31 by omega)]
      refine g_aload_n 49 dX5_add_48 rfl rfl ?_
      refine g_getR 52 _ dX5_add_49 rfl f_X5_9 (by decide) rfl rfl rfl ?_
      refine g_iload_n 53 dX5_add_52 rfl rfl ?_
      refine g_dup2 54 dX5_add_53 rfl rfl rfl ?_
      refine g_iald 55 dX5_add_54 rfl (by decide) rfl (vp_in_nI hi7 (by omega)) ?_
      rw [nI_clamp (show i < 2 ^ 31 by omega)]
      rw [q_upc (by omega), q_upc (by omega), q_upc (by omega), show μ _ i = nI K from hc]
      refine g_iconst 56 1 dX5_add_55 rfl (by decide) ?_
      refine g_iadd 57 dX5_add_56 rfl ?_
      rw [nI_1]
      refine g_iast 58 dX5_add_57 rfl (by decide) rfl (vp_in_nI hi7 (by omega)) ?_
      rw [nI_clamp (show i < 2 ^ 31 by omega)]
      refine g_aload_n 59 dX5_add_58 rfl rfl ?_
      refine g_dup 60 dX5_add_59 rfl rfl ?_
      refine g_getI 63 dX5_add_60 rfl f_X5_26 (by decide) rfl rfl ?_
      rw [q_upc (by omega), q_upc (by omega), q_upc (by omega), q_upc (by omega)]
      refine g_iconst 64 1 dX5_add_63 rfl (by decide) ?_
      refine g_iadd 65 dX5_add_64 rfl ?_
      refine g_putI 68 dX5_add_65 rfl f_X5_26 (by decide) rfl rfl (Or.inl rfl) ?_
      exact g_rv dX5_add_68 rfl rfl ⟨rfl, rfl⟩
    · exact absurd (q_b_n.mp h5) (by omega)
end RD
