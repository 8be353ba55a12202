/-! ===== times: both ways of summing give the same ===== -/
def t_n (lam : Nat) (f t : Nat → Nat) (z : Nat) : Nat := min (t z) lam - min (f z) lam
def t_c (a lam : Nat) (f t v : Nat → Nat) : Nat → Nat × Nat × Nat
  | 0 => (0, 1, lam)
  | z + 1 => ((t_c a lam f t v z).1 * min a (v z) + t_n lam f t z * 60 * (t_c a lam f t v z).2.1, (t_c a lam f t v z).2.1 * min a (v z), (t_c a lam f t v z).2.2 - t_n lam f t z)
def t_r (a lam : Nat) (f t v : Nat → Nat) : Nat → Nat × Nat × Nat
  | 0 => (0, a, lam)
  | z + 1 => if t_n lam f t z = 0 ∨ a ≤ v z then t_r a lam f t v z else ((t_r a lam f t v z).1 * v z + 60 * t_n lam f t z * (t_r a lam f t v z).2.1, (t_r a lam f t v z).2.1 * v z, (t_r a lam f t v z).2.2 - t_n lam f t z)
def t_Z (f t v : Nat → Nat) (k : Nat) : Prop := ∀ z, z < k → f z < t z ∧ t z ≤ 900 ∧ 10 ≤ v z ∧ v z ≤ 99 ∧ (z + 1 < k → t z ≤ f (z + 1))
def t_p (t : Nat → Nat) (k : Nat) : Nat := if k = 0 then 0 else t (k - 1)
theorem t_x (M a F D s n t : Nat) (h : t + s = a) : (M * s + n * 60 * D) * a + 60 * F * (D * s) = s * (M * a + 60 * (F + n) * D) + 60 * n * D * t := by
  subst h
  grind
theorem t_y (X E Z D v n t : Nat) (h : X * E = Z * D) : (v * X + 60 * n * D * t) * (E * v) = (v * Z + 60 * n * E * t) * (D * v) := by
  grind
theorem t_w (A a P E v n t : Nat) (h : t + v = a) : (A * v + 60 * n * (a * E)) + 60 * P * (E * v) = v * (A + 60 * (P + n) * E) + 60 * n * E * t := by
  subst h
  grind
theorem t_y0 (X E Z D s : Nat) (h : X * E = Z * D) : (s * X) * E = Z * (D * s) := by
  grind
theorem t_b (M D s n x y : Nat) (h : M ≤ 6 * x * D) (hs : 10 ≤ s) (hy : y = x + n) : M * s + n * 60 * D ≤ 6 * y * (D * s) := by
  subst hy
  have h1 : M * s ≤ 6 * x * D * s := Nat.mul_le_mul_right s h
  have h2 : n * 60 * D ≤ 6 * n * D * s := by
    have h3 : 6 * n * D * 10 ≤ 6 * n * D * s := Nat.mul_le_mul_left _ hs
    have h4 : n * 60 * D = 6 * n * D * 10 := by grind
    omega
  have h5 : 6 * (x + n) * (D * s) = 6 * x * D * s + 6 * n * D * s := by grind
  omega
theorem t_i {a lam : Nat} {f t v : Nat → Nat} {K : Nat} (ha : 10 ≤ a) (hz : t_Z f t v K) : ∀ k, k ≤ K → ∃ E, (t_r a lam f t v k).2.1 = a * E ∧ 1 ≤ E ∧ E ≤ 99 ^ k ∧ 1 ≤ (t_c a lam f t v k).2.1 ∧ (t_c a lam f t v k).2.1 ≤ 99 ^ k ∧ (t_c a lam f t v k).2.2 ≤ lam ∧ lam ≤ (t_c a lam f t v k).2.2 + min (t_p t k) lam ∧ (t_c a lam f t v k).2.2 ≤ (t_r a lam f t v k).2.2 ∧ (t_r a lam f t v k).2.2 ≤ lam ∧ (t_c a lam f t v k).1 ≤ 6 * (lam - (t_c a lam f t v k).2.2) * (t_c a lam f t v k).2.1 ∧ (t_r a lam f t v k).1 ≤ 6 * (lam - (t_r a lam f t v k).2.2) * (a * E) ∧ ((t_c a lam f t v k).1 * a + 60 * (t_c a lam f t v k).2.2 * (t_c a lam f t v k).2.1) * E = ((t_r a lam f t v k).1 + 60 * (t_r a lam f t v k).2.2 * E) * (t_c a lam f t v k).2.1 := by
  intro k
  induction k with
  | zero =>
    intro _
    refine ⟨1, ?_⟩
    simp only [t_c, t_r, t_p, Nat.mul_one, Nat.pow_zero, Nat.le_refl, true_and, if_true, Nat.zero_mul, Nat.zero_add, Nat.zero_min, Nat.add_zero, Nat.zero_le]
  | succ k ih =>
    intro hk
    obtain ⟨E, e0, e1, e2, d1, d2, f1, f2, p1, p2, m1, a1, x1⟩ := ih (by omega)
    clear ih
    obtain ⟨z1, z2, z3, z4, z5⟩ := hz k (by omega)
    have hpf : t_p t k ≤ f k := by
      unfold t_p
      by_cases h0 : k = 0
      · rw [if_pos h0]; exact Nat.zero_le _
      · rw [if_neg h0]
        have := (hz (k - 1) (by omega)).2.2.2.2 (by omega)
        rw [show k - 1 + 1 = k by omega] at this
        exact this
    have hn : t_n lam f t k ≤ (t_c a lam f t v k).2.2 := by unfold t_n; omega
    have hF2 : lam ≤ (t_c a lam f t v k).2.2 - t_n lam f t k + min (t k) lam := by unfold t_n at hn ⊢; omega
    have hp' : t_p t (k + 1) = t k := by unfold t_p; rw [if_neg (by omega)]; rfl
    have hpw : 99 ^ (k + 1) = 99 ^ k * 99 := Nat.pow_succ _ _
    generalize hC : t_c a lam f t v k = c at *
    generalize hR : t_r a lam f t v k = r at *
    obtain ⟨M, D, F⟩ := c
    obtain ⟨A, G, Q⟩ := r
    have hc1 : t_c a lam f t v (k + 1) = (M * min a (v k) + t_n lam f t k * 60 * D, D * min a (v k), F - t_n lam f t k) := by
      rw [t_c, hC]
    dsimp only at *
    have hs1 : 10 ≤ min a (v k) := by omega
    have hs2 : min a (v k) ≤ 99 := by omega
    have hD1 : 1 ≤ D * min a (v k) := Nat.le_trans d1 (Nat.le_mul_of_pos_right D (by omega))
    have hD2 : D * min a (v k) ≤ 99 ^ k * 99 := Nat.mul_le_mul d2 hs2
    have hM := t_b M D (min a (v k)) (t_n lam f t k) (lam - F) (lam - (F - t_n lam f t k)) m1 hs1 (by omega)
    have hxc := t_x M a (F - t_n lam f t k) D (min a (v k)) (t_n lam f t k) (a - min a (v k)) (by omega)
    rw [show F - t_n lam f t k + t_n lam f t k = F by omega] at hxc
    by_cases hS : t_n lam f t k = 0 ∨ a ≤ v k
    · have hr1 : t_r a lam f t v (k + 1) = (A, G, Q) := by rw [t_r, if_pos hS, hR]
      refine ⟨E, ?_⟩
      rw [hc1, hr1, hp', hpw]
      dsimp only
      refine ⟨e0, e1, by omega, hD1, hD2, by omega, hF2, by omega, p2, hM, a1, ?_⟩
      rw [hxc]
      have h0 : 60 * t_n lam f t k * D * (a - min a (v k)) = 0 := by
        rcases hS with h | h
        · rw [h]; simp
        · rw [show a - min a (v k) = 0 by omega, Nat.mul_zero]
      rw [h0, Nat.add_zero]
      exact t_y0 _ _ _ _ _ x1
    · have hv : min a (v k) = v k := by omega
      have hr1 : t_r a lam f t v (k + 1) = (A * v k + 60 * t_n lam f t k * G, G * v k, Q - t_n lam f t k) := by rw [t_r, if_neg hS, hR]
      refine ⟨E * v k, ?_⟩
      rw [hc1, hr1, hp', hpw]
      dsimp only
      have hE2 : E * v k ≤ 99 ^ k * 99 := Nat.mul_le_mul e2 z4
      have hA := t_b A (a * E) (v k) (t_n lam f t k) (lam - Q) (lam - (Q - t_n lam f t k)) a1 z3 (by omega)
      refine ⟨by rw [e0, Nat.mul_assoc], Nat.le_trans e1 (Nat.le_mul_of_pos_right E (by omega)), hE2, hD1, hD2, by omega, hF2, by omega, by omega, hM, ?_, ?_⟩
      · rw [e0, show a * (E * v k) = a * E * v k by rw [Nat.mul_assoc], show 60 * t_n lam f t k * (a * E) = t_n lam f t k * 60 * (a * E) by rw [Nat.mul_comm 60]]
        exact hA
      · rw [hxc, hv, e0]
        have hw := t_w A a (Q - t_n lam f t k) E (v k) (t_n lam f t k) (a - v k) (by omega)
        rw [show Q - t_n lam f t k + t_n lam f t k = Q by omega] at hw
        rw [hw]
        exact t_y _ _ _ _ _ _ _ x1
theorem t_ce {X p : Nat} (hp : 0 < p) (c : Nat) : (X + p - 1) / p ≤ c ↔ X ≤ c * p := by
  have h1 : (X + p - 1) / p < c + 1 ↔ X + p - 1 < (c + 1) * p := Nat.div_lt_iff_lt_mul hp
  have h2 : (c + 1) * p = c * p + p := Nat.succ_mul c p
  constructor
  · intro h
    have := h1.mp (by omega)
    omega
  · intro h
    have := h1.mpr (by omega)
    omega
theorem t_eq {X Z p q : Nat} (hp : 0 < p) (hq : 0 < q) (h : X * q = Z * p) : (X + p - 1) / p = (Z + q - 1) / q := by
  have key : ∀ c, X ≤ c * p ↔ Z ≤ c * q := by
    intro c
    constructor
    · intro g
      have g1 : Z * p ≤ c * q * p := by
        rw [← h]
        have := Nat.mul_le_mul_right q g
        have e : c * p * q = c * q * p := by grind
        omega
      exact Nat.le_of_mul_le_mul_right g1 hp
    · intro g
      have g1 : X * q ≤ c * p * q := by
        rw [h]
        have := Nat.mul_le_mul_right p g
        have e : c * q * p = c * p * q := by grind
        omega
      exact Nat.le_of_mul_le_mul_right g1 hq
  apply Nat.le_antisymm
  · exact (t_ce hp _).mpr ((key _).mpr ((t_ce hq _).mp (Nat.le_refl _)))
  · exact (t_ce hq _).mpr ((key _).mp ((t_ce hp _).mp (Nat.le_refl _)))
theorem t_mn (x y : Nat) (hx : x < 2 ^ 31) (hy : y < 2 ^ 31) : q_mn (nI x) (nI y) = nI (min x y) := by
  unfold q_mn
  by_cases h : y < x
  · rw [if_pos (nI_lt h hx), show min x y = y by omega]
  · rw [if_neg (nI_nlt (by omega) hy), show min x y = x by omega]
theorem t_ls (x y : Nat) (hx : x < 2 ^ 31) (hy : y < 2 ^ 31) : q_ls (nI x) (nI y) = nI (min x y) := by
  unfold q_ls
  by_cases h : x < y
  · rw [if_pos (nI_lt h hy), show min x y = x by omega]
  · rw [if_neg (nI_nlt (by omega) hx), show min x y = y by omega]
section TE
variable {a lam : Nat} {f t v : Nat → Nat} {K : Nat} {fr to zs : Nat → Int32}
theorem t_tf (ha : 10 ≤ a) (ha2 : a ≤ 120) (hl : lam ≤ 900) (hz : t_Z f t v K) (h1 : ∀ z, z < K → fr z = nI (f z) ∧ to z = nI (t z) ∧ zs z = nI (v z)) : ∀ k, k ≤ K → q_tf (nI a) (nI lam) fr to zs k = (lN (t_c a lam f t v k).1, lN (t_c a lam f t v k).2.1, nI (t_c a lam f t v k).2.2) := by
  intro k
  induction k with
  | zero => intro _; rfl
  | succ k ih =>
    intro hk
    obtain ⟨E, _, _, _, _, _, f1, f2, _⟩ := t_i (lam := lam) ha hz k (by omega)
    obtain ⟨z1, z2, z3, z4, z5⟩ := hz k (by omega)
    have hpf : t_p t k ≤ f k := by
      unfold t_p
      by_cases h0 : k = 0
      · rw [if_pos h0]; exact Nat.zero_le _
      · rw [if_neg h0]
        have := (hz (k - 1) (by omega)).2.2.2.2 (by omega)
        rw [show k - 1 + 1 = k by omega] at this
        exact this
    have hn : t_n lam f t k ≤ (t_c a lam f t v k).2.2 := by unfold t_n; omega
    obtain ⟨g1, g2, g3⟩ := h1 k (by omega)
    rw [q_tf, ih (by omega), g1, g2, g3, t_mn a (v k) (by omega) (by omega), t_mn (t k) lam (by omega) (by omega), t_mn (f k) lam (by omega) (by omega), pk_sub (show min (f k) lam ≤ min (t k) lam by omega), show min (t k) lam - min (f k) lam = t_n lam f t k from rfl, nI_l (show min a (v k) < 2 ^ 31 by omega), nI_l (show t_n lam f t k < 2 ^ 31 by omega), show (60 : Int64) = lN 60 from rfl, t_c]
    dsimp only
    rw [lN_mul, lN_mul, lN_mul, lN_add, lN_mul, pk_sub hn]
theorem t_tm (ha : 10 ≤ a) (ha2 : a ≤ 120) (hl : lam ≤ 900) (hz : t_Z f t v K) (h1 : ∀ z, z < K → fr z = nI (f z) ∧ to z = nI (t z) ∧ zs z = nI (v z)) : ∀ k, k ≤ K → q_tm (nI a) (nI lam) fr to zs k = (lN (t_r a lam f t v k).1, lN (t_r a lam f t v k).2.1, nI (t_r a lam f t v k).2.2) := by
  intro k
  induction k with
  | zero => intro _; rw [q_tm, nI_l (show a < 2 ^ 31 by omega)]; rfl
  | succ k ih =>
    intro hk
    obtain ⟨E, _, _, _, _, _, f1, f2, p1, _⟩ := t_i (lam := lam) ha hz k (by omega)
    obtain ⟨z1, z2, z3, z4, z5⟩ := hz k (by omega)
    have hpf : t_p t k ≤ f k := by
      unfold t_p
      by_cases h0 : k = 0
      · rw [if_pos h0]; exact Nat.zero_le _
      · rw [if_neg h0]
        have := (hz (k - 1) (by omega)).2.2.2.2 (by omega)
        rw [show k - 1 + 1 = k by omega] at this
        exact this
    have hn : t_n lam f t k ≤ (t_r a lam f t v k).2.2 := by unfold t_n; omega
    obtain ⟨g1, g2, g3⟩ := h1 k (by omega)
    have hc : (nI (t_n lam f t k) = 0 ∨ nI a ≤ nI (v k)) ↔ (t_n lam f t k = 0 ∨ a ≤ v k) := by
      rw [nI_leI (show a < 2 ^ 31 by omega) (show v k < 2 ^ 31 by omega), show (0 : Int32) = nI 0 from rfl, nI_eq (by omega) (by omega)]
    rw [q_tm, ih (by omega), g1, g2, g3, t_ls (t k) lam (by omega) (by omega), t_ls (f k) lam (by omega) (by omega), pk_sub (show min (f k) lam ≤ min (t k) lam by omega), show min (t k) lam - min (f k) lam = t_n lam f t k from rfl, t_r]
    by_cases hS : t_n lam f t k = 0 ∨ a ≤ v k
    · rw [if_pos hS, if_pos (hc.mpr hS)]
    · rw [if_neg hS, if_neg (fun q => hS (hc.mp q)), nI_l (show v k < 2 ^ 31 by omega), nI_l (show t_n lam f t k < 2 ^ 31 by omega), show (60 : Int64) = lN 60 from rfl]
      dsimp only
      rw [lN_mul, lN_mul, lN_mul, lN_add, lN_mul, pk_sub hn]
theorem t_lT {n : Nat} (h : n < 2 ^ 63) : (lN n).toInt = (n : Int) := Int64.toInt_ofNat_of_lt h
theorem t_dv {x y : Nat} (hx : x < 2 ^ 62) (hy : 1 ≤ y) (hy2 : y < 2 ^ 62) : q_dv (lN x) (lN y) = nI ((x + y - 1) / y) := by
  unfold q_dv
  have h1 : (1 : Int64) ≤ lN y := by
    rw [Int64.le_iff_toInt_le, t_lT (by omega)]
    have : (1 : Int64).toInt = 1 := rfl
    omega
  rw [if_pos h1, lN_add, show (1 : Int64) = lN 1 from rfl, lN_sub (by omega), pk_lDiv (by omega) (by omega) (by omega), lN_i]
theorem t_pw : ∀ k, k ≤ 4 → 99 ^ k ≤ 96059601 := by decide
/-- both times, as one number -/
theorem t_both (ha : 10 ≤ a) (ha2 : a ≤ 120) (hl : lam ≤ 900) (hz : t_Z f t v K) (hK : K ≤ 4) {fr' to' zs' : Nat → Int32} (h1 : ∀ z, z < K → fr z = nI (f z) ∧ to z = nI (t z) ∧ zs z = nI (v z)) (h2 : ∀ z, z < K → fr' z = nI (f z) ∧ to' z = nI (t z) ∧ zs' z = nI (v z)) : (∃ q, q ≤ 5400 ∧ q_time (nI a) (nI lam) fr to zs K = nI q ∧ q_mtime (nI a) (nI lam) fr' to' zs' K = nI q) ∧ ¬ (nI a).toInt64 = 0 ∧ ¬ (q_tm (nI a) (nI lam) fr' to' zs' K).2.1 = 0 := by
  obtain ⟨E, e0, e1, e2, d1, d2, f1, f2, p1, p2, m1, a1, x1⟩ := t_i (lam := lam) ha hz K (Nat.le_refl _)
  have hpw := t_pw K hK
  have htf := t_tf ha ha2 hl hz h1 K (Nat.le_refl _)
  have htm := t_tm ha ha2 hl hz h2 K (Nat.le_refl _)
  generalize hC : t_c a lam f t v K = c at *
  generalize hR : t_r a lam f t v K = r at *
  obtain ⟨M, D, F⟩ := c
  obtain ⟨A, G, Q⟩ := r
  dsimp only at *
  subst e0
  have hD : D ≤ 96059601 := by omega
  have hE : E ≤ 96059601 := by omega
  have hM : M ≤ 5400 * D := by
    have h9 : 6 * (lam - F) * D ≤ 5400 * D := Nat.mul_le_mul_right D (by omega)
    omega
  have haE : a * E ≤ 120 * 96059601 := Nat.mul_le_mul ha2 hE
  have haE1 : 1 ≤ a * E := Nat.le_trans e1 (Nat.le_mul_of_pos_left E (by omega))
  have hA : A ≤ 5400 * (a * E) := by
    have h9 : 6 * (lam - Q) * (a * E) ≤ 5400 * (a * E) := Nat.mul_le_mul_right _ (by omega)
    omega
  have hDa1 : 1 ≤ D * a := Nat.le_trans d1 (Nat.le_mul_of_pos_right D (by omega))
  have hDa : D * a ≤ 96059601 * 120 := Nat.mul_le_mul hD ha2
  have hFD : 60 * F * D ≤ 54000 * D := Nat.mul_le_mul_right D (by omega)
  have hMa : M * a ≤ 5400 * D * 120 := Nat.mul_le_mul hM ha2
  have hQE : 60 * Q * E ≤ 54000 * E := Nat.mul_le_mul_right E (by omega)
  have hX : M * a + 60 * F * D ≤ 5400 * (D * a) := by
    have h9 : M * a ≤ 6 * (lam - F) * D * a := Nat.mul_le_mul_right a m1
    have h8 : 60 * F * D ≤ 6 * F * D * a := by
      have h7 : 6 * F * D * 10 ≤ 6 * F * D * a := Nat.mul_le_mul_left _ ha
      have h6 : 60 * F * D = 6 * F * D * 10 := by grind
      omega
    have h5 : 6 * (lam - F) * D * a + 6 * F * D * a = 6 * lam * (D * a) := by
      have : 6 * lam * (D * a) = 6 * ((lam - F) + F) * (D * a) := by rw [show lam - F + F = lam by omega]
      rw [this]
      grind
    have h4 : 6 * lam * (D * a) ≤ 5400 * (D * a) := Nat.mul_le_mul_right _ (by omega)
    omega
  have hEa : a * E / a = E := Nat.mul_div_cancel_left E (by omega)
  have hnz : ∀ n, 1 ≤ n → n < 2 ^ 63 → ¬ lN n = 0 := fun n g1 g2 q => by
    have h9 := t_lT g2
    rw [q] at h9
    have : (0 : Int64).toInt = 0 := rfl
    omega
  refine ⟨⟨(M * a + 60 * F * D + D * a - 1) / (D * a), (t_ce (by omega) _).mpr hX, ?_, ?_⟩, ?_, ?_⟩
  · unfold q_time
    rw [htf]
    dsimp only
    rw [nI_l (show a < 2 ^ 31 by omega), nI_l (show F < 2 ^ 31 by omega), show (60 : Int64) = lN 60 from rfl, lN_mul, lN_mul, lN_mul, lN_mul, lN_add, t_dv (by rw [Nat.mul_comm F 60]; omega) hDa1 (by omega), Nat.mul_comm F 60]
  · unfold q_mtime
    rw [htm]
    dsimp only
    rw [nI_l (show a < 2 ^ 31 by omega), nI_l (show Q < 2 ^ 31 by omega), pk_lDiv (show a * E < 2 ^ 63 by omega) (by omega) (by omega), hEa, show (60 : Int64) = lN 60 from rfl, lN_mul, lN_mul, lN_add, lN_add, show (1 : Int64) = lN 1 from rfl, lN_sub (by omega), pk_lDiv (by omega) (by omega) (by omega), lN_i]
    congr 1
    refine (t_eq (by omega) (by omega) ?_).symm
    have : (M * a + 60 * F * D) * (a * E) = (M * a + 60 * F * D) * E * a := by grind
    rw [this, x1]
    grind
  · rw [nI_l (show a < 2 ^ 31 by omega)]
    exact hnz a (by omega) (by omega)
  · rw [htm]
    exact hnz _ haE1 (by omega)
end TE
