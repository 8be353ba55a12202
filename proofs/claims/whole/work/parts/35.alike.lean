/-! ===== both sides reckon alike ===== -/
theorem p_ft_ex {T : Nat → Option (Nat → Nat)} : ∀ n s, (q_ft T n s).isSome = true → ∃ t, s ≤ t ∧ t < s + n ∧ (T t).isSome = true
  | 0, s, h => by cases h
  | n + 1, s, h => by
    unfold q_ft at h
    cases e : T s with
    | some g => exact ⟨s, Nat.le_refl _, by omega, by rw [e]; rfl⟩
    | none =>
      rw [e] at h
      obtain ⟨t, h1, h2, h3⟩ := p_ft_ex n (s + 1) h
      exact ⟨t, by omega, by omega, h3⟩
theorem p_ft_none {T : Nat → Option (Nat → Nat)} : ∀ n s, (∀ t, s ≤ t → t < s + n → T t = none) → q_ft T n s = none
  | 0, s, _ => rfl
  | n + 1, s, h => by
    unfold q_ft
    rw [h s (Nat.le_refl _) (by omega)]
    exact p_ft_none n (s + 1) (fun t h1 h2 => h t (by omega) (by omega))
theorem p_ft_cut {T : Nat → Option (Nat → Nat)} : ∀ m n s, (∀ t, s + m ≤ t → t < s + m + n → q_ft T m s = none → T t = none) → q_ft T (m + n) s = q_ft T m s
  | 0, n, s, h => by
    rw [Nat.zero_add]
    exact p_ft_none n s (fun t h1 h2 => h t (by omega) (by omega) rfl)
  | m + 1, n, s, h => by
    rw [show m + 1 + n = (m + n) + 1 by omega, q_ft, q_ft]
    cases e : T s with
    | some g => rfl
    | none => exact p_ft_cut m n (s + 1) (fun t h1 h2 h3 => h t (by omega) (by omega) (by rw [q_ft, e]; exact h3))
def p_sw (u s t : Nat) : Nat := if t = u then s else if t = s then u else t
theorem p_sw_sw (u s t : Nat) : p_sw u s (p_sw u s t) = t := by
  unfold p_sw
  grind
theorem p_tr_sw {can : Nat → Nat → Bool} {most u s : Nat} (hu : u < most) (hs : s < most) : ∀ f c la la', (∀ t, la' t = la (p_sw u s t)) → (q_tr can most f c la').isSome = true → (q_tr can most f c la).isSome = true
  | 0, _, _, _, _, _ => rfl
  | f + 1, c, la, la', h, g => by
    unfold q_tr at g ⊢
    obtain ⟨t, h1, h2, h3⟩ := p_ft_ex _ _ g
    refine q_ft_some _ _ (p_sw u s t) (Nat.zero_le _) (by unfold p_sw; split; omega; split; omega; omega) ?_
    rw [h t] at h3
    by_cases e : la (p_sw u s t) = 0 ∨ can c (la (p_sw u s t)) = true
    · rw [if_pos e] at h3 ⊢
      rw [Option.isSome_map] at h3 ⊢
      refine p_tr_sw hu hs f (c + 1) _ _ (fun x => ?_) h3
      unfold q_la
      rw [h x]
      by_cases q : x = t
      · rw [if_pos q, if_pos (by rw [q])]
      · rw [if_neg q, if_neg (fun z => q (by rw [← p_sw_sw u s x, z, p_sw_sw]))]
    · rw [if_neg e] at h3; cases h3
theorem p_tr_se {can : Nat → Nat → Bool} {most : Nat} : ∀ f c used la, (∀ s, s < used → 1 ≤ la s) → (∀ s, used ≤ s → la s = 0) → 1 ≤ c → q_tr can most f c la = q_se can most f c used la
  | 0, _, _, _, _, _, _ => rfl
  | f + 1, c, used, la, h1, h2, hc => by
    have key : ∀ t, t < used + 1 → q_tr2 can most f c la t = q_tr1 can most f c used la t := by
      intro t ht
      unfold q_tr2 q_tr1
      by_cases e : t = used
      · rw [if_pos (Or.inl (h2 t (by omega))), if_pos (Or.inl e), if_pos e, p_tr_se f (c + 1) (used + 1) (q_la la t c) (fun s hs => ?_) (fun s hs => ?_) (by omega)]
        · unfold q_la
          split
          · exact hc
          · exact h1 s (by omega)
        · unfold q_la
          rw [if_neg (by omega)]
          exact h2 s (by omega)
      · have ez : ¬ la t = 0 := by have := h1 t (by omega); omega
        by_cases g : can c (la t) = true
        · rw [if_pos (Or.inr g), if_pos (Or.inr g), if_neg e, p_tr_se f (c + 1) used (q_la la t c) (fun s hs => ?_) (fun s hs => ?_) (by omega)]
          · unfold q_la
            split
            · exact hc
            · exact h1 s (by omega)
          · unfold q_la
            rw [if_neg (by omega)]
            exact h2 s (by omega)
        · rw [if_neg (fun q => q.elim ez g), if_neg (fun q => q.elim e g)]
    rw [q_tr, q_se]
    rcases Nat.lt_or_ge (used + 1) most with hm | hm
    · rw [show min (used + 1) most = used + 1 by omega]
      have e := p_ft_cut (T := q_tr2 can most f c la) (used + 1) (most - (used + 1)) 0 (fun t g1 g2 g3 => by
        have hz : ∀ x, x < used + 1 → q_tr2 can most f c la x = none := fun x hx => by
          cases ex : q_tr2 can most f c la x with
          | none => rfl
          | some w =>
            have := q_ft_some (T := q_tr2 can most f c la) (used + 1) 0 x (Nat.zero_le _) (by omega) (by rw [ex]; rfl)
            rw [g3] at this; cases this
        have hu := hz used (by omega)
        unfold q_tr2 at hu ⊢
        rw [if_pos (Or.inl (h2 used (Nat.le_refl _)))] at hu
        rw [if_pos (Or.inl (h2 t (by omega)))]
        cases ex : q_tr can most f (c + 1) (q_la la t c) with
        | none => rfl
        | some w =>
          have hs := p_tr_sw (can := can) (most := most) (u := used) (s := t) (by omega) (by omega) f (c + 1) (q_la la used c) (q_la la t c) (fun x => ?_) (by rw [ex]; rfl)
          · cases ey : q_tr can most f (c + 1) (q_la la used c) with
            | none => rw [ey] at hs; cases hs
            | some w2 => rw [ey] at hu; cases hu
          · unfold q_la p_sw
            by_cases q1 : x = used
            · rw [if_pos q1, if_neg (by omega), if_neg (by omega), h2 x (by omega), h2 t (by omega)]
            · rw [if_neg q1]
              by_cases q2 : x = t
              · rw [if_pos q2, if_pos q2, if_pos rfl]
              · rw [if_neg q2, if_neg q2, if_neg q1])
      rw [show used + 1 + (most - (used + 1)) = most by omega] at e
      exact e.trans (q_ft_congr _ _ (fun t _ g => key t (by omega)))
    · rw [show min (used + 1) most = most by omega]
      exact q_ft_congr _ _ (fun t _ g => key t (by omega))
def p_s (f : Nat → Nat) : Nat → Nat
  | 0 => 0
  | n + 1 => p_s f n + f n
theorem p_s_b {f : Nat → Nat} {m : Nat} (h : ∀ i, i < m → f i ≤ 900) : ∀ n, n ≤ m → p_s f n ≤ 900 * n
  | 0, _ => Nat.le_refl _
  | n + 1, hn => by
    have := p_s_b h n (by omega)
    have := h n (by omega)
    unfold p_s
    omega
theorem p_s_m {f : Nat → Nat} (a : Nat) : ∀ k, p_s f a ≤ p_s f (a + k)
  | 0 => Nat.le_refl _
  | k + 1 => Nat.le_trans (p_s_m a k) (by rw [show a + (k + 1) = a + k + 1 by omega, p_s]; omega)
theorem p_sum {len : Nat → Int32} {f : Nat → Nat} (h : ∀ i, i < 7 → len i = nI (f i)) : ∀ n, n ≤ 7 → q_sum len n = nI (p_s f n)
  | 0, _ => rfl
  | n + 1, hn => by rw [q_sum, p_sum h n (by omega), h n (by omega), nI_add, p_s]
theorem p_bt {len : Nat → Int32} {f : Nat → Nat} (h : ∀ i, i < 7 → len i = nI (f i)) (a : Nat) : ∀ k, a + k ≤ 7 → q_bt len a k = nI (p_s f (a + k) - p_s f a)
  | 0, _ => by rw [Nat.add_zero, Nat.sub_self]; rfl
  | k + 1, hn => by
    have := p_s_m (f := f) a k
    rw [q_bt, p_bt h a k (by omega), h (a + k) (by omega), nI_add, show a + (k + 1) = a + k + 1 by omega, p_s]
    congr 1
    omega
theorem p_difference {len : Nat → Int32} {f : Nat → Nat} (h : ∀ i, i < 7 → len i = nI (f i)) {a c : Nat} (hac : a ≤ c) (hc : c ≤ 7) : q_sum len c - q_sum len a = nI (p_s f c - p_s f a) ∧ q_bt len a (c - a) = nI (p_s f c - p_s f a) := by
  have hm := p_s_m (f := f) a (c - a)
  rw [show a + (c - a) = c by omega] at hm
  refine ⟨by rw [p_sum h c hc, p_sum h a (by omega), pk_sub hm], ?_⟩
  rw [p_bt h a (c - a) (by omega), show a + (c - a) = c by omega]
/-- the told things in their bounds -/
def q_BD (I : q_I) : Prop := (∀ i, i < 7 → ∃ n, i_len I i = nI n ∧ n ≤ 900) ∧ (∀ i, i < 7 → ∃ n, i_hr I i = nI n ∧ n ≤ 23) ∧ (∀ r, r < i_cnt I → ∃ n, i_sp I r = nI n ∧ 10 ≤ n ∧ n ≤ 120) ∧ (∃ n, i_set I 2 = nI n ∧ 10 ≤ n ∧ n ≤ 120) ∧ (∃ n, i_set I 3 = nI n ∧ n ≤ 5000) ∧ (∃ n, i_set I 4 = nI n ∧ n ≤ 50) ∧ i_cnt I ≤ 10 ∧ ∀ i, i < 7 → i_K I i ≤ 4 ∧ ∃ f t v, t_Z f t v (i_K I i) ∧ ∀ z, z < i_K I i → i_fr I i z = nI (f z) ∧ i_to I i z = nI (t z) ∧ i_zs I i z = nI (v z)
theorem q_BD.len {I : q_I} (h : q_BD I) : ∃ f : Nat → Nat, ∀ i, i < 7 → i_len I i = nI (f i) ∧ f i ≤ 900 := by
  refine ⟨fun i => (i_len I i).toNatClampNeg, fun i hi => ?_⟩
  obtain ⟨n, e, hn⟩ := h.1 i hi
  dsimp only
  rw [e, nI_clamp (by omega)]
  exact ⟨rfl, hn⟩
theorem p_SE {I : q_I} (h : q_BD I) : q_SE I := by
  obtain ⟨f, hf⟩ := h.len
  obtain ⟨p, ep, p1, p2⟩ := h.2.2.2.1
  have hl : ∀ i, i < 7 → i_len I i = nI (f i) := fun i hi => (hf i hi).1
  have hN := i_N_le I
  intro m _
  rw [p_tr_se (i_N I) 1 0 (fun _ => 0) (fun s hs => absurd hs (Nat.not_lt_zero _)) (fun s _ => rfl) (Nat.le_refl _)]
  unfold i_se
  refine q_se_congr _ _ _ _ (fun c a h1 h2 h3 h4 => ?_) (fun s hs => absurd hs (Nat.not_lt_zero _)) (Nat.le_refl _)
  unfold q_cm2 i_can q_cn i_km
  obtain ⟨e1, e2⟩ := p_difference hl (show a ≤ c by omega) (show c ≤ 7 by omega)
  have hb := p_s_b (f := f) (m := 7) (fun i hi => (hf i hi).2) c (by omega)
  rw [e1, e2, ep, nI_l (show p_s f c - p_s f a < 2 ^ 31 by omega), nI_l (show p < 2 ^ 31 by omega), show (60 : Int64) = lN 60 from rfl, lN_mul, t_dv (by omega) (by omega) (by omega), show (60 : Int32) = nI 60 from rfl, pk_mul, nI_add, show (1 : Int32) = nI 1 from rfl, pk_sub (by omega), pk_div (by omega) (by omega) (by omega), Nat.mul_comm 60]
theorem p_goes {I : q_I} (h : q_BD I) (s : Nat) : q_sum (i_len I) (q_lu (i_g I) s (i_N I)) - q_sum (i_len I) (q_fu (i_g I) s (i_N I) 1) = (if q_fu (i_g I) s (i_N I) 1 = 0 then 0 else q_bt (i_len I) (q_fu (i_g I) s (i_N I) 1) (q_lu (i_g I) s (i_N I) - q_fu (i_g I) s (i_N I) 1)) := by
  obtain ⟨f, hf⟩ := h.len
  have hN := i_N_le I
  obtain ⟨h1, h2⟩ := q_fu_lu (i_g I) s (i_N I)
  have h3 := q_lu_le (i_g I) s (i_N I)
  by_cases e : q_fu (i_g I) s (i_N I) 1 = 0
  · rw [if_pos e, h1.mp e, e]
    exact Int32.sub_self _
  · rw [if_neg e]
    obtain ⟨e1, e2⟩ := p_difference (fun i hi => (hf i hi).1) h2 (show q_lu (i_g I) s (i_N I) ≤ 7 by omega)
    rw [e1, e2]
theorem p_of5 {I : q_I} (h : q_BD I) (i : Nat) : q_dv ((i_set I 3 + nI (i_cm I i)).toInt64 * (i_set I 4).toInt64) 1000 = ((i_set I 3 + nI (i_cm I i)) * i_set I 4 + 999) / 1000 := by
  obtain ⟨a, ea, ha⟩ := h.2.2.2.2.1
  obtain ⟨d, ed, hd⟩ := h.2.2.2.2.2.1
  have hc : i_cm I i ≤ 10 := Nat.le_trans (q_od_le _ _ _ _) h.2.2.2.2.2.2.1
  have hm : (a + i_cm I i) * d ≤ 5010 * 50 := Nat.mul_le_mul (by omega) hd
  rw [ea, ed, nI_add, nI_l (by omega), nI_l (by omega), lN_mul, show (1000 : Int64) = lN 1000 from rfl, t_dv (by omega) (by omega) (by omega), pk_mul, show (999 : Int32) = nI 999 from rfl, nI_add, show (1000 : Int32) = nI 1000 from rfl, pk_div (by omega) (by omega) (by omega), show (a + i_cm I i) * d + 1000 - 1 = (a + i_cm I i) * d + 999 by omega]
theorem p_pc : ∀ r, r < 10 → ∀ x, x < 2 ^ r → (nI x ||| (1 <<< (nI r &&& 31))) = nI (x + 2 ^ r) ∧ q_pc (nI (x + 2 ^ r)) = q_pc (nI x) + 1 := by decide +kernel
theorem p_nb (bk st : Nat → Int32) (i : Nat) : ∀ m, m ≤ 10 → ∃ x k, x < 2 ^ m ∧ k ≤ m ∧ q_bd bk st i m = nI x ∧ q_pc (nI x) = nI k ∧ q_nb bk st i m = nI k ∧ (k ≠ 0 → ∃ r, r < m ∧ bk r = nI i ∧ ¬ st r = -1)
  | 0, _ => ⟨0, 0, by decide, by decide, rfl, by decide +kernel, rfl, fun h => absurd rfl h⟩
  | m + 1, hm => by
    obtain ⟨x, k, h1, h2, h3, h4, h5, h6⟩ := p_nb bk st i m (by omega)
    by_cases e : bk m = nI i ∧ ¬ st m = -1
    · obtain ⟨g1, g2⟩ := p_pc m (by omega) x h1
      refine ⟨x + 2 ^ m, k + 1, by rw [Nat.pow_succ]; omega, by omega, ?_, ?_, ?_, fun _ => ⟨m, by omega, e⟩⟩
      · rw [q_bd, if_pos e, h3, g1]
      · rw [g2, h4, nI_1]
      · rw [q_nb, if_pos e, h5, nI_1]
    · refine ⟨x, k, by rw [Nat.pow_succ]; omega, by omega, ?_, h4, ?_, fun g => ?_⟩
      · rw [q_bd, if_neg e, h3]
      · rw [q_nb, if_neg e, h5]
      · obtain ⟨r, r1, r2⟩ := h6 g
        exact ⟨r, by omega, r2⟩
theorem p_swp0 (I : q_I) (h : q_BD I) (i : Nat) : q_dv (q_pc (i_bd I i)).toInt64 4 = (q_nb (i_bk I) (i_st I i) i (i_cnt I) + 3) / 4 := by
  obtain ⟨x, k, h1, h2, h3, h4, h5, h6⟩ := p_nb (i_bk I) (i_st I i) i (i_cnt I) h.2.2.2.2.2.2.1
  have hc := h.2.2.2.2.2.2.1
  unfold i_bd
  rw [h3, h4, h5, nI_l (by omega), show (4 : Int64) = lN 4 from rfl, t_dv (by omega) (by omega) (by omega), show (3 : Int32) = nI 3 from rfl, nI_add, show (4 : Int32) = nI 4 from rfl, pk_div (by omega) (by omega) (by omega), show k + 4 - 1 = k + 3 by omega]
theorem p_bg {I : q_I} (h : q_BD I) {i : Nat} (hi : i < 7) : ∃ g, i_bg I i = nI g ∧ g ≤ 10020 ∧ i_bg I i = 1440 * nI i + 60 * i_hr I i := by
  obtain ⟨n, e, hn⟩ := h.2.1 i hi
  unfold i_bg
  refine ⟨i * 1440 + n * 60, ?_, by omega, by rw [Int32.mul_comm (nI i), Int32.mul_comm (i_hr I i)]⟩
  rw [e, show (1440 : Int32) = nI 1440 from rfl, show (60 : Int32) = nI 60 from rfl, pk_mul, pk_mul, nI_add]
theorem p_st {g : Nat} {rin : Nat → Nat} (hg : g ≤ 10020) : ∀ n, n ≤ 10 → ∀ r, q_st (nI g) rin n r = -1 ∨ ∃ k, k < n ∧ rin k = r ∧ q_st (nI g) rin n r = nI (g + 2 * k)
  | 0, _, r => Or.inl rfl
  | n + 1, hn, r => by
    unfold q_st
    by_cases e : r = rin n
    · rw [if_pos e]
      refine Or.inr ⟨n, by omega, e.symm, ?_⟩
      rw [show (2 : Int32) = nI 2 from rfl, pk_mul, nI_add]
    · rw [if_neg e]
      rcases p_st hg n (by omega) r with q | ⟨k, k1, k2, k3⟩
      · exact Or.inl q
      · exact Or.inr ⟨k, by omega, k2, k3⟩
theorem p_nm1 {n : Nat} (h : n < 2 ^ 31) : ¬ nI n = -1 := fun q => by
  have h1 := nI_toInt h
  rw [q] at h1
  have : (-1 : Int32).toInt = -1 := rfl
  omega
theorem p_lm1 {n : Nat} (h : n < 2 ^ 31) : (-1 : Int32) < nI n := by
  rw [Int32.lt_iff_toInt_lt, nI_toInt h]
  have : (-1 : Int32).toInt = -1 := rfl
  omega
theorem p_mx {st : Nat → Int32} {B : Nat} (hB : B < 2 ^ 30) : ∀ m, (∀ r, r < m → st r = -1 ∨ ∃ x, x ≤ B ∧ st r = nI x) → (q_mx st m = -1 ∧ ∀ r, r < m → st r = -1) ∨ ∃ y, y ≤ B ∧ q_mx st m = nI y ∧ ∀ r, r < m → ∀ x, x ≤ B → st r = nI x → x ≤ y
  | 0, _ => Or.inl ⟨rfl, fun r hr => absurd hr (Nat.not_lt_zero _)⟩
  | m + 1, h => by
    rw [q_mx]
    have ih := p_mx hB m (fun r hr => h r (by omega))
    rcases h m (by omega) with e | ⟨x, hx, e⟩
    · rcases ih with ⟨i1, i2⟩ | ⟨y, y1, y2, y3⟩
      · left
        rw [i1, e, if_neg (by decide)]
        refine ⟨rfl, fun r hr => ?_⟩
        by_cases q : r = m
        · rw [q]; exact e
        · exact i2 r (by omega)
      · right
        refine ⟨y, y1, ?_, fun r hr x hx ex => ?_⟩
        · rw [y2, e, if_neg]
          intro q
          have := Int32.lt_trans (p_lm1 (show y < 2 ^ 31 by omega)) q
          exact absurd this (by decide)
        · by_cases q : r = m
          · rw [q, e] at ex
            exact absurd ex.symm (p_nm1 (by omega))
          · exact y3 r (by omega) x hx ex
    · right
      rcases ih with ⟨i1, i2⟩ | ⟨y, y1, y2, y3⟩
      · refine ⟨x, hx, by rw [i1, e, if_pos (p_lm1 (by omega))], fun r hr x' hx' ex => ?_⟩
        by_cases q : r = m
        · rw [q, e] at ex
          have := (nI_eq (show x < 2 ^ 31 by omega) (show x' < 2 ^ 31 by omega)).mp ex
          omega
        · rw [i2 r (by omega)] at ex
          exact absurd ex.symm (p_nm1 (by omega))
      · refine ⟨max y x, by omega, ?_, fun r hr x' hx' ex => ?_⟩
        · rw [y2, e]
          by_cases q : y < x
          · rw [if_pos (nI_lt q (by omega)), show max y x = x by omega]
          · rw [if_neg (nI_nlt (by omega) (by omega)), show max y x = y by omega]
        · by_cases q : r = m
          · rw [q, e] at ex
            have := (nI_eq (show x < 2 ^ 31 by omega) (show x' < 2 ^ 31 by omega)).mp ex
            omega
          · have := y3 r (by omega) x' hx' ex
            omega
theorem p_swp2 {I : q_I} (h : q_BD I) {i : Nat} (hi : i < 7) : (if q_pc (i_bd I i) ≤ 0 then -1 else i_come I i (q_pc (i_bd I i))) = (if q_nb (i_bk I) (i_st I i) i (i_cnt I) = 0 then -1 else q_mx (i_st I i) (i_cnt I) + 60 + 2 * i_len I i + 15 * q_nb (i_bk I) (i_st I i) i (i_cnt I)) := by
  have hc := h.2.2.2.2.2.2.1
  obtain ⟨x, k, h1, h2, h3, h4, h5, h6⟩ := p_nb (i_bk I) (i_st I i) i (i_cnt I) hc
  obtain ⟨g, g1, g2, _⟩ := p_bg h hi
  obtain ⟨f, hf⟩ := h.len
  have hn : (i_od I i).2 ≤ i_cnt I := q_od_le _ _ _ _
  have eb : q_pc (i_bd I i) = nI k := by unfold i_bd; rw [h3, h4]
  rw [eb, h5]
  by_cases e : k = 0
  · rw [if_pos (by rw [e]; decide), if_pos (by rw [e]; rfl)]
  · rw [if_neg (nI_nle (by omega) (by omega)), if_neg (nI_ne0 (by omega) (by omega))]
    unfold i_come
    obtain ⟨r, r1, r2, r3⟩ := h6 e
    have hst : ∀ r, i_st I i r = -1 ∨ ∃ k, k < (i_od I i).2 ∧ (i_od I i).1 k = r ∧ i_st I i r = nI (g + 2 * k) := fun r => by
      unfold i_st
      rw [g1]
      exact p_st g2 _ (by omega) r
    obtain ⟨k0, q1, q2, q3⟩ := (hst r).resolve_left r3
    have hmx : q_mx (i_st I i) (i_cnt I) = nI (g + 2 * ((i_od I i).2 - 1)) := by
      have htop : i_st I i ((i_od I i).1 ((i_od I i).2 - 1)) = nI (g + 2 * ((i_od I i).2 - 1)) := by
        unfold i_st
        rw [g1]
        obtain ⟨n, en⟩ : ∃ n, (i_od I i).2 = n + 1 := ⟨(i_od I i).2 - 1, by omega⟩
        rw [en, q_st, show n + 1 - 1 = n by omega, if_pos rfl, show (2 : Int32) = nI 2 from rfl, pk_mul, nI_add]
      have hlt : (i_od I i).1 ((i_od I i).2 - 1) < i_cnt I := q_od_lt _ _ _ i _ (show _ < (i_od I i).2 by omega)
      rcases p_mx (st := i_st I i) (B := g + 2 * ((i_od I i).2 - 1)) (by omega) (i_cnt I) (fun r _ => by
        rcases hst r with q | ⟨k, k1, k2, k3⟩
        · exact Or.inl q
        · exact Or.inr ⟨_, by omega, k3⟩) with ⟨z1, z2⟩ | ⟨y, y1, y2, y3⟩
      · rw [z2 _ hlt] at htop
        exact absurd htop.symm (p_nm1 (by omega))
      · have := y3 _ hlt _ (Nat.le_refl _) htop
        rw [y2, show y = g + 2 * ((i_od I i).2 - 1) by omega]
    obtain ⟨f1, f2⟩ := hf i hi
    rw [hmx, g1, f1, nI_l (show f i < 2 ^ 31 by omega), show (60 : Int64) = lN 60 from rfl, lN_mul, show (30 : Int32).toInt64 = lN 30 from rfl, t_dv (by omega) (by omega) (by omega), show (1 : Int32) = nI 1 from rfl, pk_sub (show 1 ≤ (i_od I i).2 by omega), show (2 : Int32) = nI 2 from rfl, pk_mul, pk_mul, nI_add, show (f i * 60 + 30 - 1) / 30 = 2 * f i by omega]
/-! who came, and where -/
theorem p_so_inj (S bk : Nat → Int32) (i : Nat) (rin : Nat → Nat) : ∀ k, (∀ x y, x < k → y < k → rin x = rin y → x = y) → ∀ x y, x < (q_so S bk i rin k).2 → y < (q_so S bk i rin k).2 → (q_so S bk i rin k).1 x = (q_so S bk i rin k).1 y → x = y
  | 0, _, x, y, h, _, _ => absurd h (Nat.not_lt_zero _)
  | k + 1, hr, x, y, hx, hy, he => by
    have ih := p_so_inj S bk i rin k (fun x y h1 h2 h3 => hr x y (by omega) (by omega) h3)
    have hm := q_so_mem S bk i rin k
    have hne : ∀ j, j < (q_so S bk i rin k).2 → ¬ (q_so S bk i rin k).1 j = rin k := fun j hj q => by
      obtain ⟨k', m1, m2, m3⟩ := hm j hj
      have := hr k' k (by omega) (by omega) (by rw [← m2, q])
      omega
    unfold q_so at hx hy he
    by_cases e : bk (rin k) = nI i
    · rw [if_pos e] at hx hy he
      exact ih x y hx hy he
    · rw [if_neg e] at hx hy he
      have hp := q_ps_le (q_ah S (rin k)) (q_so S bk i rin k).1 (q_so S bk i rin k).2
      dsimp only at hx hy he
      generalize (q_so S bk i rin k).1 = o at *
      generalize (q_so S bk i rin k).2 = m at *
      unfold q_io at he
      generalize q_ps (q_ah S (rin k)) o m = p at *
      by_cases x1 : x < p
      · rw [if_pos x1] at he
        by_cases y1 : y < p
        · rw [if_pos y1] at he
          exact ih x y (by omega) (by omega) he
        · rw [if_neg y1] at he
          by_cases y2 : y = p
          · rw [if_pos y2] at he
            exact absurd he (hne x (by omega))
          · rw [if_neg y2] at he
            have := ih x (y - 1) (by omega) (by omega) he
            omega
      · rw [if_neg x1] at he
        by_cases x2 : x = p
        · rw [if_pos x2] at he
          by_cases y1 : y < p
          · rw [if_pos y1] at he
            exact absurd he.symm (hne y (by omega))
          · rw [if_neg y1] at he
            by_cases y2 : y = p
            · omega
            · rw [if_neg y2] at he
              exact absurd he.symm (hne (y - 1) (by omega))
        · rw [if_neg x2] at he
          by_cases y1 : y < p
          · rw [if_pos y1] at he
            have := ih (x - 1) y (by omega) (by omega) he
            omega
          · rw [if_neg y1] at he
            by_cases y2 : y = p
            · rw [if_pos y2] at he
              exact absurd he (hne (x - 1) (by omega))
            · rw [if_neg y2] at he
              have := ih (x - 1) (y - 1) (by omega) (by omega) he
              omega
theorem p_od_inj (cnt : Nat) (tm : Nat → Nat → Int32) (bk : Nat → Int32) : ∀ i x y, x < (q_od cnt tm bk i).2 → y < (q_od cnt tm bk i).2 → (q_od cnt tm bk i).1 x = (q_od cnt tm bk i).1 y → x = y
  | 0, x, y, _, _, h => h
  | i + 1, x, y, hx, hy, h => p_so_inj _ _ _ _ _ (p_od_inj cnt tm bk i) x y hx hy h
theorem p_so_in (S bk : Nat → Int32) (i : Nat) (rin : Nat → Nat) : ∀ k k', k' < k → ¬ bk (rin k') = nI i → ∃ j, j < (q_so S bk i rin k).2 ∧ (q_so S bk i rin k).1 j = rin k'
  | 0, k', h, _ => absurd h (Nat.not_lt_zero _)
  | k + 1, k', h, hb => by
    unfold q_so
    by_cases e : bk (rin k) = nI i
    · rw [if_pos e]
      have : k' ≠ k := fun q => hb (by rw [q]; exact e)
      exact p_so_in S bk i rin k k' (by omega) hb
    · rw [if_neg e]
      have hp := q_ps_le (q_ah S (rin k)) (q_so S bk i rin k).1 (q_so S bk i rin k).2
      dsimp only
      by_cases q : k' = k
      · refine ⟨q_ps (q_ah S (rin k)) (q_so S bk i rin k).1 (q_so S bk i rin k).2, by omega, ?_⟩
        unfold q_io
        rw [if_neg (by omega), if_pos rfl, q]
      · obtain ⟨j, j1, j2⟩ := p_so_in S bk i rin k k' (by omega) hb
        by_cases g : j < q_ps (q_ah S (rin k)) (q_so S bk i rin k).1 (q_so S bk i rin k).2
        · refine ⟨j, by omega, ?_⟩
          unfold q_io
          rw [if_pos g, j2]
        · refine ⟨j + 1, by omega, ?_⟩
          unfold q_io
          rw [if_neg (by omega), if_neg (by omega), show j + 1 - 1 = j by omega, j2]
theorem p_ar {bg : Int32} {tm bk : Nat → Int32} {i : Nat} {rin : Nat → Nat} : ∀ n r, (∀ k, k < n → ¬ bg + 2 * nI k + tm (rin k) = -1) → (q_ar bg tm bk i rin n r = -1 ↔ ∀ k, k < n → r = rin k → bk (rin k) = nI i)
  | 0, r, _ => ⟨fun _ k hk => absurd hk (Nat.not_lt_zero _), fun _ => rfl⟩
  | n + 1, r, h => by
    have ih := p_ar n r (fun k hk => h k (by omega)) (bk := bk) (i := i)
    unfold q_ar
    by_cases e : r = rin n ∧ ¬ bk (rin n) = nI i
    · rw [if_pos e]
      exact ⟨fun q => absurd q (h n (by omega)), fun q => absurd (q n (by omega) e.1) e.2⟩
    · rw [if_neg e, ih]
      refine ⟨fun q k hk hr => ?_, fun q k hk => q k (by omega)⟩
      by_cases g : k = n
      · subst g
        exact Classical.byContradiction fun z => e ⟨hr, z⟩
      · exact q k (by omega) hr
theorem p_su {S bk : Nat → Int32} {i : Nat} {rin : Nat → Nat} : ∀ n r, (∀ k, k < n → r = rin k → bk (rin k) = nI i) → q_su S bk i rin n r = -1
  | 0, r, _ => rfl
  | n + 1, r, h => by
    unfold q_su
    rw [if_neg (fun q => q.2 (h n (by omega) q.1))]
    exact p_su n r (fun k hk => h k (by omega))
theorem p_pl_no {f : Nat → Int32} {o : Nat → Nat} {r : Nat} : ∀ m, (∀ p, p < m → ¬ o p = r) → q_pl f o m r = f r
  | 0, _ => rfl
  | m + 1, h => by
    unfold q_pl
    rw [if_neg (fun q => h m (by omega) q.symm)]
    exact p_pl_no m (fun p hp => h p (by omega))
theorem p_pl_at {f : Nat → Int32} {o : Nat → Nat} {r j : Nat} (hj : o j = r) : ∀ m, j < m → (∀ p, p < m → o p = r → p = j) → q_pl f o m r = nI j
  | 0, h, _ => absurd h (Nat.not_lt_zero _)
  | m + 1, h, hu => by
    unfold q_pl
    by_cases e : r = o m
    · rw [if_pos e, hu m (by omega) e.symm]
    · rw [if_neg e]
      have : j ≠ m := fun q => e (by rw [← q, hj])
      exact p_pl_at hj m (by omega) (fun p hp => hu p (by omega))
theorem p_tm {I : q_I} (h : q_BD I) {i r : Nat} (hi : i < 7) (hr : r < i_cnt I) : ∃ q, q ≤ 5400 ∧ i_tm I i r = nI q := by
  obtain ⟨n, en, hn⟩ := h.1 i hi
  obtain ⟨a, ea, a1, a2⟩ := h.2.2.1 r hr
  obtain ⟨hK, f, t, v, hz, hzz⟩ := h.2.2.2.2.2.2.2 i hi
  obtain ⟨⟨q, q1, q2, q3⟩, _⟩ := t_both a1 a2 hn hz hK hzz hzz
  exact ⟨q, q1, by unfold i_tm; rw [ea, en, q2]⟩
theorem p_ran {I : q_I} (h : q_BD I) {i r : Nat} (hi : i < 7) : (i_ar I i r = -1 ∧ q_pl (fun _ => -1) (i_o I i) (i_cm I i) r = -1 ∧ q_su (q_S (i_tm I) i) (i_bk I) i (i_od I i).1 (i_od I i).2 r = -1) ∨ ∃ j, j < i_cm I i ∧ i_o I i j = r ∧ (∀ x, x < j → ¬ i_o I i x = r) ∧ ¬ i_ar I i r = -1 ∧ q_pl (fun _ => -1) (i_o I i) (i_cm I i) r = nI j ∧ q_su (q_S (i_tm I) i) (i_bk I) i (i_od I i).1 (i_od I i).2 r = q_S (i_tm I) i r := by
  have hc := h.2.2.2.2.2.2.1
  obtain ⟨g, g1, g2, _⟩ := p_bg h hi
  have hn : (i_od I i).2 ≤ i_cnt I := q_od_le _ _ _ _
  have har := p_ar (bg := i_bg I i) (tm := i_tm I i) (bk := i_bk I) (i := i) (rin := (i_od I i).1) (i_od I i).2 r (fun k hk => by
    obtain ⟨q, q1, q2⟩ := p_tm h hi (q_od_lt _ _ _ i k hk)
    have q2 : i_tm I i ((i_od I i).1 k) = nI q := q2
    rw [q2, g1, show (2 : Int32) = nI 2 from rfl, pk_mul, nI_add, nI_add]
    exact p_nm1 (by omega))
  by_cases e : ∀ k, k < (i_od I i).2 → r = (i_od I i).1 k → i_bk I ((i_od I i).1 k) = nI i
  · left
    refine ⟨har.mpr e, p_pl_no (i_cm I i) (fun p hp q => ?_), p_su _ _ e⟩
    obtain ⟨k', k1, k2, k3⟩ := q_so_mem (q_S (i_tm I) i) (i_bk I) i (i_od I i).1 (i_od I i).2 p hp
    exact k3 (e k' k1 (by rw [← q]; exact k2))
  · right
    obtain ⟨k, hk⟩ := Classical.not_forall.mp e
    obtain ⟨k1, hk⟩ := Classical.not_imp.mp hk
    obtain ⟨k2, k3⟩ := Classical.not_imp.mp hk
    obtain ⟨j, j1, j2⟩ := p_so_in (q_S (i_tm I) i) (i_bk I) i (i_od I i).1 (i_od I i).2 k k1 k3
    have j1 : j < i_cm I i := j1
    have j2 : i_o I i j = r := by rw [k2]; exact j2
    have hinj : ∀ x, x < i_cm I i → i_o I i x = r → x = j := fun x hx q => p_od_inj _ _ _ (i + 1) x j hx j1 (q.trans j2.symm)
    refine ⟨j, j1, j2, fun x hx q => ?_, fun q => e (har.mp q), p_pl_at j2 _ j1 hinj, ?_⟩
    · have := hinj x (by omega) q
      omega
    · rw [k2]
      exact q_su_S _ _ _ _ _ k k1 k3
/-! bytes -/
theorem p_byte (y : Int32) : ∃ a, a < 256 ∧ y &&& 255 = nI a ∧ y.toInt8.toInt32 &&& 255 = nI a := by
  refine ⟨y.toBitVec.toNat % 2 ^ 8, Nat.mod_lt _ (by decide), pk_and y 8 rfl, ?_⟩
  rw [pk_and y.toInt8.toInt32 8 rfl]
  congr 1
  have e : y.toInt8.toInt32.toBitVec = (y.toBitVec.signExtend 8).signExtend 32 := rfl
  rw [e]
  generalize y.toBitVec = z
  rw [← BitVec.toNat_setWidth, ← BitVec.toNat_setWidth]
  congr 1
  apply BitVec.eq_of_getLsbD_eq
  intro k hk
  rw [BitVec.getLsbD_setWidth, BitVec.getLsbD_signExtend, BitVec.getLsbD_signExtend, BitVec.getLsbD_setWidth]
  simp [hk, show k < 32 by omega]
