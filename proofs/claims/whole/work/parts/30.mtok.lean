/-! ===== tokens: the reference ===== -/
def q_wc (x : Int64) : Int32 := if x = 2054123109 then 3 else if x = 1718775661 then 4 else if x = 29807 then 5 else if x = 24948 then 6 else 1
def q_wl (Y : Nat → Int32) (s : Nat) : Nat → Int64
  | 0 => 0
  | n + 1 => if n < 5 then (q_wl Y s n <<< ((8 : Int32).toInt64 &&& 63)) ||| (Y (s + n)).toInt64 else q_wl Y s n
def q_wk (Y : Nat → Int32) (s e : Nat) : Int32 := if q_wd Y s e 0 then 3 else if q_wd Y s e 1 then 4 else if q_wd Y s e 2 then 5 else if q_wd Y s e 3 then 6 else 1
def q_cd (Y : Nat → Int32) (L s : Nat) : Int32 := if s < L then (if q_lt (Y s) = true then q_wk Y s (q_te Y L s) else if q_dg (Y s) = true then (if q_te Y L s - s ≤ 3 then 2 else 1) else if Y s = 59 then 59 else 1) else 0
theorem q_lNv (n : Nat) : (lN n).toBitVec.toNat = n % 2 ^ 64 := by
  show (BitVec.ofNat 64 n).toNat = n % 2 ^ 64
  exact BitVec.toNat_ofNat _ _
theorem q_lNe {a b : Nat} (ha : a < 2 ^ 64) (hb : b < 2 ^ 64) : lN a = lN b ↔ a = b := by
  refine ⟨fun h => ?_, fun h => by rw [h]⟩
  have h1 : (lN a).toBitVec.toNat = (lN b).toBitVec.toNat := by rw [h]
  rw [q_lNv, q_lNv, Nat.mod_eq_of_lt ha, Nat.mod_eq_of_lt hb] at h1
  exact h1
theorem q_lso {v a : Nat} (hv : v < 2 ^ 40) (ha : a < 256) : lN v <<< ((8 : Int32).toInt64 &&& 63) ||| lN a = lN (v * 256 + a) := by
  apply Int64.toBitVec_inj.mp
  apply BitVec.eq_of_toNat_eq
  rw [q_lNv, Int64.toBitVec_or, BitVec.toNat_or, q_lNv, Int64.toBitVec_shiftLeft]
  have e : (((8 : Int32).toInt64 &&& 63).toBitVec.smod 64) = 8#64 := by decide +kernel
  rw [e]
  show ((lN v).toBitVec <<< (8#64).toNat).toNat ||| a % 2 ^ 64 = _
  rw [BitVec.toNat_shiftLeft, q_lNv, show (8#64).toNat = 8 from rfl, Nat.shiftLeft_eq, Nat.mod_eq_of_lt (show v < 2 ^ 64 by omega), Nat.mod_eq_of_lt (show v * 2 ^ 8 < 2 ^ 64 by omega), Nat.mod_eq_of_lt (show a < 2 ^ 64 by omega), Nat.mod_eq_of_lt (show v * 256 + a < 2 ^ 64 by omega)]
  have h9 := Nat.two_pow_add_eq_or_of_lt (i := 8) (b := a) (by omega) v
  rw [Nat.mul_comm] at h9
  omega
theorem q_wl_1 {Y : Nat → Int32} {s n v a : Nat} (hn : n < 5) (h : q_wl Y s n = lN v) (hv : v < 2 ^ 40) (ha : a < 256) (hY : Y (s + n) = nI a) : q_wl Y s (n + 1) = lN (v * 256 + a) := by
  unfold q_wl
  rw [if_pos hn, h, hY, nI_l (by omega)]
  exact q_lso hv ha
theorem q_ltn {c : Int32} (h : q_lt c = true) : ∃ a, 1 ≤ a ∧ a < 256 ∧ c = nI a := by
  have hd := of_decide_eq_true h
  rcases hd with hd | hd
  · obtain ⟨j, h1, h2⟩ := nI_of2 (n := 122) (M := 122) rfl (Int32.not_lt.mpr (Int32.le_trans (by decide) hd.1)) hd.2
    have h3 := hd.1
    rw [h2] at h3
    have h4 := (nI_leI (a := 97) (b := j) (by omega) (by omega)).mp h3
    exact ⟨j, by omega, by omega, h2⟩
  · obtain ⟨j, h1, h2⟩ := nI_of2 (n := 90) (M := 90) rfl (Int32.not_lt.mpr (Int32.le_trans (by decide) hd.1)) hd.2
    have h3 := hd.1
    rw [h2] at h3
    have h4 := (nI_leI (a := 65) (b := j) (by omega) (by omega)).mp h3
    exact ⟨j, by omega, by omega, h2⟩
theorem q_ws4 {Y : Nat → Int32} {s i : Nat} {a b c d : Int32} (h : q_kb.getD i [] = [a, b, c, d]) : q_ws Y s i 4 0 = true ↔ Y s = a ∧ Y (s + 1) = b ∧ Y (s + 2) = c ∧ Y (s + 3) = d := by
  unfold q_ws
  rw [h]
  show (if Y s = a then q_ws Y s i 3 1 else false) = true ↔ _
  unfold q_ws
  rw [h]
  show (if Y s = a then (if Y (s + 1) = b then q_ws Y s i 2 2 else false) else false) = true ↔ _
  unfold q_ws
  rw [h]
  show (if Y s = a then (if Y (s + 1) = b then (if Y (s + 2) = c then q_ws Y s i 1 3 else false) else false) else false) = true ↔ _
  unfold q_ws
  rw [h]
  show (if Y s = a then (if Y (s + 1) = b then (if Y (s + 2) = c then (if Y (s + 3) = d then true else false) else false) else false) else false) = true ↔ _
  by_cases h1 : Y s = a <;> by_cases h2 : Y (s + 1) = b <;> by_cases h3 : Y (s + 2) = c <;> by_cases h4 : Y (s + 3) = d <;> simp [h1, h2, h3, h4]
theorem q_ws2 {Y : Nat → Int32} {s i : Nat} {a b : Int32} (h : q_kb.getD i [] = [a, b]) : q_ws Y s i 2 0 = true ↔ Y s = a ∧ Y (s + 1) = b := by
  unfold q_ws
  rw [h]
  show (if Y s = a then q_ws Y s i 1 1 else false) = true ↔ _
  unfold q_ws
  rw [h]
  show (if Y s = a then (if Y (s + 1) = b then true else false) else false) = true ↔ _
  by_cases h1 : Y s = a <;> by_cases h2 : Y (s + 1) = b <;> simp [h1, h2]
theorem q_wd0 {Y : Nat → Int32} {s e : Nat} : q_wd Y s e 0 ↔ e - s = 4 ∧ Y s = 122 ∧ Y (s + 1) = 111 ∧ Y (s + 2) = 110 ∧ Y (s + 3) = 101 := by
  show (e - s = 4 ∧ q_ws Y s 0 4 0 = true) ↔ _
  rw [q_ws4 (i := 0) rfl]
theorem q_wd1 {Y : Nat → Int32} {s e : Nat} : q_wd Y s e 1 ↔ e - s = 4 ∧ Y s = 102 ∧ Y (s + 1) = 114 ∧ Y (s + 2) = 111 ∧ Y (s + 3) = 109 := by
  show (e - s = 4 ∧ q_ws Y s 1 4 0 = true) ↔ _
  rw [q_ws4 (i := 1) rfl]
theorem q_wd2 {Y : Nat → Int32} {s e : Nat} : q_wd Y s e 2 ↔ e - s = 2 ∧ Y s = 116 ∧ Y (s + 1) = 111 := by
  show (e - s = 2 ∧ q_ws Y s 2 2 0 = true) ↔ _
  rw [q_ws2 (i := 2) rfl]
theorem q_wd3 {Y : Nat → Int32} {s e : Nat} : q_wd Y s e 3 ↔ e - s = 2 ∧ Y s = 97 ∧ Y (s + 1) = 116 := by
  show (e - s = 2 ∧ q_ws Y s 3 2 0 = true) ↔ _
  rw [q_ws2 (i := 3) rfl]
theorem q_wcw {Y : Nat → Int32} {s e : Nat} {x : Int64} (h0 : x = 2054123109 ↔ q_wd Y s e 0) (h1 : x = 1718775661 ↔ q_wd Y s e 1) (h2 : x = 29807 ↔ q_wd Y s e 2) (h3 : x = 24948 ↔ q_wd Y s e 3) : q_wc x = q_wk Y s e := by
  unfold q_wc q_wk
  simp only [h0, h1, h2, h3]
theorem q_nIe {a c : Nat} (ha : a < 256) (hc : c < 256) : nI a = nI c ↔ a = c := nI_eq (by omega) (by omega)
theorem q_word {Y : Nat → Int32} {s e : Nat} (h1 : s < e) (h4 : e - s < 5) (hb : ∀ q, s ≤ q → q < e → q_lt (Y q) = true) : q_wc (q_wl Y s (e - s)) = q_wk Y s e := by
  obtain ⟨a, a1, a2, a3⟩ := q_ltn (hb s (Nat.le_refl _) h1)
  have w0 : q_wl Y s 0 = lN 0 := rfl
  have w1 := q_wl_1 (by decide) w0 (by decide) a2 a3
  rw [show (0 * 256 + a) = a by omega] at w1
  have hk : e - s = 1 ∨ e - s = 2 ∨ e - s = 3 ∨ e - s = 4 := by omega
  have e0 : (2054123109 : Int64) = lN 2054123109 := by decide +kernel
  have e1 : (1718775661 : Int64) = lN 1718775661 := by decide +kernel
  have e2 : (29807 : Int64) = lN 29807 := by decide +kernel
  have e3 : (24948 : Int64) = lN 24948 := by decide +kernel
  rcases hk with hk | hk | hk | hk
  · apply q_wcw
    · rw [hk, w1, e0, q_lNe (by omega) (by omega), q_wd0]; omega
    · rw [hk, w1, e1, q_lNe (by omega) (by omega), q_wd1]; omega
    · rw [hk, w1, e2, q_lNe (by omega) (by omega), q_wd2]; omega
    · rw [hk, w1, e3, q_lNe (by omega) (by omega), q_wd3]; omega
  · obtain ⟨b, b1, b2, b3⟩ := q_ltn (hb (s + 1) (by omega) (by omega))
    have w2 := q_wl_1 (by decide) w1 (by omega) b2 b3
    apply q_wcw
    · rw [hk, w2, e0, q_lNe (by omega) (by omega), q_wd0]; omega
    · rw [hk, w2, e1, q_lNe (by omega) (by omega), q_wd1]; omega
    · rw [hk, w2, e2, q_lNe (by omega) (by omega), q_wd2, a3, b3, show (116 : Int32) = nI 116 from rfl, show (111 : Int32) = nI 111 from rfl, q_nIe a2 (by decide), q_nIe b2 (by decide)]; omega
    · rw [hk, w2, e3, q_lNe (by omega) (by omega), q_wd3, a3, b3, show (97 : Int32) = nI 97 from rfl, show (116 : Int32) = nI 116 from rfl, q_nIe a2 (by decide), q_nIe b2 (by decide)]; omega
  · obtain ⟨b, b1, b2, b3⟩ := q_ltn (hb (s + 1) (by omega) (by omega))
    obtain ⟨c, c1, c2, c3⟩ := q_ltn (hb (s + 2) (by omega) (by omega))
    have w2 := q_wl_1 (by decide) w1 (by omega) b2 b3
    have w3 := q_wl_1 (by decide) w2 (by omega) c2 c3
    apply q_wcw
    · rw [hk, w3, e0, q_lNe (by omega) (by omega), q_wd0]; omega
    · rw [hk, w3, e1, q_lNe (by omega) (by omega), q_wd1]; omega
    · rw [hk, w3, e2, q_lNe (by omega) (by omega), q_wd2]; omega
    · rw [hk, w3, e3, q_lNe (by omega) (by omega), q_wd3]; omega
  · obtain ⟨b, b1, b2, b3⟩ := q_ltn (hb (s + 1) (by omega) (by omega))
    obtain ⟨c, c1, c2, c3⟩ := q_ltn (hb (s + 2) (by omega) (by omega))
    obtain ⟨d, d1, d2, d3⟩ := q_ltn (hb (s + 3) (by omega) (by omega))
    have w2 := q_wl_1 (by decide) w1 (by omega) b2 b3
    have w3 := q_wl_1 (by decide) w2 (by omega) c2 c3
    have w4 := q_wl_1 (by decide) w3 (by omega) d2 d3
    apply q_wcw
    · rw [hk, w4, e0, q_lNe (by omega) (by omega), q_wd0, a3, b3, c3, d3, show (122 : Int32) = nI 122 from rfl, show (111 : Int32) = nI 111 from rfl, show (110 : Int32) = nI 110 from rfl, show (101 : Int32) = nI 101 from rfl, q_nIe a2 (by decide), q_nIe b2 (by decide), q_nIe c2 (by decide), q_nIe d2 (by decide)]; omega
    · rw [hk, w4, e1, q_lNe (by omega) (by omega), q_wd1, a3, b3, c3, d3, show (102 : Int32) = nI 102 from rfl, show (114 : Int32) = nI 114 from rfl, show (111 : Int32) = nI 111 from rfl, show (109 : Int32) = nI 109 from rfl, q_nIe a2 (by decide), q_nIe b2 (by decide), q_nIe c2 (by decide), q_nIe d2 (by decide)]; omega
    · rw [hk, w4, e2, q_lNe (by omega) (by omega), q_wd2]; omega
    · rw [hk, w4, e3, q_lNe (by omega) (by omega), q_wd3]; omega
theorem q_wk_5 {Y : Nat → Int32} {s e : Nat} (h : ¬ e - s < 5) : q_wk Y s e = 1 := by
  unfold q_wk
  rw [if_neg (fun q => by have := (q_wd0.mp q).1; omega), if_neg (fun q => by have := (q_wd1.mp q).1; omega), if_neg (fun q => by have := (q_wd2.mp q).1; omega), if_neg (fun q => by have := (q_wd3.mp q).1; omega)]
theorem q_nv_s {Y : Nat → Int32} : ∀ k p a, q_nv Y (k + 1) p a = 10 * q_nv Y k p a + (Y (p + k) - 48) := by
  intro k
  induction k with
  | zero => intro p a; rfl
  | succ k ih =>
    intro p a
    rw [q_nv, ih (p + 1), show p + 1 + k = p + (k + 1) by omega]
    rfl
def q_TM (μ : q_M) (Y : Nat → Int32) (L : Nat) : Prop := μ 122 12 = nI L ∧ ∀ p, p < L → μ 133 p = Y p
def q_nx (Y : Nat → Int32) (L s : Nat) : Nat := if s < L then q_te Y L s else s
def q_TK (μ : q_M) (Y : Nat → Int32) (L s : Nat) : Prop := μ 122 15 = nI s ∧ μ 122 14 = q_cd Y L s ∧ μ 122 13 = nI (q_nx Y L s) ∧ (q_cd Y L s = 2 → μ 122 16 = q_nu Y s (q_te Y L s))
def q_NF (μ μ' : q_M) : Prop := ∀ c j, (c = 122 → j < 13 ∨ 16 < j) → μ' c j = μ c j
def q_dm (M : q_M) (v i : Int32) : q_M := fun c j => if c = 122 ∧ j = 13 then i else if c = 122 ∧ j = 16 then v else M c j
theorem q_dm_s {M : q_M} {v i v' i' : Int32} : q_up (q_up (q_dm M v i) 122 16 v') 122 13 i' = q_dm M v' i' := by
  funext c j
  unfold q_up q_dm
  by_cases h : c = 122 ∧ j = 13
  · rw [if_pos h, if_pos h]
  · rw [if_neg h, if_neg h]
    by_cases h2 : c = 122 ∧ j = 16
    · rw [if_pos h2]; simp only [if_neg h, if_pos h2]
    · simp only [if_neg h, if_neg h2]
theorem q_dm_t {M : q_M} {v i i' : Int32} : q_up (q_dm M v i) 122 13 i' = q_dm M v i' := by
  funext c j
  unfold q_up q_dm
  by_cases h : c = 122 ∧ j = 13
  · rw [if_pos h, if_pos h]
  · rw [if_neg h, if_neg h]
    simp only [if_neg h]
theorem q_upup {M : q_M} {c k : Nat} {v v' : Int32} : q_up (q_up M c k v) c k v' = q_up M c k v' := by
  funext x y
  unfold q_up
  by_cases h : x = c ∧ y = k
  · rw [if_pos h, if_pos h]
  · rw [if_neg h, if_neg h, if_neg h]
section MT
variable {C : q_C} {l : Launch} {μ : q_M} {ρ : q_R}
set_option maxRecDepth 100000 in
set_option maxHeartbeats 4000000 in
theorem c_Mdigit (c : Int32) : q_Ct C l FX8_isDigit 1 142 142 [.int c] μ ρ (q_is (q_b (q_dg c = true)) μ ρ) := by
  refine q_entry rfl (by decide) (Nat.le_of_ble_eq_true rfl) ?_
  refine g_lv [(0, _)] rfl ?_
  refine g_iload_n 1 dX8_isDigit_0 rfl rfl ?_
  refine g_bipush 3 48 dX8_isDigit_1 rfl (by decide) ?_
  refine g_bipush 5 57 dX8_isDigit_3 rfl (by decide) ?_
  refine g_Si 8 [_, _, _] _ dX8_isDigit_5 rfl m_X8_isIn l_X8_71 rfl (c_isIn _ _ _) rfl (Nat.le_of_ble_eq_true rfl) (by decide) (fun v5 μ5 ρ5 hc9 => ?_)
  obtain ⟨rfl, rfl, rfl⟩ := hc9
  exact g_rz dX8_isDigit_8 rfl q_b_01 rfl ⟨q_bdec.symm, rfl, rfl⟩
set_option maxRecDepth 100000 in
set_option maxHeartbeats 4000000 in
theorem c_Mletter (c : Int32) : q_Ct C l FX8_isLetter 1 142 142 [.int c] μ ρ (q_is (q_b (q_lt c = true)) μ ρ) := by
  refine q_entry rfl (by decide) (Nat.le_of_ble_eq_true rfl) ?_
  refine g_lv [(0, _)] rfl ?_
  refine g_iload_n 1 dX8_isLetter_0 rfl rfl ?_
  refine g_bipush 3 97 dX8_isLetter_1 rfl (by decide) ?_
  refine g_bipush 5 122 dX8_isLetter_3 rfl (by decide) ?_
  refine g_Si 8 [_, _, _] _ dX8_isLetter_5 rfl m_X8_isIn l_X8_71 rfl (c_isIn _ _ _) rfl (Nat.le_of_ble_eq_true rfl) (by decide) (fun v5 μ5 ρ5 hc9 => ?_)
  obtain ⟨rfl, rfl, rfl⟩ := hc9
  refine g_if_ne 22 11 dX8_isLetter_8 rfl (by decide) (fun h8 => ?_) (fun h8 => ?_)
  · refine g_iconst 23 1 dX8_isLetter_22 rfl (by decide) ?_
    refine g_goto 27 dX8_isLetter_23 (by decide) ?_
    exact g_rz dX8_isLetter_27 rfl (by first | exact Or.inl rfl | exact Or.inr rfl | assumption) rfl ⟨q_b_t (decide_eq_true (Or.inl (q_b_n.mp h8))), rfl, rfl⟩
  · refine g_iload_n 12 dX8_isLetter_11 rfl rfl ?_
    refine g_bipush 14 65 dX8_isLetter_12 rfl (by decide) ?_
    refine g_bipush 16 90 dX8_isLetter_14 rfl (by decide) ?_
    refine g_Si 19 [_, _, _] _ dX8_isLetter_16 rfl m_X8_isIn l_X8_71 rfl (c_isIn _ _ _) rfl (Nat.le_of_ble_eq_true rfl) (by decide) (fun v16 μ16 ρ16 hc9 => ?_)
    obtain ⟨rfl, rfl, rfl⟩ := hc9
    refine g_if_eq 26 22 dX8_isLetter_19 rfl (by decide) (fun h19 => ?_) (fun h19 => ?_)
    · refine g_iconst 27 0 dX8_isLetter_26 rfl (by decide) ?_
      exact g_rz dX8_isLetter_27 rfl (by first | exact Or.inl rfl | exact Or.inr rfl | assumption) rfl ⟨q_b_f (fun q => (of_decide_eq_true q).elim (q_b_0.mp h8) (q_b_0.mp h19)), rfl, rfl⟩
    · refine g_iconst 23 1 dX8_isLetter_22 rfl (by decide) ?_
      refine g_goto 27 dX8_isLetter_23 (by decide) ?_
      exact g_rz dX8_isLetter_27 rfl (by first | exact Or.inl rfl | exact Or.inr rfl | assumption) rfl ⟨q_b_t (decide_eq_true (Or.inr (q_b_n.mp h19))), rfl, rfl⟩
set_option maxRecDepth 100000 in
set_option maxHeartbeats 4000000 in
theorem c_Mword (x : Int64) : q_Ct C l FX8_word 0 142 142 [.long x] μ ρ (q_is (q_wc x) μ ρ) := by
  refine q_entry rfl (by decide) (Nat.le_of_ble_eq_true rfl) ?_
  refine g_lv [(0, _)] rfl ?_
  refine g_lload_n 1 dX8_word_0 rfl rfl ?_
  refine g_ldc2 4 2054123109 dX8_word_1 rfl n_X8_95 ?_
  refine g_lcmp 5 dX8_word_4 rfl ?_
  refine g_if_ne 10 8 dX8_word_5 rfl (by decide) (fun h5 => ?_) (fun h5 => ?_)
  · refine g_lload_n 11 dX8_word_10 rfl rfl ?_
    refine g_ldc2 14 1718775661 dX8_word_11 rfl n_X8_97 ?_
    refine g_lcmp 15 dX8_word_14 rfl ?_
    refine g_if_ne 20 18 dX8_word_15 rfl (by decide) (fun h15 => ?_) (fun h15 => ?_)
    · refine g_lload_n 21 dX8_word_20 rfl rfl ?_
      refine g_ldc2 24 29807 dX8_word_21 rfl n_X8_99 ?_
      refine g_lcmp 25 dX8_word_24 rfl ?_
      refine g_if_ne 30 28 dX8_word_25 rfl (by decide) (fun h25 => ?_) (fun h25 => ?_)
      · refine g_lload_n 31 dX8_word_30 rfl rfl ?_
        refine g_ldc2 34 24948 dX8_word_31 rfl n_X8_101 ?_
        refine g_lcmp 35 dX8_word_34 rfl ?_
        refine g_if_ne 43 38 dX8_word_35 rfl (by decide) (fun h35 => ?_) (fun h35 => ?_)
        · refine g_iconst 44 1 dX8_word_43 rfl (by decide) ?_
          exact g_ri dX8_word_44 rfl rfl ⟨by unfold q_wc; rw [if_neg (fun q => h5 (q_lcmp0.mpr q)), if_neg (fun q => h15 (q_lcmp0.mpr q)), if_neg (fun q => h25 (q_lcmp0.mpr q)), if_neg (fun q => h35 (q_lcmp0.mpr q))], rfl, rfl⟩
        · refine g_bipush 40 6 dX8_word_38 rfl (by decide) ?_
          refine g_goto 44 dX8_word_40 (by decide) ?_
          exact g_ri dX8_word_44 rfl rfl ⟨by unfold q_wc; rw [if_neg (fun q => h5 (q_lcmp0.mpr q)), if_neg (fun q => h15 (q_lcmp0.mpr q)), if_neg (fun q => h25 (q_lcmp0.mpr q)), if_pos (q_lcmp0.mp h35)], rfl, rfl⟩
      · refine g_iconst 29 5 dX8_word_28 rfl (by decide) ?_
        exact g_ri dX8_word_29 rfl rfl ⟨by unfold q_wc; rw [if_neg (fun q => h5 (q_lcmp0.mpr q)), if_neg (fun q => h15 (q_lcmp0.mpr q)), if_pos (q_lcmp0.mp h25)], rfl, rfl⟩
    · refine g_iconst 19 4 dX8_word_18 rfl (by decide) ?_
      exact g_ri dX8_word_19 rfl rfl ⟨by unfold q_wc; rw [if_neg (fun q => h5 (q_lcmp0.mpr q)), if_pos (q_lcmp0.mp h15)], rfl, rfl⟩
  · refine g_iconst 9 3 dX8_word_8 rfl (by decide) ?_
    exact g_ri dX8_word_9 rfl rfl ⟨by unfold q_wc; rw [if_pos (q_lcmp0.mp h5)], rfl, rfl⟩
end MT
section MN
variable {C : q_C} {l : Launch} {μ : q_M} {b : Bool} {Y : Nat → Int32} {L : Nat}
set_option maxRecDepth 100000 in
set_option maxHeartbeats 4000000 in
theorem c_see (hY : q_TY Y L) (hM : q_TM μ Y L) (p : Nat) (hp : p < 2 ^ 31) : q_Ct C l FX8_see 0 142 142 [.ref (q_a C 122), .int (nI p)] μ (q_ρ b) (q_is (Y p) μ (q_ρ b)) := by
  refine q_entry rfl (by decide) (Nat.le_of_ble_eq_true rfl) ?_
  refine g_lv [(0, _), (1, _)] rfl ?_
  refine g_iload_n 1 dX8_see_0 rfl rfl ?_
  refine g_aload_n 2 dX8_see_1 rfl rfl ?_
  refine g_getI 5 dX8_see_2 rfl f_X8_92 (by decide) rfl rfl ?_
  rw [hM.1]
  have hL9 := hY.1
  refine g_icmp_ge 17 8 dX8_see_5 rfl (by decide) (fun h5 => ?_) (fun h5 => ?_)
  · refine g_iconst 18 (-1) dX8_see_17 rfl (by decide) ?_
    exact g_ri dX8_see_18 rfl rfl ⟨hY.2.1 p ((nI_leI (by omega) hp).mp h5), rfl, rfl⟩
  · refine g_aload_n 9 dX8_see_8 rfl rfl ?_
    refine g_getR 12 _ dX8_see_9 rfl f_X8_40 (by decide) rfl rfl rfl ?_
    refine g_iload_n 13 dX8_see_12 rfl rfl ?_
    refine g_iald 14 dX8_see_13 rfl (by decide) rfl (vp_in_nI (show p < 600 from Nat.lt_of_lt_of_le (Nat.not_le.mp (fun q => h5 (nI_le q hp))) hY.1) (by omega)) ?_
    rw [nI_clamp hp]
    refine g_goto 18 dX8_see_14 (by decide) ?_
    exact g_ri dX8_see_18 rfl rfl ⟨(hM.2 p (Nat.not_le.mp (fun q => h5 (nI_le q hp)))).symm, rfl, rfl⟩
theorem q_TM_up {c k : Nat} {v : Int32} (h : q_TM μ Y L) (hc : c = 122 ∧ k ≠ 12 ∨ c ≠ 122 ∧ c ≠ 133) : q_TM (q_up μ c k v) Y L := ⟨by rw [q_upo (by omega)]; exact h.1, fun p hp => by rw [q_upo (by omega)]; exact h.2 p hp⟩
theorem q_TM_m2 {v i : Int32} (h : q_TM μ Y L) : q_TM (q_dm μ v i) Y L := ⟨by unfold q_dm; rw [if_neg (by omega), if_neg (by omega)]; exact h.1, fun p hp => by unfold q_dm; rw [if_neg (by omega), if_neg (by omega)]; exact h.2 p hp⟩
def q_NQ (Y : Nat → Int32) (L : Nat) (b : Bool) (μ : q_M) (s : Nat) (μ' : q_M) (ρ' : q_R) : Prop := q_ρ b = ρ' ∧ q_NF μ μ' ∧ q_TK μ' Y L s
theorem q_NQ_l {s : Nat} (hs : s < L) (hl : q_lt (Y s) = true) {n : Nat} {v : Int32} (he : s + n = q_te Y L s) (hv : v = q_wk Y s (q_te Y L s)) : q_NQ Y L b μ s (q_up (q_up (q_up μ 122 15 (nI s)) 122 13 (nI (s + n))) 122 14 v) (q_ρ b) := by
  have hcd : q_cd Y L s = v := by rw [hv, q_cd, if_pos hs, if_pos hl]
  refine ⟨rfl, fun c j h => ?_, ?_, ?_, ?_, fun h2 => ?_⟩
  · rw [q_upo (by omega), q_upo (by omega), q_upo (by omega)]
  · rw [q_upo (by omega), q_upo (by omega), q_ups]
  · rw [q_ups]; exact hcd.symm
  · rw [q_upo (by omega), q_ups, q_nx, if_pos hs, he]
  · exfalso
    rw [hcd, hv] at h2
    unfold q_wk at h2
    by_cases g0 : q_wd Y s (q_te Y L s) 0
    · rw [if_pos g0] at h2; exact absurd h2 (by decide)
    · rw [if_neg g0] at h2
      by_cases g1 : q_wd Y s (q_te Y L s) 1
      · rw [if_pos g1] at h2; exact absurd h2 (by decide)
      · rw [if_neg g1] at h2
        by_cases g2 : q_wd Y s (q_te Y L s) 2
        · rw [if_pos g2] at h2; exact absurd h2 (by decide)
        · rw [if_neg g2] at h2
          by_cases g3 : q_wd Y s (q_te Y L s) 3
          · rw [if_pos g3] at h2; exact absurd h2 (by decide)
          · rw [if_neg g3] at h2; exact absurd h2 (by decide)
theorem q_te_al {s : Nat} (hs : q_lt (Y s) = true) : ∀ q, s ≤ q → q < q_te Y L s → q_lt (Y q) = true := by
  intro q h1 h2
  unfold q_te at h2
  rw [if_pos hs] at h2
  by_cases e : q = s
  · rw [e]; exact hs
  · exact q_sd_all _ _ q (by omega) h2
theorem q_sd_to {g : Int32 → Bool} {i e : Nat} (hi : ∀ q, i ≤ q → q < e → g (Y q) = true) (he : ¬ g (Y e) = true) : ∀ k, i ≤ e → e ≤ i + k → q_sd g Y k i = e := by
  intro k h1 h2
  have h3 := q_sd_ge (g := g) (Y := Y) k i
  by_cases h4 : q_sd g Y k i < e
  · exact absurd (hi _ h3.1 h4) (q_sd_st k i (by omega))
  · by_cases h5 : e < q_sd g Y k i
    · exact absurd (q_sd_all k i e h1 h5) he
    · omega
theorem q_te_at {s n : Nat} (hY : q_TY Y L) (hs : s < L) (hl : q_lt (Y s) = true) (h : ∀ q, s ≤ q → q < s + n → q_lt (Y q) = true) (hn : ¬ q_lt (Y (s + n)) = true) (hL : s + n ≤ L) : s + n = q_te Y L s := by
  unfold q_te
  rw [if_pos hl]
  have h0 : n ≠ 0 := fun q => by subst q; exact hn hl
  exact (q_sd_to (g := q_lt) (fun q a c => h q (by omega) c) hn _ (by omega) (by omega)).symm
theorem q_te_ad {s n : Nat} (hY : q_TY Y L) (hs : s < L) (hl : q_dg (Y s) = true) (h : ∀ q, s ≤ q → q < s + n → q_dg (Y q) = true) (hn : ¬ q_dg (Y (s + n)) = true) (hL : s + n ≤ L) : s + n = q_te Y L s := by
  rw [q_te_dg hl]
  have h0 : n ≠ 0 := fun q => by subst q; exact hn hl
  exact (q_sd_to (g := q_dg) (fun q a c => h q (by omega) c) hn _ (by omega) (by omega)).symm
theorem q_nL (hY : q_TY Y L) : ¬ q_lt (Y L) = true ∧ ¬ q_dg (Y L) = true ∧ ¬ q_bk (Y L) = true := by
  rw [hY.2.1 L (Nat.le_refl _)]
  exact ⟨by decide, by decide, by decide⟩
set_option maxRecDepth 100000 in
set_option maxHeartbeats 4000000 in
theorem lp_let (hY : q_TY Y L) (hM : q_TM μ Y L) {s : Nat} (hs : s < L) (hl : q_lt (Y s) = true) : ∀ k n, s + n + k = L → (∀ q, s ≤ q → q < s + n → q_lt (Y q) = true) → q_G C l FX8_next0 2 142 142 (q_PV (q_NQ Y L b μ s)) 142 (q_up (q_up μ 122 15 (nI s)) 122 13 (nI (s + n))) (q_ρ b) [(0, .ref (q_a C 122)), (2, .int (nI n)), (3, .long (q_wl Y s n))] [] 80 := by
  intro k
  induction k with
  | zero =>
    intro n hK9
    intro hq9
    refine g_aload_n 81 dX8_next0_80 rfl rfl ?_
    refine g_aload_n 82 dX8_next0_81 rfl rfl ?_
    refine g_getI 85 dX8_next0_82 rfl f_X8_103 (by decide) rfl rfl ?_
    rw [q_ups]
    have hL8 := hY.1
    refine g_Vi 88 [_] _ dX8_next0_85 rfl m_X8_see l_X8_106 rfl rfl rfl (by decide) (c_see hY (q_TM_up (q_TM_up hM (by decide)) (by decide)) (s + n) (by omega)) rfl (Nat.le_of_ble_eq_true rfl) (by decide) (fun v85 μ85 ρ85 hc9 => ?_)
    obtain ⟨rfl, rfl, rfl⟩ := hc9
    refine g_Si 91 [_] _ dX8_next0_88 rfl m_X8_isLetter l_X8_115 rfl (c_Mletter _) rfl (Nat.le_of_ble_eq_true rfl) (by decide) (fun v88 μ88 ρ88 hc9 => ?_)
    obtain ⟨rfl, rfl, rfl⟩ := hc9
    refine g_if_eq 130 94 dX8_next0_91 rfl (by decide) (fun h91 => ?_) (fun h91 => ?_)
    · refine g_aload_n 131 dX8_next0_130 rfl rfl ?_
      refine g_iload_n 132 dX8_next0_131 rfl rfl ?_
      refine g_iconst 133 5 dX8_next0_132 rfl (by decide) ?_
      have hE := q_te_at hY hs hl hq9 (q_b_0.mp h91) (by omega)
      have hL9 := hY.1
      refine g_icmp_ge 143 136 dX8_next0_133 rfl (by decide) (fun h133 => ?_) (fun h133 => ?_)
      · refine g_iconst 144 1 dX8_next0_143 rfl (by decide) ?_
        refine g_putI 147 dX8_next0_144 rfl f_X8_112 (by decide) rfl rfl (Or.inl rfl) ?_
        refine g_goto 262 dX8_next0_147 (by decide) ?_
        exact g_rv dX8_next0_262 rfl rfl (q_NQ_l hs hl hE (by have h5 : ¬ n < 5 := fun q => absurd h133 (nI_ge (a := n) (b := 5) q (by omega)); rw [q_wk_5 (by omega)]))
      · refine g_lload_n 137 dX8_next0_136 rfl rfl ?_
        refine g_Si 140 [_] _ dX8_next0_137 rfl m_X8_word l_X8_118 rfl (c_Mword _) rfl (Nat.le_of_ble_eq_true rfl) (by decide) (fun v137 μ137 ρ137 hc9 => ?_)
        obtain ⟨rfl, rfl, rfl⟩ := hc9
        refine g_goto 144 dX8_next0_140 (by decide) ?_
        refine g_putI 147 dX8_next0_144 rfl f_X8_112 (by decide) rfl rfl (Or.inl rfl) ?_
        refine g_goto 262 dX8_next0_147 (by decide) ?_
        exact g_rv dX8_next0_262 rfl rfl (q_NQ_l hs hl hE (by have h5 : n < 5 := Nat.not_le.mp (fun q => h133 (nI_le (a := 5) (b := n) q (by omega))); have hg9 := q_te_gt (Y := Y) hs; have h6 := q_word (Y := Y) (s := s) (e := q_te Y L s) (by omega) (by omega) (q_te_al hl); rw [← h6, show q_te Y L s - s = n by omega]))
    · exact absurd (q_b_n.mp h91) (by rw [show s + n = L by omega]; exact (q_nL hY).1)
  | succ k ih =>
    intro n hK9
    intro hq9
    refine g_aload_n 81 dX8_next0_80 rfl rfl ?_
    refine g_aload_n 82 dX8_next0_81 rfl rfl ?_
    refine g_getI 85 dX8_next0_82 rfl f_X8_103 (by decide) rfl rfl ?_
    rw [q_ups]
    have hL8 := hY.1
    refine g_Vi 88 [_] _ dX8_next0_85 rfl m_X8_see l_X8_106 rfl rfl rfl (by decide) (c_see hY (q_TM_up (q_TM_up hM (by decide)) (by decide)) (s + n) (by omega)) rfl (Nat.le_of_ble_eq_true rfl) (by decide) (fun v85 μ85 ρ85 hc9 => ?_)
    obtain ⟨rfl, rfl, rfl⟩ := hc9
    refine g_Si 91 [_] _ dX8_next0_88 rfl m_X8_isLetter l_X8_115 rfl (c_Mletter _) rfl (Nat.le_of_ble_eq_true rfl) (by decide) (fun v88 μ88 ρ88 hc9 => ?_)
    obtain ⟨rfl, rfl, rfl⟩ := hc9
    refine g_if_eq 130 94 dX8_next0_91 rfl (by decide) (fun h91 => ?_) (fun h91 => ?_)
    · refine g_aload_n 131 dX8_next0_130 rfl rfl ?_
      refine g_iload_n 132 dX8_next0_131 rfl rfl ?_
      refine g_iconst 133 5 dX8_next0_132 rfl (by decide) ?_
      have hE := q_te_at hY hs hl hq9 (q_b_0.mp h91) (by omega)
      have hL9 := hY.1
      refine g_icmp_ge 143 136 dX8_next0_133 rfl (by decide) (fun h133 => ?_) (fun h133 => ?_)
      · refine g_iconst 144 1 dX8_next0_143 rfl (by decide) ?_
        refine g_putI 147 dX8_next0_144 rfl f_X8_112 (by decide) rfl rfl (Or.inl rfl) ?_
        refine g_goto 262 dX8_next0_147 (by decide) ?_
        exact g_rv dX8_next0_262 rfl rfl (q_NQ_l hs hl hE (by have h5 : ¬ n < 5 := fun q => absurd h133 (nI_ge (a := n) (b := 5) q (by omega)); rw [q_wk_5 (by omega)]))
      · refine g_lload_n 137 dX8_next0_136 rfl rfl ?_
        refine g_Si 140 [_] _ dX8_next0_137 rfl m_X8_word l_X8_118 rfl (c_Mword _) rfl (Nat.le_of_ble_eq_true rfl) (by decide) (fun v137 μ137 ρ137 hc9 => ?_)
        obtain ⟨rfl, rfl, rfl⟩ := hc9
        refine g_goto 144 dX8_next0_140 (by decide) ?_
        refine g_putI 147 dX8_next0_144 rfl f_X8_112 (by decide) rfl rfl (Or.inl rfl) ?_
        refine g_goto 262 dX8_next0_147 (by decide) ?_
        exact g_rv dX8_next0_262 rfl rfl (q_NQ_l hs hl hE (by have h5 : n < 5 := Nat.not_le.mp (fun q => h133 (nI_le (a := 5) (b := n) q (by omega))); have hg9 := q_te_gt (Y := Y) hs; have h6 := q_word (Y := Y) (s := s) (e := q_te Y L s) (by omega) (by omega) (q_te_al hl); rw [← h6, show q_te Y L s - s = n by omega]))
    · refine g_iload_n 95 dX8_next0_94 rfl rfl ?_
      refine g_iconst 96 5 dX8_next0_95 rfl (by decide) ?_
      refine g_icmp_ge 114 99 dX8_next0_96 rfl (by decide) (fun h96 => ?_) (fun h96 => ?_)
      · refine g_iinc 117 (_ + 1) dX8_next0_114 rfl rfl rfl (by decide) ?_
        refine g_aload_n 118 dX8_next0_117 rfl rfl ?_
        refine g_dup 119 dX8_next0_118 rfl rfl ?_
        refine g_getI 122 dX8_next0_119 rfl f_X8_103 (by decide) rfl rfl ?_
        rw [q_ups]
        refine g_iconst 123 1 dX8_next0_122 rfl (by decide) ?_
        refine g_iadd 124 dX8_next0_123 rfl ?_
        rw [show nI (s + n) + 1 = nI (s + (n + 1)) from nI_1 _]
        refine g_putI 127 dX8_next0_124 rfl f_X8_103 (by decide) rfl rfl (Or.inl rfl) ?_
        refine g_goto 80 dX8_next0_127 (by decide) ?_
        rw [q_upup, nI_1]
        refine g_lv [(0, _), (2, _), (3, _)] rfl ?_
        have h9 := ih (n + 1) (by omega) (fun q a c => by
          by_cases e : q = s + n
          · rw [e]; exact q_b_n.mp h91
          · exact hq9 q a (by omega))
        rw [q_wl, if_neg (fun q => absurd h96 (nI_ge (a := n) (b := 5) q (by omega)))] at h9
        exact h9
      · refine g_lload_n 100 dX8_next0_99 rfl rfl ?_
        refine g_bipush 102 8 dX8_next0_100 rfl (by decide) ?_
        refine g_lshl 103 dX8_next0_102 rfl ?_
        refine g_aload_n 104 dX8_next0_103 rfl rfl ?_
        refine g_aload_n 105 dX8_next0_104 rfl rfl ?_
        refine g_getI 108 dX8_next0_105 rfl f_X8_103 (by decide) rfl rfl ?_
        rw [q_ups]
        refine g_Vi 111 [_] _ dX8_next0_108 rfl m_X8_see l_X8_106 rfl rfl rfl (by decide) (c_see hY (q_TM_up (q_TM_up hM (by decide)) (by decide)) (s + n) (by omega)) rfl (Nat.le_of_ble_eq_true rfl) (by decide) (fun v108 μ108 ρ108 hc9 => ?_)
        obtain ⟨rfl, rfl, rfl⟩ := hc9
        refine g_i2l 112 dX8_next0_111 rfl ?_
        refine g_lor 113 dX8_next0_112 rfl ?_
        refine g_lstore_n 114 dX8_next0_113 rfl (by decide) ?_
        refine g_iinc 117 (_ + 1) dX8_next0_114 rfl rfl rfl (by decide) ?_
        refine g_aload_n 118 dX8_next0_117 rfl rfl ?_
        refine g_dup 119 dX8_next0_118 rfl rfl ?_
        refine g_getI 122 dX8_next0_119 rfl f_X8_103 (by decide) rfl rfl ?_
        rw [q_ups]
        refine g_iconst 123 1 dX8_next0_122 rfl (by decide) ?_
        refine g_iadd 124 dX8_next0_123 rfl ?_
        rw [show nI (s + n) + 1 = nI (s + (n + 1)) from nI_1 _]
        refine g_putI 127 dX8_next0_124 rfl f_X8_103 (by decide) rfl rfl (Or.inl rfl) ?_
        refine g_goto 80 dX8_next0_127 (by decide) ?_
        rw [q_upup, nI_1]
        refine g_lv [(0, _), (2, _), (3, _)] rfl ?_
        have h9 := ih (n + 1) (by omega) (fun q a c => by
          by_cases e : q = s + n
          · rw [e]; exact q_b_n.mp h91
          · exact hq9 q a (by omega))
        rw [q_wl, if_pos (Nat.not_le.mp (fun q => h96 (nI_le (a := 5) (b := n) q (by omega))))] at h9
        exact h9
theorem q_NQ_d {s : Nat} (hs : s < L) (hl : q_dg (Y s) = true) {n m : Nat} {v x : Int32} (he : s + n = q_te Y L s) (hv : v = if q_te Y L s - s ≤ 3 then 2 else 1) (hx : q_te Y L s - s ≤ 3 → x = q_nv Y n s 0) : q_NQ Y L b μ s (q_up (q_dm (q_up μ 122 15 (nI s)) x (nI (s + n))) 122 14 v) (q_ρ b) := by
  have hcd : q_cd Y L s = v := by rw [hv, q_cd, if_pos hs, if_neg (q_ld _ hl), if_pos hl]
  refine ⟨rfl, fun c j h => ?_, ?_, ?_, ?_, fun h2 => ?_⟩
  · rw [q_upo (by omega), q_dm, if_neg (by omega), if_neg (by omega), q_upo (by omega)]
  · rw [q_upo (by omega), q_dm, if_neg (by omega), if_neg (by omega), q_ups]
  · rw [q_ups]; exact hcd.symm
  · rw [q_upo (by omega), q_dm, if_pos ⟨rfl, rfl⟩, q_nx, if_pos hs, he]
  · rw [hcd, hv] at h2
    have h3 : q_te Y L s - s ≤ 3 := Classical.not_not.mp (fun q => by rw [if_neg q] at h2; exact absurd h2 (by decide))
    rw [q_upo (by omega), q_dm, if_neg (by omega), if_pos ⟨rfl, rfl⟩, hx h3, q_nu, if_pos ⟨hl, h3⟩, show q_te Y L s - s = n by omega]
def q_n3 (n : Nat) : Nat := if n < 3 then n else 3
set_option maxRecDepth 100000 in
set_option maxHeartbeats 4000000 in
theorem lp_dig (hY : q_TY Y L) (hM : q_TM μ Y L) {s : Nat} (hs : s < L) (hl : q_dg (Y s) = true) : ∀ k n, s + n + k = L → (∀ q, s ≤ q → q < s + n → q_dg (Y q) = true) → q_G C l FX8_next0 2 142 142 (q_PV (q_NQ Y L b μ s)) 142 (q_dm (q_up μ 122 15 (nI s)) (q_nv Y (q_n3 n) s 0) (nI (s + n))) (q_ρ b) [(0, .ref (q_a C 122)), (2, .int (nI n))] [] 162 := by
  intro k
  induction k with
  | zero =>
    intro n hK9
    intro hq9
    refine g_aload_n 163 dX8_next0_162 rfl rfl ?_
    refine g_aload_n 164 dX8_next0_163 rfl rfl ?_
    refine g_getI 167 dX8_next0_164 rfl f_X8_103 (by decide) rfl rfl ?_
    rw [show (q_dm (q_up μ 122 15 (nI s)) (q_nv Y (q_n3 n) s 0) (nI (s + n))) 122 13 = nI (s + n) from if_pos ⟨rfl, rfl⟩]
    have hL8 := hY.1
    refine g_Vi 170 [_] _ dX8_next0_167 rfl m_X8_see l_X8_106 rfl rfl rfl (by decide) (c_see hY (q_TM_m2 (q_TM_up hM (by decide))) (s + n) (by omega)) rfl (Nat.le_of_ble_eq_true rfl) (by decide) (fun v167 μ167 ρ167 hc9 => ?_)
    obtain ⟨rfl, rfl, rfl⟩ := hc9
    refine g_Si 173 [_] _ dX8_next0_170 rfl m_X8_isDigit l_X8_122 rfl (c_Mdigit _) rfl (Nat.le_of_ble_eq_true rfl) (by decide) (fun v170 μ170 ρ170 hc9 => ?_)
    obtain ⟨rfl, rfl, rfl⟩ := hc9
    refine g_if_eq 220 176 dX8_next0_173 rfl (by decide) (fun h173 => ?_) (fun h173 => ?_)
    · refine g_aload_n 221 dX8_next0_220 rfl rfl ?_
      refine g_iload_n 222 dX8_next0_221 rfl rfl ?_
      refine g_iconst 223 4 dX8_next0_222 rfl (by decide) ?_
      have hE := q_te_ad hY hs hl hq9 (q_b_0.mp h173) (by omega)
      have hL9 := hY.1
      refine g_icmp_ge 230 226 dX8_next0_223 rfl (by decide) (fun h223 => ?_) (fun h223 => ?_)
      · refine g_iconst 231 1 dX8_next0_230 rfl (by decide) ?_
        refine g_putI 234 dX8_next0_231 rfl f_X8_112 (by decide) rfl rfl (Or.inl rfl) ?_
        refine g_goto 262 dX8_next0_234 (by decide) ?_
        exact g_rv dX8_next0_262 rfl rfl (q_NQ_d (m := 0) hs hl hE (by have h5 : ¬ n < 4 := fun q => absurd h223 (nI_ge (a := n) (b := 4) q (by omega)); rw [if_neg (by omega)]) (fun q => absurd h223 (nI_ge (a := n) (b := 4) (by omega) (by omega))))
      · refine g_iconst 227 2 dX8_next0_226 rfl (by decide) ?_
        refine g_goto 231 dX8_next0_227 (by decide) ?_
        refine g_putI 234 dX8_next0_231 rfl f_X8_112 (by decide) rfl rfl (Or.inl rfl) ?_
        refine g_goto 262 dX8_next0_234 (by decide) ?_
        exact g_rv dX8_next0_262 rfl rfl (q_NQ_d (m := 0) hs hl hE (by have h5 : n < 4 := Nat.not_le.mp (fun q => h223 (nI_le (a := 4) (b := n) q (by omega))); rw [if_pos (by omega)]) (fun q => by rw [show q_n3 n = n from by unfold q_n3; split <;> omega]))
    · exact absurd (q_b_n.mp h173) (by rw [show s + n = L by omega]; exact (q_nL hY).2.1)
  | succ k ih =>
    intro n hK9
    intro hq9
    refine g_aload_n 163 dX8_next0_162 rfl rfl ?_
    refine g_aload_n 164 dX8_next0_163 rfl rfl ?_
    refine g_getI 167 dX8_next0_164 rfl f_X8_103 (by decide) rfl rfl ?_
    rw [show (q_dm (q_up μ 122 15 (nI s)) (q_nv Y (q_n3 n) s 0) (nI (s + n))) 122 13 = nI (s + n) from if_pos ⟨rfl, rfl⟩]
    have hL8 := hY.1
    refine g_Vi 170 [_] _ dX8_next0_167 rfl m_X8_see l_X8_106 rfl rfl rfl (by decide) (c_see hY (q_TM_m2 (q_TM_up hM (by decide))) (s + n) (by omega)) rfl (Nat.le_of_ble_eq_true rfl) (by decide) (fun v167 μ167 ρ167 hc9 => ?_)
    obtain ⟨rfl, rfl, rfl⟩ := hc9
    refine g_Si 173 [_] _ dX8_next0_170 rfl m_X8_isDigit l_X8_122 rfl (c_Mdigit _) rfl (Nat.le_of_ble_eq_true rfl) (by decide) (fun v170 μ170 ρ170 hc9 => ?_)
    obtain ⟨rfl, rfl, rfl⟩ := hc9
    refine g_if_eq 220 176 dX8_next0_173 rfl (by decide) (fun h173 => ?_) (fun h173 => ?_)
    · refine g_aload_n 221 dX8_next0_220 rfl rfl ?_
      refine g_iload_n 222 dX8_next0_221 rfl rfl ?_
      refine g_iconst 223 4 dX8_next0_222 rfl (by decide) ?_
      have hE := q_te_ad hY hs hl hq9 (q_b_0.mp h173) (by omega)
      have hL9 := hY.1
      refine g_icmp_ge 230 226 dX8_next0_223 rfl (by decide) (fun h223 => ?_) (fun h223 => ?_)
      · refine g_iconst 231 1 dX8_next0_230 rfl (by decide) ?_
        refine g_putI 234 dX8_next0_231 rfl f_X8_112 (by decide) rfl rfl (Or.inl rfl) ?_
        refine g_goto 262 dX8_next0_234 (by decide) ?_
        exact g_rv dX8_next0_262 rfl rfl (q_NQ_d (m := 0) hs hl hE (by have h5 : ¬ n < 4 := fun q => absurd h223 (nI_ge (a := n) (b := 4) q (by omega)); rw [if_neg (by omega)]) (fun q => absurd h223 (nI_ge (a := n) (b := 4) (by omega) (by omega))))
      · refine g_iconst 227 2 dX8_next0_226 rfl (by decide) ?_
        refine g_goto 231 dX8_next0_227 (by decide) ?_
        refine g_putI 234 dX8_next0_231 rfl f_X8_112 (by decide) rfl rfl (Or.inl rfl) ?_
        refine g_goto 262 dX8_next0_234 (by decide) ?_
        exact g_rv dX8_next0_262 rfl rfl (q_NQ_d (m := 0) hs hl hE (by have h5 : n < 4 := Nat.not_le.mp (fun q => h223 (nI_le (a := 4) (b := n) q (by omega))); rw [if_pos (by omega)]) (fun q => by rw [show q_n3 n = n from by unfold q_n3; split <;> omega]))
    · refine g_iload_n 177 dX8_next0_176 rfl rfl ?_
      refine g_iconst 178 3 dX8_next0_177 rfl (by decide) ?_
      refine g_icmp_ge 204 181 dX8_next0_178 rfl (by decide) (fun h178 => ?_) (fun h178 => ?_)
      · refine g_iinc 207 (_ + 1) dX8_next0_204 rfl rfl rfl (by decide) ?_
        refine g_aload_n 208 dX8_next0_207 rfl rfl ?_
        refine g_dup 209 dX8_next0_208 rfl rfl ?_
        refine g_getI 212 dX8_next0_209 rfl f_X8_103 (by decide) rfl rfl ?_
        rw [show (q_dm (q_up μ 122 15 (nI s)) (q_nv Y (q_n3 n) s 0) (nI (s + n))) 122 13 = nI (s + n) from if_pos ⟨rfl, rfl⟩]
        refine g_iconst 213 1 dX8_next0_212 rfl (by decide) ?_
        refine g_iadd 214 dX8_next0_213 rfl ?_
        rw [show nI (s + n) + 1 = nI (s + (n + 1)) from nI_1 _]
        refine g_putI 217 dX8_next0_214 rfl f_X8_103 (by decide) rfl rfl (Or.inl rfl) ?_
        refine g_goto 162 dX8_next0_217 (by decide) ?_
        rw [q_dm_t, nI_1]
        refine g_lv [(0, _), (2, _)] rfl ?_
        have h9 := ih (n + 1) (by omega) (fun q a c => by
          by_cases e : q = s + n
          · rw [e]; exact q_b_n.mp h173
          · exact hq9 q a (by omega))
        have h5 : ¬ n < 3 := fun q => absurd h178 (nI_ge (a := n) (b := 3) q (by omega))
        rw [show q_n3 (n + 1) = q_n3 n from by unfold q_n3; rw [if_neg (by omega), if_neg h5]] at h9
        exact h9
      · refine g_aload_n 182 dX8_next0_181 rfl rfl ?_
        refine g_bipush 184 10 dX8_next0_182 rfl (by decide) ?_
        refine g_aload_n 185 dX8_next0_184 rfl rfl ?_
        refine g_getI 188 dX8_next0_185 rfl f_X8_125 (by decide) rfl rfl ?_
        rw [show (q_dm (q_up μ 122 15 (nI s)) (q_nv Y (q_n3 n) s 0) (nI (s + n))) 122 16 = q_nv Y (q_n3 n) s 0 from by unfold q_dm; rw [if_neg (by omega), if_pos ⟨rfl, rfl⟩]]
        refine g_imul 189 dX8_next0_188 rfl ?_
        refine g_aload_n 190 dX8_next0_189 rfl rfl ?_
        refine g_aload_n 191 dX8_next0_190 rfl rfl ?_
        refine g_getI 194 dX8_next0_191 rfl f_X8_103 (by decide) rfl rfl ?_
        rw [show (q_dm (q_up μ 122 15 (nI s)) (q_nv Y (q_n3 n) s 0) (nI (s + n))) 122 13 = nI (s + n) from if_pos ⟨rfl, rfl⟩]
        refine g_Vi 197 [_] _ dX8_next0_194 rfl m_X8_see l_X8_106 rfl rfl rfl (by decide) (c_see hY (q_TM_m2 (q_TM_up hM (by decide))) (s + n) (by omega)) rfl (Nat.le_of_ble_eq_true rfl) (by decide) (fun v194 μ194 ρ194 hc9 => ?_)
        obtain ⟨rfl, rfl, rfl⟩ := hc9
        refine g_iadd 198 dX8_next0_197 rfl ?_
        refine g_bipush 200 48 dX8_next0_198 rfl (by decide) ?_
        refine g_isub 201 dX8_next0_200 rfl ?_
        refine g_putI 204 dX8_next0_201 rfl f_X8_125 (by decide) rfl rfl (Or.inl rfl) ?_
        refine g_iinc 207 (_ + 1) dX8_next0_204 rfl rfl rfl (by decide) ?_
        refine g_aload_n 208 dX8_next0_207 rfl rfl ?_
        refine g_dup 209 dX8_next0_208 rfl rfl ?_
        refine g_getI 212 dX8_next0_209 rfl f_X8_103 (by decide) rfl rfl ?_
        rw [q_upo (by decide)]
        rw [show (q_dm (q_up μ 122 15 (nI s)) (q_nv Y (q_n3 n) s 0) (nI (s + n))) 122 13 = nI (s + n) from if_pos ⟨rfl, rfl⟩]
        refine g_iconst 213 1 dX8_next0_212 rfl (by decide) ?_
        refine g_iadd 214 dX8_next0_213 rfl ?_
        rw [show nI (s + n) + 1 = nI (s + (n + 1)) from nI_1 _]
        refine g_putI 217 dX8_next0_214 rfl f_X8_103 (by decide) rfl rfl (Or.inl rfl) ?_
        refine g_goto 162 dX8_next0_217 (by decide) ?_
        rw [q_dm_s, nI_1]
        refine g_lv [(0, _), (2, _)] rfl ?_
        have h9 := ih (n + 1) (by omega) (fun q a c => by
          by_cases e : q = s + n
          · rw [e]; exact q_b_n.mp h173
          · exact hq9 q a (by omega))
        have h5 : n < 3 := Nat.not_le.mp (fun q => h178 (nI_le (a := 3) (b := n) q (by omega)))
        rw [show q_n3 (n + 1) = n + 1 from by unfold q_n3; split <;> omega, q_nv_s] at h9
        rw [show q_n3 n = n from if_pos h5, show ∀ x y z : Int32, x + y - z = x + (y - z) from fun x y z => by rw [Int32.sub_eq_add_neg, Int32.sub_eq_add_neg, Int32.add_assoc]]
        exact h9
theorem q_NQ_e {s : Nat} (hY : q_TY Y L) (h : Y s = -1) : q_NQ Y L b μ s (q_up (q_up (q_up μ 122 13 (nI s)) 122 15 (nI s)) 122 14 0) (q_ρ b) := by
  have hs : ¬ s < L := fun q => by
    obtain ⟨a, a1, a2⟩ := hY.2.2 s q
    rw [a2] at h
    have := nI_pos (n := a) (by omega)
    rw [h] at this
    exact this (by decide)
  have hcd : q_cd Y L s = 0 := by rw [q_cd, if_neg hs]
  refine ⟨rfl, fun c j h => ?_, ?_, ?_, ?_, fun h2 => ?_⟩
  · rw [q_upo (by omega), q_upo (by omega), q_upo (by omega)]
  · rw [q_upo (by omega), q_ups]
  · rw [q_ups]; exact hcd.symm
  · rw [q_upo (by omega), q_upo (by omega), q_ups, q_nx, if_neg hs]
  · rw [hcd] at h2; exact absurd h2 (by decide)
theorem q_YL {s : Nat} (hY : q_TY Y L) (h : ¬ Y s = -1) : s < L := Nat.not_le.mp (fun q => h (hY.2.1 s q))
theorem q_NQ_o {s : Nat} {v : Int32} (hs : s < L) (h1 : ¬ q_lt (Y s) = true) (h2 : ¬ q_dg (Y s) = true) (hv : v = if Y s = 59 then 59 else 1) : q_NQ Y L b μ s (q_up (q_up (q_up (q_up μ 122 13 (nI s)) 122 15 (nI s)) 122 13 (nI (s + 1))) 122 14 v) (q_ρ b) := by
  have hcd : q_cd Y L s = v := by rw [hv, q_cd, if_pos hs, if_neg h1, if_neg h2]
  refine ⟨rfl, fun c j h => ?_, ?_, ?_, ?_, fun h3 => ?_⟩
  · rw [q_upo (by omega), q_upo (by omega), q_upo (by omega), q_upo (by omega)]
  · rw [q_upo (by omega), q_upo (by omega), q_ups]
  · rw [q_ups]; exact hcd.symm
  · rw [q_upo (by omega), q_ups, q_nx, if_pos hs, q_te, if_neg h1, if_neg h2]
  · exfalso
    rw [hcd, hv] at h3
    by_cases e : Y s = 59
    · rw [if_pos e] at h3; exact absurd h3 (by decide)
    · rw [if_neg e] at h3; exact absurd h3 (by decide)
theorem q_swp {M : q_M} {x y : Int32} : q_up (q_up M 122 13 x) 122 15 y = q_up (q_up M 122 15 y) 122 13 x := by
  funext c j
  unfold q_up
  by_cases h : c = 122 ∧ j = 13
  · rw [if_pos h, if_neg (by omega), if_pos h]
  · rw [if_neg h]
    by_cases h2 : c = 122 ∧ j = 15
    · simp only [if_pos h2, if_neg h]
    · simp only [if_neg h2, if_neg h]
theorem q_dm0 {M : q_M} {s : Nat} : q_up (q_up (q_up M 122 13 (nI s)) 122 15 (nI s)) 122 16 0 = q_dm (q_up M 122 15 (nI s)) 0 (nI s) := by
  funext c j
  unfold q_dm q_up
  by_cases h : c = 122 ∧ j = 13
  · rw [if_neg (by omega), if_neg (by omega), if_pos h, if_pos h]
  · rw [if_neg h]
    by_cases h2 : c = 122 ∧ j = 16
    · simp only [if_pos h2, if_neg h]
    · simp only [if_neg h2, if_neg h]
set_option maxRecDepth 100000 in
set_option maxHeartbeats 4000000 in
theorem tl_39 (hY : q_TY Y L) (hM : q_TM μ Y L) {s : Nat} (hsL : s ≤ L) : q_G C l FX8_next0 2 142 142 (q_PV (q_NQ Y L b μ s)) 142 (q_up μ 122 13 (nI s)) (q_ρ b) [(0, .ref (q_a C 122))] [] 39 := by
  refine g_aload_n 40 dX8_next0_39 rfl rfl ?_
  refine g_aload_n 41 dX8_next0_40 rfl rfl ?_
  refine g_getI 44 dX8_next0_41 rfl f_X8_103 (by decide) rfl rfl ?_
  rw [q_ups]
  refine g_putI 47 dX8_next0_44 rfl f_X8_109 (by decide) rfl rfl (Or.inl rfl) ?_
  refine g_aload_n 48 dX8_next0_47 rfl rfl ?_
  refine g_aload_n 49 dX8_next0_48 rfl rfl ?_
  refine g_getI 52 dX8_next0_49 rfl f_X8_103 (by decide) rfl rfl ?_
  rw [q_upo (by decide), q_ups]
  have hL9 := hY.1
  refine g_Vi 55 [_] _ dX8_next0_52 rfl m_X8_see l_X8_106 rfl rfl rfl (by decide) (c_see hY (q_TM_up (q_TM_up hM (by decide)) (by decide)) s (by omega)) rfl (Nat.le_of_ble_eq_true rfl) (by decide) (fun v52 μ52 ρ52 hc9 => ?_)
  obtain ⟨rfl, rfl, rfl⟩ := hc9
  refine g_istore_n 56 dX8_next0_55 rfl (by decide) ?_
  refine g_iconst 57 0 dX8_next0_56 rfl (by decide) ?_
  refine g_istore_n 58 dX8_next0_57 rfl (by decide) ?_
  refine g_iload_n 59 dX8_next0_58 rfl rfl ?_
  refine g_iconst 60 (-1) dX8_next0_59 rfl (by decide) ?_
  refine g_icmp_ne 71 63 dX8_next0_60 rfl (by decide) (fun h60 => ?_) (fun h60 => ?_)
  · refine g_iload_n 72 dX8_next0_71 rfl rfl ?_
    refine g_Si 75 [_] _ dX8_next0_72 rfl m_X8_isLetter l_X8_115 rfl (c_Mletter _) rfl (Nat.le_of_ble_eq_true rfl) (by decide) (fun v72 μ72 ρ72 hc9 => ?_)
    obtain ⟨rfl, rfl, rfl⟩ := hc9
    refine g_if_eq 150 78 dX8_next0_75 rfl (by decide) (fun h75 => ?_) (fun h75 => ?_)
    · refine g_iload_n 151 dX8_next0_150 rfl rfl ?_
      refine g_Si 154 [_] _ dX8_next0_151 rfl m_X8_isDigit l_X8_122 rfl (c_Mdigit _) rfl (Nat.le_of_ble_eq_true rfl) (by decide) (fun v151 μ151 ρ151 hc9 => ?_)
      obtain ⟨rfl, rfl, rfl⟩ := hc9
      refine g_if_eq 237 157 dX8_next0_154 rfl (by decide) (fun h154 => ?_) (fun h154 => ?_)
      · refine g_aload_n 238 dX8_next0_237 rfl rfl ?_
        refine g_dup 239 dX8_next0_238 rfl rfl ?_
        refine g_getI 242 dX8_next0_239 rfl f_X8_103 (by decide) rfl rfl ?_
        rw [q_upo (by decide), q_ups]
        refine g_iconst 243 1 dX8_next0_242 rfl (by decide) ?_
        refine g_iadd 244 dX8_next0_243 rfl ?_
        rw [nI_1]
        refine g_putI 247 dX8_next0_244 rfl f_X8_103 (by decide) rfl rfl (Or.inl rfl) ?_
        refine g_aload_n 248 dX8_next0_247 rfl rfl ?_
        refine g_iload_n 249 dX8_next0_248 rfl rfl ?_
        refine g_bipush 251 59 dX8_next0_249 rfl (by decide) ?_
        refine g_icmp_ne 258 254 dX8_next0_251 rfl (by decide) (fun h251 => ?_) (fun h251 => ?_)
        · refine g_iconst 259 1 dX8_next0_258 rfl (by decide) ?_
          refine g_putI 262 dX8_next0_259 rfl f_X8_112 (by decide) rfl rfl (Or.inl rfl) ?_
          exact g_rv dX8_next0_262 rfl rfl (q_NQ_o (q_YL hY h60) (q_b_0.mp h75) (q_b_0.mp h154) (by rw [if_neg h251]))
        · refine g_iload_n 255 dX8_next0_254 rfl rfl ?_
          refine g_goto 259 dX8_next0_255 (by decide) ?_
          refine g_putI 262 dX8_next0_259 rfl f_X8_112 (by decide) rfl rfl (Or.inl rfl) ?_
          exact g_rv dX8_next0_262 rfl rfl (q_NQ_o (q_YL hY h60) (q_b_0.mp h75) (q_b_0.mp h154) (by rw [if_pos h251, h251]))
      · refine g_aload_n 158 dX8_next0_157 rfl rfl ?_
        refine g_iconst 159 0 dX8_next0_158 rfl (by decide) ?_
        refine g_putI 162 dX8_next0_159 rfl f_X8_125 (by decide) rfl rfl (Or.inl rfl) ?_
        rw [q_dm0]
        refine g_lv [(0, _), (2, .int 0)] rfl ?_
        have hs := q_YL hY h60
        exact lp_dig hY hM hs (q_b_n.mp h154) (L - s) 0 (by omega) (fun q a c => absurd c (by omega))
    · refine g_lconst 79 0 dX8_next0_78 rfl (by decide) ?_
      refine g_lstore_n 80 dX8_next0_79 rfl (by decide) ?_
      rw [q_swp]
      refine g_lv [(0, _), (2, .int 0), (3, .long 0)] rfl ?_
      have hs := q_YL hY h60
      exact lp_let hY hM hs (q_b_n.mp h75) (L - s) 0 (by omega) (fun q a c => absurd c (by omega))
  · refine g_aload_n 64 dX8_next0_63 rfl rfl ?_
    refine g_iconst 65 0 dX8_next0_64 rfl (by decide) ?_
    refine g_putI 68 dX8_next0_65 rfl f_X8_112 (by decide) rfl rfl (Or.inl rfl) ?_
    refine g_goto 262 dX8_next0_68 (by decide) ?_
    exact g_rv dX8_next0_262 rfl rfl (q_NQ_e hY h60)
set_option maxRecDepth 100000 in
set_option maxHeartbeats 4000000 in
theorem lp_bk (hY : q_TY Y L) (hM : q_TM μ Y L) : ∀ k i, i + k = L → q_G C l FX8_next0 2 142 142 (q_PV (q_NQ Y L b μ (q_sd q_bk Y k i))) 142 (q_up μ 122 13 (nI i)) (q_ρ b) [(0, .ref (q_a C 122))] [] 0 := by
  intro k
  induction k with
  | zero =>
    intro i hK9
    refine g_aload_n 1 dX8_next0_0 rfl rfl ?_
    refine g_aload_n 2 dX8_next0_1 rfl rfl ?_
    refine g_getI 5 dX8_next0_2 rfl f_X8_103 (by decide) rfl rfl ?_
    rw [q_ups]
    have hL9 := hY.1
    refine g_Vi 8 [_] _ dX8_next0_5 rfl m_X8_see l_X8_106 rfl rfl rfl (by decide) (c_see hY (q_TM_up hM (by decide)) i (by omega)) rfl (Nat.le_of_ble_eq_true rfl) (by decide) (fun v5 μ5 ρ5 hc9 => ?_)
    obtain ⟨rfl, rfl, rfl⟩ := hc9
    rw [hY.2.1 i (by omega)]
    refine g_bipush 10 32 dX8_next0_8 rfl (by decide) ?_
    refine g_icmp_eq 26 13 dX8_next0_10 rfl (by decide) (fun h10 => ?_) (fun h10 => ?_)
    · exact absurd h10 (by decide)
    · refine g_aload_n 14 dX8_next0_13 rfl rfl ?_
      refine g_aload_n 15 dX8_next0_14 rfl rfl ?_
      refine g_getI 18 dX8_next0_15 rfl f_X8_103 (by decide) rfl rfl ?_
      rw [q_ups]
      refine g_Vi 21 [_] _ dX8_next0_18 rfl m_X8_see l_X8_106 rfl rfl rfl (by decide) (c_see hY (q_TM_up hM (by decide)) i (by omega)) rfl (Nat.le_of_ble_eq_true rfl) (by decide) (fun v18 μ18 ρ18 hc9 => ?_)
      obtain ⟨rfl, rfl, rfl⟩ := hc9
      rw [hY.2.1 i (by omega)]
      refine g_bipush 23 10 dX8_next0_21 rfl (by decide) ?_
      refine g_icmp_ne 39 26 dX8_next0_23 rfl (by decide) (fun h23 => ?_) (fun h23 => ?_)
      · exact tl_39 (s := i) hY hM (by omega)
      · exact absurd h23 (by decide)
  | succ k ih =>
    intro i hK9
    refine g_aload_n 1 dX8_next0_0 rfl rfl ?_
    refine g_aload_n 2 dX8_next0_1 rfl rfl ?_
    refine g_getI 5 dX8_next0_2 rfl f_X8_103 (by decide) rfl rfl ?_
    rw [q_ups]
    have hL9 := hY.1
    refine g_Vi 8 [_] _ dX8_next0_5 rfl m_X8_see l_X8_106 rfl rfl rfl (by decide) (c_see hY (q_TM_up hM (by decide)) i (by omega)) rfl (Nat.le_of_ble_eq_true rfl) (by decide) (fun v5 μ5 ρ5 hc9 => ?_)
    obtain ⟨rfl, rfl, rfl⟩ := hc9
    refine g_bipush 10 32 dX8_next0_8 rfl (by decide) ?_
    refine g_icmp_eq 26 13 dX8_next0_10 rfl (by decide) (fun h10 => ?_) (fun h10 => ?_)
    · refine g_aload_n 27 dX8_next0_26 rfl rfl ?_
      refine g_dup 28 dX8_next0_27 rfl rfl ?_
      refine g_getI 31 dX8_next0_28 rfl f_X8_103 (by decide) rfl rfl ?_
      rw [q_ups]
      refine g_iconst 32 1 dX8_next0_31 rfl (by decide) ?_
      refine g_iadd 33 dX8_next0_32 rfl ?_
      rw [nI_1]
      refine g_putI 36 dX8_next0_33 rfl f_X8_103 (by decide) rfl rfl (Or.inl rfl) ?_
      refine g_goto 0 dX8_next0_36 (by decide) ?_
      rw [q_upup, q_sd, if_pos (show q_bk (Y i) = true from decide_eq_true (Or.inl h10))]
      exact ih (i + 1) (by omega)
    · refine g_aload_n 14 dX8_next0_13 rfl rfl ?_
      refine g_aload_n 15 dX8_next0_14 rfl rfl ?_
      refine g_getI 18 dX8_next0_15 rfl f_X8_103 (by decide) rfl rfl ?_
      rw [q_ups]
      refine g_Vi 21 [_] _ dX8_next0_18 rfl m_X8_see l_X8_106 rfl rfl rfl (by decide) (c_see hY (q_TM_up hM (by decide)) i (by omega)) rfl (Nat.le_of_ble_eq_true rfl) (by decide) (fun v18 μ18 ρ18 hc9 => ?_)
      obtain ⟨rfl, rfl, rfl⟩ := hc9
      refine g_bipush 23 10 dX8_next0_21 rfl (by decide) ?_
      refine g_icmp_ne 39 26 dX8_next0_23 rfl (by decide) (fun h23 => ?_) (fun h23 => ?_)
      · rw [q_sd, if_neg (fun q => (of_decide_eq_true q).elim h10 h23)]
        exact tl_39 hY hM (by omega)
      · refine g_aload_n 27 dX8_next0_26 rfl rfl ?_
        refine g_dup 28 dX8_next0_27 rfl rfl ?_
        refine g_getI 31 dX8_next0_28 rfl f_X8_103 (by decide) rfl rfl ?_
        rw [q_ups]
        refine g_iconst 32 1 dX8_next0_31 rfl (by decide) ?_
        refine g_iadd 33 dX8_next0_32 rfl ?_
        rw [nI_1]
        refine g_putI 36 dX8_next0_33 rfl f_X8_103 (by decide) rfl rfl (Or.inl rfl) ?_
        refine g_goto 0 dX8_next0_36 (by decide) ?_
        rw [q_upup, q_sd, if_pos (show q_bk (Y i) = true from decide_eq_true (Or.inr h23))]
        exact ih (i + 1) (by omega)
theorem q_up_id {M : q_M} {c k : Nat} {v : Int32} (h : M c k = v) : q_up M c k v = M := by
  funext x y
  unfold q_up
  by_cases e : x = c ∧ y = k
  · rw [if_pos e, e.1, e.2, h]
  · rw [if_neg e]
set_option maxRecDepth 100000 in
set_option maxHeartbeats 4000000 in
theorem c_next0 (hY : q_TY Y L) (hM : q_TM μ Y L) {p : Nat} (hp : p ≤ L) (h13 : μ 122 13 = nI p) : q_Ct C l FX8_next0 2 142 142 [.ref (q_a C 122)] μ (q_ρ b) (q_PV (q_NQ Y L b μ (q_sk Y L p))) := by
  refine q_entry rfl (by decide) (Nat.le_of_ble_eq_true rfl) ?_
  refine g_lv [(0, _)] rfl ?_
  have h9 := lp_bk (C := C) (l := l) (b := b) hY hM (L - p) p (by omega)
  rw [q_up_id h13] at h9
  exact h9
end MN
