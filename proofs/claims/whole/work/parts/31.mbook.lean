/-! ===== the reference's reading ===== -/
theorem q_wkv {Y : Nat → Int32} {s e : Nat} : (q_wk Y s e = 3 ↔ q_wd Y s e 0) ∧ (q_wk Y s e = 4 ↔ q_wd Y s e 1) ∧ (q_wk Y s e = 5 ↔ q_wd Y s e 2) ∧ (q_wk Y s e = 6 ↔ q_wd Y s e 3) ∧ ¬ q_wk Y s e = 2 ∧ ¬ q_wk Y s e = 59 := by
  have x01 : q_wd Y s e 0 → ¬ q_wd Y s e 1 := fun a b => absurd ((q_wd0.mp a).2.1.symm.trans (q_wd1.mp b).2.1) (by decide)
  have x02 : q_wd Y s e 0 → ¬ q_wd Y s e 2 := fun a b => absurd ((q_wd0.mp a).2.1.symm.trans (q_wd2.mp b).2.1) (by decide)
  have x03 : q_wd Y s e 0 → ¬ q_wd Y s e 3 := fun a b => absurd ((q_wd0.mp a).2.1.symm.trans (q_wd3.mp b).2.1) (by decide)
  have x12 : q_wd Y s e 1 → ¬ q_wd Y s e 2 := fun a b => absurd ((q_wd1.mp a).2.1.symm.trans (q_wd2.mp b).2.1) (by decide)
  have x13 : q_wd Y s e 1 → ¬ q_wd Y s e 3 := fun a b => absurd ((q_wd1.mp a).2.1.symm.trans (q_wd3.mp b).2.1) (by decide)
  have x23 : q_wd Y s e 2 → ¬ q_wd Y s e 3 := fun a b => absurd ((q_wd2.mp a).2.1.symm.trans (q_wd3.mp b).2.1) (by decide)
  have nd : ∀ {x y : Int32} {P : Prop}, ¬ x = y → ¬ P → (x = y ↔ P) := fun h1 h2 => ⟨fun q => absurd q h1, fun q => absurd q h2⟩
  have yd : ∀ {x : Int32} {P : Prop}, P → (x = x ↔ P) := fun h => ⟨fun _ => h, fun _ => rfl⟩
  unfold q_wk
  by_cases g0 : q_wd Y s e 0
  · rw [if_pos g0]
    exact ⟨yd g0, nd (by decide) (x01 g0), nd (by decide) (x02 g0), nd (by decide) (x03 g0), by decide, by decide⟩
  · rw [if_neg g0]
    by_cases g1 : q_wd Y s e 1
    · rw [if_pos g1]
      exact ⟨nd (by decide) g0, yd g1, nd (by decide) (x12 g1), nd (by decide) (x13 g1), by decide, by decide⟩
    · rw [if_neg g1]
      by_cases g2 : q_wd Y s e 2
      · rw [if_pos g2]
        exact ⟨nd (by decide) g0, nd (by decide) g1, yd g2, nd (by decide) (x23 g2), by decide, by decide⟩
      · rw [if_neg g2]
        by_cases g3 : q_wd Y s e 3
        · rw [if_pos g3]
          exact ⟨nd (by decide) g0, nd (by decide) g1, nd (by decide) g2, yd g3, by decide, by decide⟩
        · rw [if_neg g3]
          exact ⟨nd (by decide) g0, nd (by decide) g1, nd (by decide) g2, nd (by decide) g3, by decide, by decide⟩
section CDS
variable {Y : Nat → Int32} {L s : Nat}
theorem q_cd_l (h : s < L) (hl : q_lt (Y s) = true) : q_cd Y L s = q_wk Y s (q_te Y L s) := by rw [q_cd, if_pos h, if_pos hl]
theorem q_cd_n (h : s < L) (hl : ¬ q_lt (Y s) = true) : (q_cd Y L s = 2 ∨ q_cd Y L s = 1 ∨ q_cd Y L s = 59) ∧ (q_cd Y L s = 2 ↔ q_dg (Y s) = true ∧ q_te Y L s - s ≤ 3) ∧ (q_cd Y L s = 59 ↔ Y s = 59) := by
  rw [q_cd, if_pos h, if_neg hl]
  by_cases hd : q_dg (Y s) = true
  · rw [if_pos hd]
    have h59 : ¬ Y s = 59 := fun q => by rw [q] at hd; exact absurd hd (by decide)
    by_cases h3 : q_te Y L s - s ≤ 3
    · rw [if_pos h3]
      exact ⟨Or.inl rfl, ⟨fun _ => ⟨hd, h3⟩, fun _ => rfl⟩, ⟨fun q => absurd q (by decide), fun q => absurd q h59⟩⟩
    · rw [if_neg h3]
      exact ⟨Or.inr (Or.inl rfl), ⟨fun q => absurd q (by decide), fun q => absurd q.2 h3⟩, ⟨fun q => absurd q (by decide), fun q => absurd q h59⟩⟩
  · rw [if_neg hd]
    by_cases h5 : Y s = 59
    · rw [if_pos h5]
      exact ⟨Or.inr (Or.inr rfl), ⟨fun q => absurd q (by decide), fun q => absurd q.1 hd⟩, ⟨fun _ => h5, fun _ => rfl⟩⟩
    · rw [if_neg h5]
      exact ⟨Or.inr (Or.inl rfl), ⟨fun q => absurd q (by decide), fun q => absurd q.1 hd⟩, ⟨fun q => absurd q (by decide), fun q => absurd q h5⟩⟩
theorem q_cdw {x : Int32} {i : Nat} (hx : q_wk Y s (q_te Y L s) = x ↔ q_wd Y s (q_te Y L s) i) (h2 : ¬ x = 2) (h1 : ¬ x = 1) (h9 : ¬ x = 59) (h0 : ¬ x = 0) (hl : q_wd Y s (q_te Y L s) i → q_lt (Y s) = true) : q_cd Y L s = x ↔ s < L ∧ q_wd Y s (q_te Y L s) i := by
  by_cases h : s < L
  · by_cases hk : q_lt (Y s) = true
    · rw [q_cd_l h hk, hx]
      exact ⟨fun q => ⟨h, q⟩, fun q => q.2⟩
    · refine ⟨fun q => ?_, fun q => absurd (hl q.2) hk⟩
      rcases (q_cd_n h hk).1 with e | e | e
      · exact absurd (q.symm.trans e) h2
      · exact absurd (q.symm.trans e) h1
      · exact absurd (q.symm.trans e) h9
  · rw [q_cd, if_neg h]
    exact ⟨fun q => absurd q.symm h0, fun q => absurd q.1 h⟩
theorem q_cdw0 : q_cd Y L s = 3 ↔ s < L ∧ q_wd Y s (q_te Y L s) 0 := q_cdw q_wkv.1 (by decide) (by decide) (by decide) (by decide) (fun q => by rw [(q_wd0.mp q).2.1]; decide)
theorem q_cdw1 : q_cd Y L s = 4 ↔ s < L ∧ q_wd Y s (q_te Y L s) 1 := q_cdw q_wkv.2.1 (by decide) (by decide) (by decide) (by decide) (fun q => by rw [(q_wd1.mp q).2.1]; decide)
theorem q_cdw2 : q_cd Y L s = 5 ↔ s < L ∧ q_wd Y s (q_te Y L s) 2 := q_cdw q_wkv.2.2.1 (by decide) (by decide) (by decide) (by decide) (fun q => by rw [(q_wd2.mp q).2.1]; decide)
theorem q_cdw3 : q_cd Y L s = 6 ↔ s < L ∧ q_wd Y s (q_te Y L s) 3 := q_cdw q_wkv.2.2.2.1 (by decide) (by decide) (by decide) (by decide) (fun q => by rw [(q_wd3.mp q).2.1]; decide)
theorem q_cd2 : q_cd Y L s = 2 ↔ s < L ∧ ¬ q_nu Y s (q_te Y L s) = -1 := by
  by_cases h : s < L
  · by_cases hk : q_lt (Y s) = true
    · rw [q_cd_l h hk]
      refine ⟨fun q => absurd q q_wkv.2.2.2.2.1, fun q => ?_⟩
      exact absurd hk (q_ld _ (q_nu_n h q.2).1)
    · rw [(q_cd_n h hk).2.1]
      exact ⟨fun q => ⟨h, q_nu_d h q.1 q.2⟩, fun q => ⟨(q_nu_n h q.2).1, (q_nu_n h q.2).2.1⟩⟩
  · rw [q_cd, if_neg h]
    exact ⟨fun q => absurd q (by decide), fun q => absurd q.1 h⟩
theorem q_cd59 : q_cd Y L s = 59 ↔ s < L ∧ Y s = 59 := by
  by_cases h : s < L
  · by_cases hk : q_lt (Y s) = true
    · rw [q_cd_l h hk]
      exact ⟨fun q => absurd q q_wkv.2.2.2.2.2, fun q => by rw [q.2] at hk; exact absurd hk (by decide)⟩
    · rw [(q_cd_n h hk).2.2]
      exact ⟨fun q => ⟨h, q⟩, fun q => q.2⟩
  · rw [q_cd, if_neg h]
    exact ⟨fun q => absurd q (by decide), fun q => absurd q.1 h⟩
theorem q_cd0 (h : q_cd Y L s = 0) : ¬ s < L := by
  intro hs
  by_cases hk : q_lt (Y s) = true
  · rw [q_cd_l hs hk] at h
    unfold q_wk at h
    by_cases g0 : q_wd Y s (q_te Y L s) 0
    · rw [if_pos g0] at h; exact absurd h (by decide)
    · rw [if_neg g0] at h
      by_cases g1 : q_wd Y s (q_te Y L s) 1
      · rw [if_pos g1] at h; exact absurd h (by decide)
      · rw [if_neg g1] at h
        by_cases g2 : q_wd Y s (q_te Y L s) 2
        · rw [if_pos g2] at h; exact absurd h (by decide)
        · rw [if_neg g2] at h
          by_cases g3 : q_wd Y s (q_te Y L s) 3
          · rw [if_pos g3] at h; exact absurd h (by decide)
          · rw [if_neg g3] at h; exact absurd h (by decide)
  · rcases (q_cd_n hs hk).1 with e | e | e
    · exact absurd (h.symm.trans e) (by decide)
    · exact absurd (h.symm.trans e) (by decide)
    · exact absurd (h.symm.trans e) (by decide)
end CDS
def q_RZ (a z : Nat) (μ : q_M) (B : q_B) : Prop := ∀ i, i < 7 → μ a i = nI (B.1 i) ∧ ∀ j, j < B.1 i → μ z (12 * i + 3 * j) = nI (B.2.1 i j) ∧ μ z (12 * i + 3 * j + 1) = nI (B.2.2.1 i j) ∧ μ z (12 * i + 3 * j + 2) = nI (B.2.2.2 i j)
theorem q_RZ.same {a z : Nat} {μ μ' : q_M} {B : q_B} (h : q_RZ a z μ B) (e : ∀ c j, c = a ∨ c = z → μ' c j = μ c j) : q_RZ a z μ' B := by
  intro i hi
  refine ⟨by rw [e _ _ (Or.inl rfl)]; exact (h i hi).1, fun j hj => ?_⟩
  rw [e _ _ (Or.inr rfl), e _ _ (Or.inr rfl), e _ _ (Or.inr rfl)]
  exact (h i hi).2 j hj
def q_MG9 (μ μ' : q_M) : Prop := ∀ c j, c ≠ 131 → c ≠ 132 → (c = 122 → j < 13 ∨ j = 19 ∨ 20 < j) → μ' c j = μ c j
def q_XF (μ μ' : q_M) : Prop := ∀ c j, c ≠ 122 → μ' c j = μ c j
def q_MC (Y : Nat → Int32) (L : Nat) (R : Nat × Nat × q_B) (f slot s : Nat) (w : q_W) (μ0 μ : q_M) : Prop := q_TM μ Y L ∧ q_TK μ Y L s ∧ s ≤ L ∧ L ≤ f + s ∧ q_iv slot w ∧ R = q_rd Y L f slot s w ∧ q_MG9 μ0 μ ∧ μ 122 17 = 0
def q_ML (R : Nat × Nat × q_B) (μ0 μ' : q_M) : Prop := R.1 ≠ 0 ∧ μ' 122 17 = nI R.1 ∧ μ' 122 18 = nI R.2.1 ∧ q_MG9 μ0 μ'
section MB
variable {C : q_C} {l : Launch} {μ : q_M} {b : Bool} {Y : Nat → Int32} {L : Nat} {R : Nat × Nat × q_B} {f slot s : Nat} {w : q_W} {μ0 μ' : q_M}
theorem q_TM_nf (h : q_TM μ Y L) (hn : q_NF μ μ') : q_TM μ' Y L := ⟨by rw [hn _ _ (by omega)]; exact h.1, fun p hp => by rw [hn _ _ (by omega)]; exact h.2 p hp⟩
theorem q_MC_up {c k : Nat} {v : Int32} (h : q_MC Y L R f slot s w μ0 μ) (hc : c = 131 ∨ c = 132) : q_MC Y L R f slot s w μ0 (q_up μ c k v) := by
  refine ⟨q_TM_up h.1 (by omega), ⟨?_, ?_, ?_, fun q => ?_⟩, h.2.2.1, h.2.2.2.1, h.2.2.2.2.1, h.2.2.2.2.2.1, fun x y a1 a2 a3 => ?_, ?_⟩
  · rw [q_upc (by omega)]; exact h.2.1.1
  · rw [q_upc (by omega)]; exact h.2.1.2.1
  · rw [q_upc (by omega)]; exact h.2.1.2.2.1
  · rw [q_upc (by omega)]; exact h.2.1.2.2.2 q
  · rw [q_upc (by omega)]; exact h.2.2.2.2.2.2.1 x y a1 a2 a3
  · rw [q_upc (by omega)]; exact h.2.2.2.2.2.2.2
theorem q_MC_go {w' : q_W} (h : q_MC Y L R f slot s w μ0 μ) (hsl : slot < 9) (hs : s < L) (hk : q_stp Y L slot s w = (0, w')) (hT : q_TM μ' Y L) (hK : q_TK μ' Y L (q_sk Y L (q_te Y L s))) (hF : q_MG9 μ0 μ') (h17 : μ' 122 17 = 0) : ∃ f' s', q_MC Y L R f' ((slot + 1) % 9) s' w' μ0 μ' ∧ s < s' := by
  have hte := q_te_gt (Y := Y) hs
  have hsk := q_sk_ge (Y := Y) (s := q_te Y L s) hte.2
  have hk1 : (q_stp Y L slot s w).1 = 0 := by rw [hk]
  have hiv := q_iv_s hsl h.2.2.2.2.1 hk1
  rw [hk] at hiv
  have hf := h.2.2.2.1
  cases f with
  | zero => omega
  | succ f =>
    refine ⟨f, _, ⟨hT, hK, hsk.2, by omega, hiv, ?_, hF, h17⟩, by omega⟩
    have h9 := h.2.2.2.2.2.1
    rw [q_rd_go hs hk1, hk] at h9
    exact h9
theorem q_MC_bad {k : Nat} (h : q_MC Y L R f slot s w μ0 μ) (hsl : slot < 9) (hk0 : k ≠ 0) (hk : s < L → (q_stp Y L slot s w).1 = k) (he : ¬ s < L → k = 1 ∧ slot ≠ 0) : q_ML R μ0 (q_up (q_up μ 122 17 (nI k)) 122 18 (nI s)) := by
  have hR : R.1 = k ∧ R.2.1 = s := by
    have h9 := h.2.2.2.2.2.1
    by_cases hs : s < L
    · have hf := h.2.2.2.1
      cases f with
      | zero => omega
      | succ f =>
        rw [q_rd, if_pos hs, if_neg (by rw [hk hs]; exact hk0)] at h9
        rw [h9]
        exact ⟨hk hs, rfl⟩
    · have h3 := h.2.2.1
      rw [q_rd_end (by omega), if_neg (he hs).2] at h9
      rw [h9, (he hs).1]
      exact ⟨rfl, by show L = s; omega⟩
  refine ⟨by rw [hR.1]; exact hk0, ?_, ?_, fun x y a1 a2 a3 => ?_⟩
  · rw [q_upo (by decide), q_ups, hR.1]
  · rw [q_ups, hR.2]
  · rw [q_upo (by omega), q_upo (by omega)]; exact h.2.2.2.2.2.2.1 x y a1 a2 a3
theorem q_nx_l (h : s < L) : q_nx Y L s = q_te Y L s := if_pos h
theorem q_nx_le (h : s ≤ L) : q_nx Y L s ≤ L := by
  unfold q_nx
  by_cases e : s < L
  · rw [if_pos e]; exact (q_te_gt e).2
  · rw [if_neg e]; exact h
set_option maxRecDepth 100000 in
set_option maxHeartbeats 4000000 in
theorem c_bad (x : Int32) : q_Ct C l FX8_bad 0 142 142 [.ref (q_a C 122), .int x] μ (q_ρ b) (q_is 0 (q_up (q_up μ 122 17 x) 122 18 (μ 122 15)) (q_ρ b)) := by
  refine q_entry rfl (by decide) (Nat.le_of_ble_eq_true rfl) ?_
  refine g_lv [(0, _), (1, _)] rfl ?_
  refine g_aload_n 1 dX8_bad_0 rfl rfl ?_
  refine g_iload_n 2 dX8_bad_1 rfl rfl ?_
  refine g_putI 5 dX8_bad_2 rfl f_X8_128 (by decide) rfl rfl (Or.inl rfl) ?_
  refine g_aload_n 6 dX8_bad_5 rfl rfl ?_
  refine g_aload_n 7 dX8_bad_6 rfl rfl ?_
  refine g_getI 10 dX8_bad_7 rfl f_X8_109 (by decide) rfl rfl ?_
  rw [q_upo (by decide)]
  refine g_putI 13 dX8_bad_10 rfl f_X8_131 (by decide) rfl rfl (Or.inl rfl) ?_
  refine g_iconst 14 0 dX8_bad_13 rfl (by decide) ?_
  exact g_rz dX8_bad_14 rfl (by first | exact Or.inl rfl | exact Or.inr rfl | assumption) rfl ⟨rfl, rfl, rfl⟩
def q_ND (Y : Nat → Int32) (L s : Nat) (b : Bool) (μ : q_M) (t : Int32) (v : Int32) (μ' : q_M) (ρ' : q_R) : Prop := q_ρ b = ρ' ∧ (v = 0 ∨ v = 1) ∧ (v = 0 → ¬ q_cd Y L s = t ∧ q_up (q_up μ 122 17 1) 122 18 (nI s) = μ') ∧ (¬ v = 0 → q_cd Y L s = t ∧ q_NF μ μ' ∧ q_TK μ' Y L (q_sk Y L (q_nx Y L s)))
def q_NU (Y : Nat → Int32) (L s : Nat) (b : Bool) (μ : q_M) (lo hi : Int32) (v : Int32) (μ' : q_M) (ρ' : q_R) : Prop := q_ρ b = ρ' ∧ (v = 0 ∨ v = 1) ∧ (v = 0 → (¬ q_cd Y L s = 2 ∧ q_up (q_up μ 122 17 1) 122 18 (nI s) = μ') ∨ (q_cd Y L s = 2 ∧ ¬ q_in (q_nu Y s (q_te Y L s)) lo hi ∧ q_up (q_up μ 122 17 2) 122 18 (nI s) = μ')) ∧ (¬ v = 0 → q_cd Y L s = 2 ∧ q_in (q_nu Y s (q_te Y L s)) lo hi ∧ q_NF (q_up μ 122 20 (q_nu Y s (q_te Y L s))) μ' ∧ q_TK μ' Y L (q_sk Y L (q_nx Y L s)))
set_option maxRecDepth 100000 in
set_option maxHeartbeats 4000000 in
theorem c_needs (hY : q_TY Y L) (hM : q_TM μ Y L) (hK : q_TK μ Y L s) (hsL : s ≤ L) (t : Int32) : q_Ct C l FX8_need 3 142 142 [.ref (q_a C 122), .int t] μ (q_ρ b) (q_PI (q_ND Y L s b μ t)) := by
  refine q_entry rfl (by decide) (Nat.le_of_ble_eq_true rfl) ?_
  refine g_lv [(0, _), (1, _)] rfl ?_
  refine g_aload_n 1 dX8_need_0 rfl rfl ?_
  refine g_getI 4 dX8_need_1 rfl f_X8_112 (by decide) rfl rfl ?_
  rw [hK.2.1]
  refine g_iload_n 5 dX8_need_4 rfl rfl ?_
  refine g_icmp_eq 14 8 dX8_need_5 rfl (by decide) (fun h5 => ?_) (fun h5 => ?_)
  · refine g_aload_n 15 dX8_need_14 rfl rfl ?_
    refine g_Vv 18 [] _ dX8_need_15 rfl m_X8_next0 l_X8_137 rfl rfl rfl (by decide) (c_next0 hY hM (q_nx_le hsL) hK.2.2.1) rfl (Nat.le_of_ble_eq_true rfl) (by decide) (fun μ15 ρ15 hc9 => ?_)
    obtain ⟨rfl, hnf, htk⟩ := hc9
    refine g_iconst 19 1 dX8_need_18 rfl (by decide) ?_
    exact g_rz dX8_need_19 rfl (by first | exact Or.inl rfl | exact Or.inr rfl | assumption) rfl ⟨rfl, Or.inr rfl, fun q => absurd q (by decide), fun _ => ⟨h5, hnf, htk⟩⟩
  · refine g_aload_n 9 dX8_need_8 rfl rfl ?_
    refine g_iconst 10 1 dX8_need_9 rfl (by decide) ?_
    refine g_Vi 13 [_] _ dX8_need_10 rfl m_X8_bad l_X8_134 rfl rfl rfl (by decide) (c_bad _) rfl (Nat.le_of_ble_eq_true rfl) (by decide) (fun v10 μ10 ρ10 hc9 => ?_)
    obtain ⟨rfl, rfl, rfl⟩ := hc9
    rw [hK.1]
    exact g_rz dX8_need_13 rfl (by first | exact Or.inl rfl | exact Or.inr rfl | assumption) rfl ⟨rfl, Or.inl rfl, fun _ => ⟨h5, rfl⟩, fun q => absurd rfl q⟩
set_option maxRecDepth 100000 in
set_option maxHeartbeats 4000000 in
theorem c_num (hY : q_TY Y L) (hM : q_TM μ Y L) (hK : q_TK μ Y L s) (hsL : s ≤ L) (lo hi : Int32) : q_Ct C l FX8_aNumber 3 142 142 [.ref (q_a C 122), .int lo, .int hi] μ (q_ρ b) (q_PI (q_NU Y L s b μ lo hi)) := by
  refine q_entry rfl (by decide) (Nat.le_of_ble_eq_true rfl) ?_
  refine g_lv [(0, _), (1, _), (2, _)] rfl ?_
  refine g_aload_n 1 dX8_aNumber_0 rfl rfl ?_
  refine g_getI 4 dX8_aNumber_1 rfl f_X8_112 (by decide) rfl rfl ?_
  rw [hK.2.1]
  refine g_iconst 5 2 dX8_aNumber_4 rfl (by decide) ?_
  refine g_icmp_eq 14 8 dX8_aNumber_5 rfl (by decide) (fun h5 => ?_) (fun h5 => ?_)
  · refine g_aload_n 15 dX8_aNumber_14 rfl rfl ?_
    refine g_getI 18 dX8_aNumber_15 rfl f_X8_125 (by decide) rfl rfl ?_
    rw [hK.2.2.2 h5]
    refine g_iload_n 19 dX8_aNumber_18 rfl rfl ?_
    refine g_iload_n 20 dX8_aNumber_19 rfl rfl ?_
    refine g_Si 23 [_, _, _] _ dX8_aNumber_20 rfl m_X8_isIn l_X8_71 rfl (c_isIn _ _ _) rfl (Nat.le_of_ble_eq_true rfl) (by decide) (fun v20 μ20 ρ20 hc9 => ?_)
    obtain ⟨rfl, rfl, rfl⟩ := hc9
    refine g_if_ne 32 26 dX8_aNumber_23 rfl (by decide) (fun h23 => ?_) (fun h23 => ?_)
    · refine g_aload_n 33 dX8_aNumber_32 rfl rfl ?_
      refine g_aload_n 34 dX8_aNumber_33 rfl rfl ?_
      refine g_getI 37 dX8_aNumber_34 rfl f_X8_125 (by decide) rfl rfl ?_
      rw [hK.2.2.2 h5]
      refine g_putI 40 dX8_aNumber_37 rfl f_X8_140 (by decide) rfl rfl (Or.inl rfl) ?_
      refine g_aload_n 41 dX8_aNumber_40 rfl rfl ?_
      refine g_Vv 44 [] _ dX8_aNumber_41 rfl m_X8_next0 l_X8_137 rfl rfl rfl (by decide) (c_next0 hY (q_TM_up hM (by decide)) (q_nx_le hsL) (by rw [q_upo (by decide)]; exact hK.2.2.1)) rfl (Nat.le_of_ble_eq_true rfl) (by decide) (fun μ41 ρ41 hc9 => ?_)
      obtain ⟨rfl, hnf, htk⟩ := hc9
      refine g_iconst 45 1 dX8_aNumber_44 rfl (by decide) ?_
      exact g_rz dX8_aNumber_45 rfl (by first | exact Or.inl rfl | exact Or.inr rfl | assumption) rfl ⟨rfl, Or.inr rfl, fun q => absurd q (by decide), fun _ => ⟨h5, q_b_n.mp h23, hnf, htk⟩⟩
    · refine g_aload_n 27 dX8_aNumber_26 rfl rfl ?_
      refine g_iconst 28 2 dX8_aNumber_27 rfl (by decide) ?_
      refine g_Vi 31 [_] _ dX8_aNumber_28 rfl m_X8_bad l_X8_134 rfl rfl rfl (by decide) (c_bad _) rfl (Nat.le_of_ble_eq_true rfl) (by decide) (fun v28 μ28 ρ28 hc9 => ?_)
      obtain ⟨rfl, rfl, rfl⟩ := hc9
      rw [hK.1]
      exact g_rz dX8_aNumber_31 rfl (by first | exact Or.inl rfl | exact Or.inr rfl | assumption) rfl ⟨rfl, Or.inl rfl, fun _ => Or.inr ⟨h5, q_b_0.mp h23, rfl⟩, fun q => absurd rfl q⟩
  · refine g_aload_n 9 dX8_aNumber_8 rfl rfl ?_
    refine g_iconst 10 1 dX8_aNumber_9 rfl (by decide) ?_
    refine g_Vi 13 [_] _ dX8_aNumber_10 rfl m_X8_bad l_X8_134 rfl rfl rfl (by decide) (c_bad _) rfl (Nat.le_of_ble_eq_true rfl) (by decide) (fun v10 μ10 ρ10 hc9 => ?_)
    obtain ⟨rfl, rfl, rfl⟩ := hc9
    rw [hK.1]
    exact g_rz dX8_aNumber_13 rfl (by first | exact Or.inl rfl | exact Or.inr rfl | assumption) rfl ⟨rfl, Or.inl rfl, fun _ => Or.inl ⟨h5, rfl⟩, fun q => absurd rfl q⟩
def q_NS (Y : Nat → Int32) (L : Nat) (R : Nat × Nat × q_B) (slot s : Nat) (w : q_W) (b : Bool) (μ0 μ : q_M) (v : Int32) (μ' : q_M) (ρ' : q_R) : Prop := q_ρ b = ρ' ∧ (v = 0 ∨ v = 1) ∧ (v = 0 → q_ML R μ0 μ') ∧ (¬ v = 0 → ∃ f' s', q_MC Y L R f' (slot + 1) s' w μ0 μ' ∧ q_NF μ μ' ∧ s < s')
theorem q_NS_of {x : Int32} {i : Nat} {v : Int32} {ρ' : q_R} (h : q_MC Y L R f slot s w μ0 μ) (hsl : slot < 8) (hx : q_cd Y L s = x ↔ s < L ∧ q_wd Y s (q_te Y L s) i) (hk : q_stp Y L slot s w = if q_wd Y s (q_te Y L s) i then (0, w) else (1, w)) (he : ¬ s < L → slot ≠ 0) (hn : q_ND Y L s b μ x v μ' ρ') : q_NS Y L R slot s w b μ0 μ v μ' ρ' := by
  obtain ⟨h1, h2, h3, h4⟩ := hn
  refine ⟨h1, h2, fun q => ?_, fun q => ?_⟩
  · obtain ⟨g1, g2⟩ := h3 q
    rw [← g2]
    exact q_MC_bad (k := 1) h (by omega) (by decide) (fun hs => by rw [hk, if_neg (fun z => g1 (hx.mpr ⟨hs, z⟩))]) (fun hs => ⟨rfl, he hs⟩)
  · obtain ⟨g1, g2, g3⟩ := h4 q
    have g4 := hx.mp g1
    rw [q_nx_l g4.1] at g3
    obtain ⟨f', s', e1, e2⟩ := q_MC_go h (by omega) g4.1 (by rw [hk, if_pos g4.2]) (q_TM_nf h.1 g2) g3 (fun c j a1 a2 a3 => by rw [g2 _ _ (by omega)]; exact h.2.2.2.2.2.2.1 c j a1 a2 a3) (by rw [g2 _ _ (by omega)]; exact h.2.2.2.2.2.2.2)
    rw [Nat.mod_eq_of_lt (by omega)] at e1
    exact ⟨f', s', e1, g2, e2⟩
def q_NV (Y : Nat → Int32) (L : Nat) (R : Nat × Nat × q_B) (slot s lo hi : Nat) (W : Nat → q_W) (b : Bool) (μ0 μ : q_M) (v : Int32) (μ' : q_M) (ρ' : q_R) : Prop := q_ρ b = ρ' ∧ (v = 0 ∨ v = 1) ∧ (v = 0 → q_ML R μ0 μ') ∧ (¬ v = 0 → ∃ f' s' n, q_MC Y L R f' (slot + 1) s' (W n) μ0 μ' ∧ q_XF μ μ' ∧ s < s' ∧ lo ≤ n ∧ n ≤ hi ∧ μ' 122 20 = nI n)
theorem q_NV_of {lo hi : Nat} {W : Nat → q_W} {v : Int32} {ρ' : q_R} (h : q_MC Y L R f slot s w μ0 μ) (hsl : slot < 8) (h0 : slot ≠ 0) (hlo : lo < 2 ^ 31) (hhi : hi < 2 ^ 31) (hk1 : q_nu Y s (q_te Y L s) = -1 → q_stp Y L slot s w = (1, w)) (hk2 : ∀ n, s < L → n < 1000 → q_nu Y s (q_te Y L s) = nI n → ∃ w', q_stp Y L slot s w = (if lo ≤ n ∧ n ≤ hi then 0 else 2, w') ∧ w' = W n) (hn : q_NU Y L s b μ (nI lo) (nI hi) v μ' ρ') : q_NV Y L R slot s lo hi W b μ0 μ v μ' ρ' := by
  obtain ⟨h1, h2, h3, h4⟩ := hn
  refine ⟨h1, h2, fun q => ?_, fun q => ?_⟩
  · rcases h3 q with ⟨g1, g2⟩ | ⟨g1, g2, g3⟩
    · rw [← g2]
      exact q_MC_bad (k := 1) h (by omega) (by decide) (fun hs => by rw [hk1 (Classical.not_not.mp (fun z => g1 (q_cd2.mpr ⟨hs, z⟩)))]) (fun _ => ⟨rfl, h0⟩)
    · rw [← g3]
      have g4 := q_cd2.mp g1
      obtain ⟨_, _, n, n1, n2⟩ := q_nu_n g4.1 g4.2
      refine q_MC_bad (k := 2) h (by omega) (by decide) (fun hs => ?_) (fun hs => absurd g4.1 hs)
      obtain ⟨w', e1, e2⟩ := hk2 n hs n1 n2
      rw [e1, if_neg (fun z => g2 (by rw [n2]; exact (q_inN (by omega) hlo hhi).mpr z))]
  · obtain ⟨g1, g2, g3, g5⟩ := h4 q
    have g4 := q_cd2.mp g1
    obtain ⟨_, _, n, n1, n2⟩ := q_nu_n g4.1 g4.2
    rw [q_nx_l g4.1] at g5
    rw [n2] at g2 g3
    have g6 := (q_inN (by omega) hlo hhi).mp g2
    obtain ⟨w', e1, e2⟩ := hk2 n g4.1 n1 n2
    rw [if_pos g6] at e1
    subst e2
    have gx : q_TM (q_up μ 122 20 (nI n)) Y L := q_TM_up h.1 (by decide)
    obtain ⟨f', s', e3, e4⟩ := q_MC_go h (by omega) g4.1 e1 (q_TM_nf gx g3) g5 (fun c j a1 a2 a3 => by rw [g3 _ _ (by omega), q_upo (by omega)]; exact h.2.2.2.2.2.2.1 c j a1 a2 a3) (by rw [g3 _ _ (by omega), q_upo (by decide)]; exact h.2.2.2.2.2.2.2)
    rw [Nat.mod_eq_of_lt (by omega)] at e3
    exact ⟨f', s', n, e3, fun c j a => by rw [g3 _ _ (by omega), q_upc a], e4, g6.1, g6.2, by rw [g3 _ _ (by omega), q_ups]⟩
end MB
