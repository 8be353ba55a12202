/-! ===== the race: pure ===== -/
def q_S (tm : Nat → Nat → Int32) : Nat → Nat → Int32
  | 0, r => tm 0 r + 0
  | i + 1, r => tm (i + 1) r + q_S tm i r
/-- who starts in stage i, in which order -/
def q_od (cnt : Nat) (tm : Nat → Nat → Int32) (bk : Nat → Int32) : Nat → (Nat → Nat) × Nat
  | 0 => (fun k => k, cnt)
  | i + 1 => q_so (q_S tm i) bk i (q_od cnt tm bk i).1 (q_od cnt tm bk i).2
theorem q_od_le (cnt : Nat) (tm : Nat → Nat → Int32) (bk : Nat → Int32) : ∀ i, (q_od cnt tm bk i).2 ≤ cnt
  | 0 => Nat.le_refl _
  | i + 1 => Nat.le_trans (q_so_le _ _ _ _ _) (q_od_le cnt tm bk i)
theorem q_od_dec (cnt : Nat) (tm : Nat → Nat → Int32) (bk : Nat → Int32) (i : Nat) : (q_od cnt tm bk (i + 1)).2 ≤ (q_od cnt tm bk i).2 := q_so_le _ _ _ _ _
theorem q_od_lt (cnt : Nat) (tm : Nat → Nat → Int32) (bk : Nat → Int32) : ∀ i j, j < (q_od cnt tm bk i).2 → (q_od cnt tm bk i).1 j < cnt
  | 0, j, h => h
  | i + 1, j, h => by
    obtain ⟨k', h1, h2, h3⟩ := q_so_mem _ _ _ _ _ j h
    have e : (q_od cnt tm bk (i + 1)).1 j = (q_od cnt tm bk i).1 k' := h2
    rw [e]
    exact q_od_lt cnt tm bk i k' h1
/-- stage i as the class holds it -/
def q_SG (μ : q_M) (cnt : Nat) (tm : Nat → Nat → Int32) (bk bg : Nat → Int32) (i : Nat) : Prop :=
  (∀ r, r < cnt → μ (13 + i) r = tm i r) ∧ (∀ r, r < 10 → μ (21 + i) r = q_st (bg i) (q_od cnt tm bk i).1 (q_od cnt tm bk i).2 r) ∧
  (∀ r, r < 10 → μ (29 + i) r = q_ar (bg i) (tm i) bk i (q_od cnt tm bk i).1 (q_od cnt tm bk i).2 r) ∧
  (∀ r, r < 10 → μ (37 + i) r = q_pl (fun _ => -1) (q_od cnt tm bk (i + 1)).1 (q_od cnt tm bk (i + 1)).2 r) ∧
  (∀ r, r < 10 → μ (45 + i) r = q_su (q_S tm i) bk i (q_od cnt tm bk i).1 (q_od cnt tm bk i).2 r) ∧
  (∀ j, j < (q_od cnt tm bk (i + 1)).2 → μ (53 + i) j = nI ((q_od cnt tm bk (i + 1)).1 j)) ∧
  μ 60 i = nI (q_od cnt tm bk (i + 1)).2 ∧ μ 61 i = nI (q_od cnt tm bk i).2 ∧ μ 62 i = bg i
def q_RN (μ0 μ : q_M) (cnt : Nat) (tm : Nat → Nat → Int32) (bk bg : Nat → Int32) (i : Nat) : Prop :=
  (∀ i', i' < i → q_SG μ cnt tm bk bg i') ∧ ∀ c j, (c < 13 ∨ 62 < c) → μ c j = μ0 c j
def q_tz (μ : q_M) (i : Nat) (t : Nat → Int32) (k : Nat) : q_M := fun c j => if c = 13 + i ∧ j < k then t j else μ c j
theorem q_tz_0 {μ : q_M} {i : Nat} {t : Nat → Int32} : q_tz μ i t 0 = μ := by funext c j; unfold q_tz; rw [if_neg (by omega)]
theorem q_tz_s {μ : q_M} {i k : Nat} {t : Nat → Int32} {v : Int32} (h : v = t k) : q_up (q_tz μ i t k) (13 + i) k v = q_tz μ i t (k + 1) := by
  subst h
  funext c j
  unfold q_up q_tz
  by_cases e : c = 13 + i ∧ j = k
  · rw [if_pos e, if_pos (by omega), e.2]
  · rw [if_neg e]
    by_cases e2 : c = 13 + i ∧ j < k
    · rw [if_pos e2, if_pos (by omega)]
    · rw [if_neg e2, if_neg (by omega)]
theorem q_tz_o {μ : q_M} {i k c j : Nat} {t : Nat → Int32} (h : c ≠ 13 + i) : q_tz μ i t k c j = μ c j := if_neg (fun z => h z.1)
def q_m2 (μ : q_M) (i : Nat) (v : Int32) : q_M := q_up (q_up (q_up (q_fl μ i 10) 60 i 0) 61 i 0) 62 i v
theorem q_m2_o {μ : q_M} {i c j : Nat} {v : Int32} (h1 : c ≠ 21 + i) (h2 : c ≠ 29 + i) (h3 : c ≠ 37 + i) (h4 : c ≠ 45 + i) (h5 : (c ≠ 60 ∧ c ≠ 61 ∧ c ≠ 62) ∨ j ≠ i) : q_m2 μ i v c j = μ c j := by
  unfold q_m2
  rw [q_upo (by omega), q_upo (by omega), q_upo (by omega)]
  exact if_neg (by omega)
theorem q_m2_f {μ : q_M} {i c j : Nat} {v : Int32} (hi : i < 7) (h : c = 21 + i ∨ c = 29 + i ∨ c = 37 + i ∨ c = 45 + i) (hj : j < 10) : q_m2 μ i v c j = -1 := by
  unfold q_m2
  rw [q_upc (by omega), q_upc (by omega), q_upc (by omega)]
  exact if_pos ⟨h, hj⟩
/-- what the stage finds -/
theorem q_RS_0 {μ : q_M} {i cnt : Nat} {t : Nat → Int32} {v : Int32} {rin : Nat → Nat} {bg : Int32} {tm S bk : Nat → Int32} (hi : i < 7) : q_RS (q_tz (q_m2 μ i v) i t cnt) (q_tz (q_m2 μ i v) i t cnt) i 0 rin bg tm S bk := by
  refine ⟨fun c j _ _ _ _ _ => rfl, fun r hr => ?_, fun r hr => ?_, fun r hr => ?_, fun j hj => absurd hj (Nat.not_lt_zero _), ?_⟩
  · rw [q_tz_o (by omega), q_m2_f hi (by omega) hr]; rfl
  · rw [q_tz_o (by omega), q_m2_f hi (by omega) hr]; rfl
  · rw [q_tz_o (by omega), q_m2_f hi (by omega) hr]; rfl
  · rw [q_tz_o (by omega)]
    unfold q_m2
    rw [q_upc (by decide), q_upc (by decide), q_ups]
    rfl
theorem q_RN_s {μ0 μ μ4 : q_M} {cnt i : Nat} {tm : Nat → Nat → Int32} {bk bg : Nat → Int32} (hi : i < 7) (hc : cnt ≤ 10) (h : q_RN μ0 μ cnt tm bk bg i) (h4 : q_RS (q_tz (q_m2 μ i (bg i)) i (tm i) cnt) μ4 i (q_od cnt tm bk i).2 (q_od cnt tm bk i).1 (bg i) (tm i) (q_S tm i) bk) :
    q_RN μ0 (q_tp (q_up μ4 61 i (nI (q_od cnt tm bk i).2)) i (q_od cnt tm bk (i + 1)).1 (q_od cnt tm bk (i + 1)).2) cnt tm bk bg (i + 1) := by
  obtain ⟨g1, g2, g3, g4, g5, g6⟩ := h4
  have tp : ∀ c j, c ≠ 37 + i → q_tp (q_up μ4 61 i (nI (q_od cnt tm bk i).2)) i (q_od cnt tm bk (i + 1)).1 (q_od cnt tm bk (i + 1)).2 c j = q_up μ4 61 i (nI (q_od cnt tm bk i).2) c j := fun c j hc => if_neg hc
  have off : ∀ c j, c ≠ 13 + i → c ≠ 21 + i → c ≠ 29 + i → c ≠ 37 + i → c ≠ 45 + i → c ≠ 53 + i → ((c ≠ 60 ∧ c ≠ 61 ∧ c ≠ 62) ∨ j ≠ i) → q_tp (q_up μ4 61 i (nI (q_od cnt tm bk i).2)) i (q_od cnt tm bk (i + 1)).1 (q_od cnt tm bk (i + 1)).2 c j = μ c j := by
    intro c j a0 a1 a2 a3 a4 a5 a6
    rw [tp c j a3, q_upo (by omega), g1 c j a1 a2 a4 a5 (by omega), q_tz_o a0, q_m2_o a1 a2 a3 a4 a6]
  refine ⟨fun i' hi' => ?_, fun c j hcj => ?_⟩
  · by_cases e : i' = i
    · subst e
      refine ⟨fun r hr => ?_, fun r hr => ?_, fun r hr => ?_, fun r hr => ?_, fun r hr => ?_, fun j hj => ?_, ?_, ?_, ?_⟩
      · rw [tp _ _ (by omega), q_upc (by omega), g1 _ _ (by omega) (by omega) (by omega) (by omega) (by omega)]
        exact if_pos ⟨rfl, hr⟩
      · rw [tp _ _ (by omega), q_upc (by omega)]; exact g2 r hr
      · rw [tp _ _ (by omega), q_upc (by omega)]; exact g3 r hr
      · show (if 37 + i' = 37 + i' then _ else _) = _
        rw [if_pos rfl]
        have hf : ∀ r, r < 10 → q_up μ4 61 i' (nI (q_od cnt tm bk i').2) (37 + i') r = -1 := by
          intro r hr
          rw [q_upc (by omega), g1 _ _ (by omega) (by omega) (by omega) (by omega) (by omega), q_tz_o (by omega), q_m2_f hi (by omega) hr]
        have key : ∀ p r, r < 10 → q_pl (q_up μ4 61 i' (nI (q_od cnt tm bk i').2) (37 + i')) (q_od cnt tm bk (i' + 1)).1 p r = q_pl (fun _ => -1) (q_od cnt tm bk (i' + 1)).1 p r := by
          intro p
          induction p with
          | zero => intro r hr; exact hf r hr
          | succ p ih => intro r hr; unfold q_pl; rw [ih r hr]
        exact key _ r hr
      · rw [tp _ _ (by omega), q_upc (by omega)]; exact g4 r hr
      · rw [tp _ _ (by omega), q_upc (by omega)]; exact g5 j hj
      · rw [tp _ _ (by omega), q_upc (by omega)]; exact g6
      · rw [tp _ _ (by omega), q_ups]
      · rw [tp _ _ (by omega), q_upc (by omega), g1 _ _ (by omega) (by omega) (by omega) (by omega) (by omega), q_tz_o (by omega)]
        unfold q_m2
        rw [q_ups]
    · obtain ⟨a1, a2, a3, a4, a5, a6, a7, a8, a9⟩ := h.1 i' (by omega)
      refine ⟨fun r hr => ?_, fun r hr => ?_, fun r hr => ?_, fun r hr => ?_, fun r hr => ?_, fun j hj => ?_, ?_, ?_, ?_⟩
      · rw [off _ _ (by omega) (by omega) (by omega) (by omega) (by omega) (by omega) (by omega)]; exact a1 r hr
      · rw [off _ _ (by omega) (by omega) (by omega) (by omega) (by omega) (by omega) (by omega)]; exact a2 r hr
      · rw [off _ _ (by omega) (by omega) (by omega) (by omega) (by omega) (by omega) (by omega)]; exact a3 r hr
      · rw [off _ _ (by omega) (by omega) (by omega) (by omega) (by omega) (by omega) (by omega)]; exact a4 r hr
      · rw [off _ _ (by omega) (by omega) (by omega) (by omega) (by omega) (by omega) (by omega)]; exact a5 r hr
      · rw [off _ _ (by omega) (by omega) (by omega) (by omega) (by omega) (by omega) (by omega)]; exact a6 j hj
      · rw [off _ _ (by omega) (by omega) (by omega) (by omega) (by omega) (by omega) (by omega)]; exact a7
      · rw [off _ _ (by omega) (by omega) (by omega) (by omega) (by omega) (by omega) (by omega)]; exact a8
      · rw [off _ _ (by omega) (by omega) (by omega) (by omega) (by omega) (by omega) (by omega)]; exact a9
  · rw [off c j (by omega) (by omega) (by omega) (by omega) (by omega) (by omega) (by omega)]
    exact h.2 c j hcj
/-! ===== the race: the class ===== -/
/-- what a race needs of the told things, in the class -/
def q_IN (μ0 : q_M) (cnt rb : Nat) (K : Nat → Nat) (tm : Nat → Nat → Int32) (bk bg : Nat → Int32) : Prop :=
  cnt ≤ 10 ∧ (rb = 70 ∨ rb = 96) ∧ μ0 4 3 = nI cnt ∧ (∀ i, i < 7 → K i ≤ 4 ∧ μ0 (rb + 1) i = nI (K i)) ∧
  (∀ i r, i < 7 → r < cnt → tm i r = q_time (μ0 5 r) (μ0 2 i) (μ0 (rb + 3 + i)) (μ0 (rb + 11 + i)) (μ0 (rb + 19 + i)) (K i)) ∧ (∀ r, r < cnt → μ0 6 r = bk r) ∧ (∀ i, i < 7 → bg i = nI i * 1440 + μ0 3 i * 60)
section RN
variable {C : q_C} {l : Launch} {μ μ0 : q_M} {b : Bool}
set_option maxRecDepth 100000 in
set_option maxHeartbeats 4000000 in
theorem lp_times {rb cnt : Nat} {K : Nat → Nat} {tm : Nat → Nat → Int32} {bk bg : Nat → Int32} {i : Nat} {μ2 : q_M} {Po : q_P} (hI : q_IN μ0 cnt rb K tm bk bg) (hi : i < 7) (hf : ∀ c j, (c < 13 ∨ 62 < c) → μ2 c j = μ0 c j) (hk9 : q_G C l FX3_run 3 142 142 Po 142 (q_tz μ2 i (tm i) cnt) (q_ρ b) [(0, .ref (q_a C 11)), (1, .ref (q_a C 1)), (2, .ref (q_a C 4)), (3, .ref (q_a C rb)), (4, .int (nI i))] [] 77) : ∀ k r2, r2 + k = cnt → q_G C l FX3_run 3 142 142 Po 142 (q_tz μ2 i (tm i) r2) (q_ρ b) [(0, .ref (q_a C 11)), (1, .ref (q_a C 1)), (2, .ref (q_a C 4)), (3, .ref (q_a C rb)), (4, .int (nI i)), (5, .int (nI r2))] [] 32 := by
  intro k
  induction k with
  | zero =>
    intro r2 hK9
    refine g_iload 34 dX3_run_32 rfl rfl ?_
    refine g_aload_n 35 dX3_run_34 rfl rfl ?_
    refine g_getI 38 dX3_run_35 rfl f_X3_50 (by decide) rfl rfl ?_
    rw [q_tz_o (by omega), hf 4 3 (by omega), hI.2.2.1]
    refine g_icmp_ge 77 41 dX3_run_38 rfl (by decide) (fun h38 => ?_) (fun h38 => ?_)
    · rw [show r2 = cnt by omega]
      refine g_lv [(0, _), (1, _), (2, _), (3, _), (4, _)] rfl ?_
      exact hk9
    · exact absurd (nI_le (by omega) (by have := hI.1; omega)) h38
  | succ k ih =>
    intro r2 hK9
    refine g_iload 34 dX3_run_32 rfl rfl ?_
    refine g_aload_n 35 dX3_run_34 rfl rfl ?_
    refine g_getI 38 dX3_run_35 rfl f_X3_50 (by decide) rfl rfl ?_
    rw [q_tz_o (by omega), hf 4 3 (by omega), hI.2.2.1]
    refine g_icmp_ge 77 41 dX3_run_38 rfl (by decide) (fun h38 => ?_) (fun h38 => ?_)
    · exact absurd h38 (nI_ge (by omega) (by have := hI.1; omega))
    · refine g_aload_n 42 dX3_run_41 rfl rfl ?_
      refine g_getR 45 _ dX3_run_42 rfl f_X3_11 (by decide) rfl rfl rfl ?_
      refine g_iload 47 dX3_run_45 rfl rfl ?_
      refine g_aald 48 _ dX3_run_47 rfl (by decide) rfl (vp_in_nI hi (by omega)) rfl ?_
      rw [nI_clamp (show i < 2 ^ 31 by omega)]
      have hcn := hI.1
      refine g_iload 50 dX3_run_48 rfl rfl ?_
      refine g_aload_n 51 dX3_run_50 rfl rfl ?_
      refine g_getR 54 _ dX3_run_51 rfl f_X3_56 (by decide) rfl rfl rfl ?_
      refine g_iload 56 dX3_run_54 rfl rfl ?_
      refine g_iald 57 dX3_run_56 rfl (by decide) rfl (vp_in_nI (show r2 < 10 by omega) (by omega)) ?_
      rw [nI_clamp (show r2 < 2 ^ 31 by omega), q_tz_o (by omega), hf 5 r2 (by omega)]
      refine g_aload_n 58 dX3_run_57 rfl rfl ?_
      refine g_getR 61 _ dX3_run_58 rfl f_X3_59 (by decide) rfl rfl rfl ?_
      refine g_iload 63 dX3_run_61 rfl rfl ?_
      refine g_iald 64 dX3_run_63 rfl (by decide) rfl (vp_in_nI hi (by omega)) ?_
      rw [nI_clamp (show i < 2 ^ 31 by omega), q_tz_o (by omega), hf 2 i (by omega)]
      refine g_aload_n 65 dX3_run_64 rfl rfl ?_
      refine g_iload 67 dX3_run_65 rfl rfl ?_
      refine g_Si 70 [_, _, _, _] _ dX3_run_67 rfl m_X3_timeFor l_X3_62 rfl (c_time (r := rb) (K := K i) _ _ hI.2.1 hi (hI.2.2.2.1 i hi).1 (by rw [q_tz_o (by have := hI.2.1; omega), hf _ _ (by have := hI.2.1; omega)]; exact (hI.2.2.2.1 i hi).2)) rfl (Nat.le_of_ble_eq_true rfl) (by decide) (fun v67 μ67 ρ67 hc9 => ?_)
      obtain ⟨rfl, rfl, rfl⟩ := hc9
      have hrb := hI.2.1
      have e1 : q_tz μ2 i (tm i) r2 (rb + 3 + i) = μ0 (rb + 3 + i) := by funext j; rw [q_tz_o (by omega), hf _ _ (by omega)]
      have e2 : q_tz μ2 i (tm i) r2 (rb + 11 + i) = μ0 (rb + 11 + i) := by funext j; rw [q_tz_o (by omega), hf _ _ (by omega)]
      have e3 : q_tz μ2 i (tm i) r2 (rb + 19 + i) = μ0 (rb + 19 + i) := by funext j; rw [q_tz_o (by omega), hf _ _ (by omega)]
      rw [e1, e2, e3, ← hI.2.2.2.2.1 i r2 hi (by omega)]
      refine g_iast 71 dX3_run_70 rfl (by omega) (k_13 i hi) (vp_in_nI (show r2 < 10 by omega) (by omega)) ?_
      rw [nI_clamp (show r2 < 2 ^ 31 by omega), q_tz_s rfl]
      refine g_iinc 74 (_ + 1) dX3_run_71 rfl rfl rfl (by decide) ?_
      refine g_goto 32 dX3_run_74 (by decide) ?_
      rw [nI_1]
      refine g_lv [(0, _), (1, _), (2, _), (3, _), (4, _), (5, _)] rfl ?_
      exact ih (r2 + 1) (by omega)
set_option maxRecDepth 100000 in
set_option maxHeartbeats 8000000 in
theorem lp_run {rb cnt : Nat} {K : Nat → Nat} {tm : Nat → Nat → Int32} {bk bg : Nat → Int32} (hI : q_IN μ0 cnt rb K tm bk bg) : ∀ k i, i + k = 7 → ∀ μ, q_RN μ0 μ cnt tm bk bg i → q_G C l FX3_run 3 142 142 (q_PV fun μ' ρ' => q_ρ b = ρ' ∧ q_RN μ0 μ' cnt tm bk bg 7) 142 μ (q_ρ b) [(0, .ref (q_a C 11)), (1, .ref (q_a C 1)), (2, .ref (q_a C 4)), (3, .ref (q_a C rb)), (4, .int (nI i))] [] 3 := by
  intro k
  induction k with
  | zero =>
    intro i hk μ hq
    refine g_iload 5 dX3_run_3 rfl rfl ?_
    refine g_bipush 7 7 dX3_run_5 rfl (by decide) ?_
    refine g_icmp_ge 96 10 dX3_run_7 rfl (by decide) (fun h7 => ?_) (fun h7 => ?_)
    · exact g_rv dX3_run_96 rfl rfl ⟨rfl, by rw [show i = 7 by omega] at hq; exact hq⟩
    · exact absurd (nI_le (a := 7) (b := i) (by omega) (by omega)) h7
  | succ k ih =>
    intro i hk μ hq
    have hi : i < 7 := by omega
    have hcn := hI.1
    cases i with
    | zero =>
      refine g_iload 5 dX3_run_3 rfl rfl ?_
      refine g_bipush 7 7 dX3_run_5 rfl (by decide) ?_
      refine g_icmp_ge 96 10 dX3_run_7 rfl (by decide) (fun h7 => ?_) (fun h7 => ?_)
      · exact absurd h7 (nI_ge (a := 0) (b := 7) (by omega) (by omega))
      · refine g_aload_n 11 dX3_run_10 rfl rfl ?_
        refine g_iload 13 dX3_run_11 rfl rfl ?_
        refine g_Vv 16 [_] _ dX3_run_13 rfl m_X3_forget l_X3_41 rfl rfl rfl (by decide) (c_frg (show 0 < 7 by decide)) rfl (Nat.le_of_ble_eq_true rfl) (by decide) (fun μ13 ρ13 hc9 => ?_)
        obtain ⟨rfl, rfl⟩ := hc9
        refine g_aload_n 17 dX3_run_16 rfl rfl ?_
        refine g_getR 20 _ dX3_run_17 rfl f_X3_38 (by decide) rfl rfl rfl ?_
        refine g_iload 22 dX3_run_20 rfl rfl ?_
        refine g_aload_n 23 dX3_run_22 rfl rfl ?_
        refine g_iload 25 dX3_run_23 rfl rfl ?_
        refine g_Vi 28 [_] _ dX3_run_25 rfl m_X1_begins l_X3_45 rfl rfl rfl (by decide) (c_begins 0 (show 0 < 7 by decide)) rfl (Nat.le_of_ble_eq_true rfl) (by decide) (fun v25 μ25 ρ25 hc9 => ?_)
        obtain ⟨rfl, rfl, rfl⟩ := hc9
        rw [q_upc (by decide), q_upc (by decide), show q_fl μ 0 10 3 0 = μ 3 0 from if_neg (by omega), hq.2 3 0 (by decide), ← hI.2.2.2.2.2.2 0 (show 0 < 7 by decide)]
        refine g_iast 29 dX3_run_28 rfl (by decide) rfl (vp_in_nI (show 0 < 7 by decide) (by omega)) ?_
        rw [nI_clamp (show 0 < 2 ^ 31 by omega)]
        refine g_iconst 30 0 dX3_run_29 rfl (by decide) ?_
        refine g_istore 32 dX3_run_30 rfl (by decide) ?_
        have h9 := lp_times (C := C) (l := l) (b := b) (Po := (q_PV fun μ' ρ' => q_ρ b = ρ' ∧ q_RN μ0 μ' cnt tm bk bg 7)) (μ2 := q_m2 μ 0 (bg 0)) hI (show 0 < 7 by decide) (fun c j hc => by rw [q_m2_o (by omega) (by omega) (by omega) (by omega) (by omega)]; exact hq.2 c j hc) ?_ cnt 0 (by omega)
        · refine g_lv [(0, _), (1, _), (2, _), (3, _), (4, _), (5, .int 0)] rfl ?_
          rw [q_tz_0] at h9
          exact h9
        refine g_aload_n 78 dX3_run_77 rfl rfl ?_
        refine g_iload 80 dX3_run_78 rfl rfl ?_
        refine g_aload_n 81 dX3_run_80 rfl rfl ?_
        refine g_Vv 84 [_, _] _ dX3_run_81 rfl m_X3_runStage l_X3_66 rfl rfl rfl (by decide) (c_stage0 (rin := (q_od cnt tm bk 0).1) (S := q_S tm 0) (bk := bk) hI.1 (fun k _ => rfl) (show q_tz (q_m2 μ 0 (bg 0)) 0 (tm 0) cnt 62 0 = bg 0 from by rw [q_tz_o (by decide)]; exact q_ups) (fun k hk => if_pos ⟨rfl, hk⟩) (fun r => rfl) (fun k hk => by rw [q_tz_o (by decide), q_m2_o (by decide) (by decide) (by decide) (by decide) (by omega), hq.2 6 _ (by decide)]; exact hI.2.2.2.2.2.1 k hk) (by rw [q_tz_o (by decide), q_m2_o (by decide) (by decide) (by decide) (by decide) (by decide), hq.2 4 3 (by decide)]; exact hI.2.2.1) (q_RS_0 (by decide))) rfl (Nat.le_of_ble_eq_true rfl) (by decide) (fun μ81 ρ81 hc9 => ?_)
        obtain ⟨rfl, μ4, h4, rfl⟩ := hc9
        refine g_aload_n 85 dX3_run_84 rfl rfl ?_
        refine g_iload 87 dX3_run_85 rfl rfl ?_
        refine g_Vv 90 [_] _ dX3_run_87 rfl m_X3_tellPlaces l_X3_70 rfl rfl rfl (by decide) (c_tp (o := (q_od cnt tm bk (0 + 1)).1) (m := (q_od cnt tm bk (0 + 1)).2) (by decide) (Nat.le_trans (q_od_le cnt tm bk _) hI.1) (by rw [q_upc (by decide)]; exact h4.2.2.2.2.2) (fun j hj => ⟨by rw [q_upc (by omega)]; exact h4.2.2.2.2.1 j hj, Nat.lt_of_lt_of_le (q_od_lt cnt tm bk _ j hj) hI.1⟩)) rfl (Nat.le_of_ble_eq_true rfl) (by decide) (fun μ87 ρ87 hc9 => ?_)
        obtain ⟨rfl, rfl⟩ := hc9
        refine g_iinc 93 (_ + 1) dX3_run_90 rfl rfl rfl (by decide) ?_
        refine g_goto 3 dX3_run_93 (by decide) ?_
        rw [nI_1]
        refine g_lv [(0, _), (1, _), (2, _), (3, _), (4, _)] rfl ?_
        exact ih (0 + 1) (by omega) _ (q_RN_s (by decide) hI.1 hq h4)
    | succ i =>
      refine g_iload 5 dX3_run_3 rfl rfl ?_
      refine g_bipush 7 7 dX3_run_5 rfl (by decide) ?_
      refine g_icmp_ge 96 10 dX3_run_7 rfl (by decide) (fun h7 => ?_) (fun h7 => ?_)
      · exact absurd h7 (nI_ge (a := (i + 1)) (b := 7) (by omega) (by omega))
      · refine g_aload_n 11 dX3_run_10 rfl rfl ?_
        refine g_iload 13 dX3_run_11 rfl rfl ?_
        refine g_Vv 16 [_] _ dX3_run_13 rfl m_X3_forget l_X3_41 rfl rfl rfl (by decide) (c_frg hi) rfl (Nat.le_of_ble_eq_true rfl) (by decide) (fun μ13 ρ13 hc9 => ?_)
        obtain ⟨rfl, rfl⟩ := hc9
        refine g_aload_n 17 dX3_run_16 rfl rfl ?_
        refine g_getR 20 _ dX3_run_17 rfl f_X3_38 (by decide) rfl rfl rfl ?_
        refine g_iload 22 dX3_run_20 rfl rfl ?_
        refine g_aload_n 23 dX3_run_22 rfl rfl ?_
        refine g_iload 25 dX3_run_23 rfl rfl ?_
        refine g_Vi 28 [_] _ dX3_run_25 rfl m_X1_begins l_X3_45 rfl rfl rfl (by decide) (c_begins (i + 1) hi) rfl (Nat.le_of_ble_eq_true rfl) (by decide) (fun v25 μ25 ρ25 hc9 => ?_)
        obtain ⟨rfl, rfl, rfl⟩ := hc9
        rw [q_upc (by decide), q_upc (by decide), show q_fl μ (i + 1) 10 3 (i + 1) = μ 3 (i + 1) from if_neg (by omega), hq.2 3 (i + 1) (by decide), ← hI.2.2.2.2.2.2 (i + 1) hi]
        refine g_iast 29 dX3_run_28 rfl (by decide) rfl (vp_in_nI hi (by omega)) ?_
        rw [nI_clamp (show (i + 1) < 2 ^ 31 by omega)]
        refine g_iconst 30 0 dX3_run_29 rfl (by decide) ?_
        refine g_istore 32 dX3_run_30 rfl (by decide) ?_
        have h9 := lp_times (C := C) (l := l) (b := b) (Po := (q_PV fun μ' ρ' => q_ρ b = ρ' ∧ q_RN μ0 μ' cnt tm bk bg 7)) (μ2 := q_m2 μ (i + 1) (bg (i + 1))) hI hi (fun c j hc => by rw [q_m2_o (by omega) (by omega) (by omega) (by omega) (by omega)]; exact hq.2 c j hc) ?_ cnt 0 (by omega)
        · refine g_lv [(0, _), (1, _), (2, _), (3, _), (4, _), (5, .int 0)] rfl ?_
          rw [q_tz_0] at h9
          exact h9
        have hSG := hq.1 i (by omega)
        have hr3 : ∀ k, k < (q_od cnt tm bk (i + 1)).2 → (q_od cnt tm bk (i + 1)).1 k < 10 ∧ q_tz (q_m2 μ (i + 1) (bg (i + 1))) (i + 1) (tm (i + 1)) cnt (53 + i) k = nI ((q_od cnt tm bk (i + 1)).1 k) ∧ q_tz (q_m2 μ (i + 1) (bg (i + 1))) (i + 1) (tm (i + 1)) cnt (45 + i) ((q_od cnt tm bk (i + 1)).1 k) = q_S tm i ((q_od cnt tm bk (i + 1)).1 k) := by
          intro k hk
          have hl := q_od_lt cnt tm bk (i + 1) k hk
          refine ⟨by omega, ?_, ?_⟩
          · rw [q_tz_o (by omega), q_m2_o (by omega) (by omega) (by omega) (by omega) (by omega)]
            exact hSG.2.2.2.2.2.1 k hk
          · rw [q_tz_o (by omega), q_m2_o (by omega) (by omega) (by omega) (by omega) (by omega), hSG.2.2.2.2.1 _ (by omega)]
            exact q_so_su _ _ _ _ _ k hk
        refine g_aload_n 78 dX3_run_77 rfl rfl ?_
        refine g_iload 80 dX3_run_78 rfl rfl ?_
        refine g_aload_n 81 dX3_run_80 rfl rfl ?_
        refine g_Vv 84 [_, _] _ dX3_run_81 rfl m_X3_runStage l_X3_66 rfl rfl rfl (by decide) (c_stages (M := (q_od cnt tm bk (i + 1)).2) (rin := (q_od cnt tm bk (i + 1)).1) (S := q_S tm (i + 1)) (Sp := q_S tm i) (bk := bk) hi (Nat.le_trans (q_od_le cnt tm bk (i + 1)) hI.1) hr3 (show q_tz (q_m2 μ (i + 1) (bg (i + 1))) (i + 1) (tm (i + 1)) cnt 62 (i + 1) = bg (i + 1) from by rw [q_tz_o (by omega)]; exact q_ups) (fun k hk => if_pos ⟨rfl, q_od_lt cnt tm bk (i + 1) k hk⟩) (fun r => rfl) (fun k hk => by rw [q_tz_o (by omega), q_m2_o (by omega) (by omega) (by omega) (by omega) (by omega), hq.2 6 _ (by decide)]; exact hI.2.2.2.2.2.1 _ (q_od_lt cnt tm bk (i + 1) k hk)) (by rw [q_tz_o (by omega), q_m2_o (by omega) (by omega) (by omega) (by omega) (by omega)]; exact hSG.2.2.2.2.2.2.1) (q_RS_0 hi)) rfl (Nat.le_of_ble_eq_true rfl) (by decide) (fun μ81 ρ81 hc9 => ?_)
        obtain ⟨rfl, μ4, h4, rfl⟩ := hc9
        refine g_aload_n 85 dX3_run_84 rfl rfl ?_
        refine g_iload 87 dX3_run_85 rfl rfl ?_
        refine g_Vv 90 [_] _ dX3_run_87 rfl m_X3_tellPlaces l_X3_70 rfl rfl rfl (by decide) (c_tp (o := (q_od cnt tm bk ((i + 1) + 1)).1) (m := (q_od cnt tm bk ((i + 1) + 1)).2) hi (Nat.le_trans (q_od_le cnt tm bk _) hI.1) (by rw [q_upc (by decide)]; exact h4.2.2.2.2.2) (fun j hj => ⟨by rw [q_upc (by omega)]; exact h4.2.2.2.2.1 j hj, Nat.lt_of_lt_of_le (q_od_lt cnt tm bk _ j hj) hI.1⟩)) rfl (Nat.le_of_ble_eq_true rfl) (by decide) (fun μ87 ρ87 hc9 => ?_)
        obtain ⟨rfl, rfl⟩ := hc9
        refine g_iinc 93 (_ + 1) dX3_run_90 rfl rfl rfl (by decide) ?_
        refine g_goto 3 dX3_run_93 (by decide) ?_
        rw [nI_1]
        refine g_lv [(0, _), (1, _), (2, _), (3, _), (4, _)] rfl ?_
        exact ih ((i + 1) + 1) (by omega) _ (q_RN_s hi hI.1 hq h4)
set_option maxRecDepth 100000 in
set_option maxHeartbeats 4000000 in
theorem c_run {rb cnt : Nat} {K : Nat → Nat} {tm : Nat → Nat → Int32} {bk bg : Nat → Int32} (hI : q_IN μ cnt rb K tm bk bg) : q_Ct C l FX3_run 3 142 142 [.ref (q_a C 11), .ref (q_a C 1), .ref (q_a C 4), .ref (q_a C rb)] μ (q_ρ b) (q_PV fun μ' ρ' => q_ρ b = ρ' ∧ q_RN μ μ' cnt tm bk bg 7) := by
  refine q_entry rfl (by decide) (Nat.le_of_ble_eq_true rfl) ?_
  refine g_lv [(0, _), (1, _), (2, _), (3, _)] rfl ?_
  refine g_iconst 1 0 dX3_run_0 rfl (by decide) ?_
  refine g_istore 3 dX3_run_1 rfl (by decide) ?_
  refine g_lv [(0, _), (1, _), (2, _), (3, _), (4, .int (nI 0))] rfl ?_
  exact lp_run hI 7 0 (by omega) μ ⟨fun i h => absurd h (Nat.not_lt_zero _), fun c j _ => rfl⟩
end RN
