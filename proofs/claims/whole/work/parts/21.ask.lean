/-! ===== what comes of the told things ===== -/
/-- lengths, hours, how many racers, speeds, where they break down, settings, how many zones, from, to, speeds -/
abbrev q_I : Type := (Nat → Int32) × (Nat → Int32) × Nat × (Nat → Int32) × (Nat → Int32) × (Nat → Int32) × (Nat → Nat) × (Nat → Nat → Int32) × (Nat → Nat → Int32) × (Nat → Nat → Int32)
def i_len (I : q_I) : Nat → Int32 := I.1
def i_hr (I : q_I) : Nat → Int32 := I.2.1
def i_cnt (I : q_I) : Nat := I.2.2.1
def i_sp (I : q_I) : Nat → Int32 := I.2.2.2.1
def i_bk (I : q_I) : Nat → Int32 := I.2.2.2.2.1
def i_set (I : q_I) : Nat → Int32 := I.2.2.2.2.2.1
def i_K (I : q_I) : Nat → Nat := I.2.2.2.2.2.2.1
def i_fr (I : q_I) : Nat → Nat → Int32 := I.2.2.2.2.2.2.2.1
def i_to (I : q_I) : Nat → Nat → Int32 := I.2.2.2.2.2.2.2.2.1
def i_zs (I : q_I) : Nat → Nat → Int32 := I.2.2.2.2.2.2.2.2.2
def q_rb (b : Bool) : Nat := bif b then 96 else 70
theorem q_rb_or (b : Bool) : q_rb b = 70 ∨ q_rb b = 96 := by cases b <;> decide
def q_Iof (μ : q_M) (rb : Nat) : q_I := (μ 2, μ 3, (μ 4 3).toNatClampNeg, μ 5, μ 6, μ 69, fun i => (μ (rb + 1) i).toNatClampNeg, fun i => μ (rb + 3 + i), fun i => μ (rb + 11 + i), fun i => μ (rb + 19 + i))
def i_tm (I : q_I) (i r : Nat) : Int32 := q_time (i_sp I r) (i_len I i) (i_fr I i) (i_to I i) (i_zs I i) (i_K I i)
def i_bg (I : q_I) (i : Nat) : Int32 := nI i * 1440 + i_hr I i * 60
def i_od (I : q_I) (i : Nat) : (Nat → Nat) × Nat := q_od (i_cnt I) (i_tm I) (i_bk I) i
def i_cm (I : q_I) (i : Nat) : Nat := (i_od I (i + 1)).2
def i_o (I : q_I) (i : Nat) : Nat → Nat := (i_od I (i + 1)).1
def i_st (I : q_I) (i : Nat) : Nat → Int32 := q_st (i_bg I i) (i_od I i).1 (i_od I i).2
def i_ar (I : q_I) (i : Nat) : Nat → Int32 := q_ar (i_bg I i) (i_tm I i) (i_bk I) i (i_od I i).1 (i_od I i).2
def q_np (cm : Nat → Nat) : Nat → Nat → Nat
  | 0, i => i
  | f + 1, i => if cm i = 0 then i else q_np cm f (i + 1)
theorem q_np_s (cm : Nat → Nat) : ∀ f i, i ≤ q_np cm f i ∧ q_np cm f i ≤ i + f ∧ (∀ x, i ≤ x → x < q_np cm f i → 0 < cm x) ∧ (q_np cm f i < i + f → cm (q_np cm f i) = 0)
  | 0, i => ⟨Nat.le_refl _, Nat.le_refl _, fun x h1 h2 => absurd h2 (by unfold q_np; omega), fun h => absurd h (by unfold q_np; omega)⟩
  | f + 1, i => by
    unfold q_np
    by_cases e : cm i = 0
    · rw [if_pos e]
      exact ⟨Nat.le_refl _, by omega, fun x h1 h2 => by omega, fun _ => e⟩
    · rw [if_neg e]
      obtain ⟨h1, h2, h3, h4⟩ := q_np_s cm f (i + 1)
      refine ⟨by omega, by omega, fun x g1 g2 => ?_, fun g => h4 (by omega)⟩
      by_cases q : x = i
      · rw [q]; omega
      · exact h3 x (by omega) g2
def i_N (I : q_I) : Nat := q_np (i_cm I) 7 0
def i_op (I : q_I) (x : Nat) : Int32 := q_fa (i_ar I (x - 1)) (i_o I (x - 1)) (i_cm I (x - 1)) - i_set I 0
def i_cl (I : q_I) (x : Nat) : Int32 := q_lb (i_ar I (x - 1)) (i_o I (x - 1)) (i_cm I (x - 1)) + i_set I 1
def i_km (I : q_I) (x : Nat) : Int32 := q_sum (i_len I) x
def i_can (I : q_I) : Nat → Nat → Bool := q_cn (i_op I) (i_cl I) (i_km I) (i_set I 2)
def i_se (I : q_I) (most : Nat) : Option (Nat → Nat) := q_se (i_can I) most (i_N I) 1 0 (fun _ => 0)
def q_nm (T : Nat → Option (Nat → Nat)) : Nat → Nat → Nat
  | 0, m => m
  | f + 1, m => match T m with
    | some _ => m
    | none => q_nm T f (m + 1)
theorem q_nm_s (T : Nat → Option (Nat → Nat)) : ∀ f m, (T (m + f)).isSome = true → m ≤ q_nm T f m ∧ q_nm T f m ≤ m + f ∧ (T (q_nm T f m)).isSome = true ∧ ∀ x, m ≤ x → x < q_nm T f m → T x = none
  | 0, m, h => ⟨Nat.le_refl _, Nat.le_refl _, h, fun x h1 h2 => absurd h2 (by unfold q_nm; omega)⟩
  | f + 1, m, h => by
    unfold q_nm
    cases e : T m with
    | some g =>
      dsimp only
      exact ⟨Nat.le_refl _, by omega, by rw [e]; rfl, fun x h1 h2 => by omega⟩
    | none =>
      obtain ⟨h1, h2, h3, h4⟩ := q_nm_s T f (m + 1) (by rw [show m + 1 + f = m + (f + 1) by omega]; exact h)
      dsimp only
      refine ⟨by omega, by omega, h3, fun x g1 g2 => ?_⟩
      by_cases q : x = m
      · rw [q]; exact e
      · exact h4 x (by omega) g2
def i_n0 (I : q_I) : Nat := q_nm (i_se I) (i_N I) 0
def i_g (I : q_I) : Nat → Nat := (i_se I (i_n0 I)).getD (fun _ => 0)
theorem q_ft_some {T : Nat → Option (Nat → Nat)} : ∀ n s t, s ≤ t → t < s + n → (T t).isSome = true → (q_ft T n s).isSome = true
  | 0, s, t, h1, h2, _ => absurd h2 (by omega)
  | n + 1, s, t, h1, h2, h => by
    unfold q_ft
    cases e : T s with
    | some g => rfl
    | none =>
      have hts : t ≠ s := fun q => by rw [q, e] at h; cases h
      exact q_ft_some n (s + 1) t (by omega) (by omega) h
theorem q_se_full {can : Nat → Nat → Bool} {most : Nat} : ∀ f c used la, used + f ≤ most → (q_se can most f c used la).isSome = true
  | 0, _, _, _, _ => rfl
  | f + 1, c, used, la, h => by
    unfold q_se
    refine q_ft_some _ _ used (Nat.zero_le _) (by omega) ?_
    rw [if_pos (Or.inl rfl), if_pos rfl, Option.isSome_map]
    exact q_se_full f (c + 1) (used + 1) _ (by omega)
theorem i_n0_s (I : q_I) : i_n0 I ≤ i_N I ∧ i_se I (i_n0 I) = some (i_g I) ∧ ∀ m, m < i_n0 I → i_se I m = none := by
  obtain ⟨h1, h2, h3, h4⟩ := q_nm_s (i_se I) (i_N I) 0 (by rw [Nat.zero_add]; exact q_se_full _ _ _ _ (by omega))
  refine ⟨by rw [Nat.zero_add] at h2; exact h2, ?_, fun m hm => h4 m (Nat.zero_le _) hm⟩
  unfold i_g
  change (i_se I (i_n0 I)).isSome = true at h3
  cases e : i_se I (i_n0 I) with
  | some g => rfl
  | none => rw [e] at h3; cases h3
theorem i_N_le (I : q_I) : i_N I ≤ 7 := by have := (q_np_s (i_cm I) 7 0).2.1; unfold i_N; omega
theorem i_cm_dec (I : q_I) (i : Nat) : i_cm I (i + 1) ≤ i_cm I i := q_od_dec _ _ _ _
theorem i_cm_mono (I : q_I) (i : Nat) : ∀ k, i_cm I (i + k) ≤ i_cm I i
  | 0 => Nat.le_refl _
  | k + 1 => Nat.le_trans (i_cm_dec I (i + k)) (i_cm_mono I i k)
theorem i_N_iff (I : q_I) {i : Nat} (hi : i < 7) : i < i_N I ↔ 0 < i_cm I i := by
  obtain ⟨h1, h2, h3, h4⟩ := q_np_s (i_cm I) 7 0
  refine ⟨fun h => h3 i (Nat.zero_le _) h, fun h => ?_⟩
  rcases Nat.lt_or_ge i (i_N I) with q | q
  · exact q
  · have h0 : i_cm I (i_N I) = 0 := h4 (by unfold i_N at q; omega)
    have := i_cm_mono I (i_N I) (i - i_N I)
    rw [show i_N I + (i - i_N I) = i by omega] at this
    omega
theorem q_fa_congr {f f' : Nat → Int32} {o : Nat → Nat} : ∀ m, (∀ k, k < m → f (o k) = f' (o k)) → q_fa f o m = q_fa f' o m
  | 0, _ => rfl
  | m + 1, h => by unfold q_fa; rw [q_fa_congr m (fun k hk => h k (by omega)), h m (by omega)]
theorem q_lb_congr {f f' : Nat → Int32} {o : Nat → Nat} : ∀ m, (∀ k, k < m → f (o k) = f' (o k)) → q_lb f o m = q_lb f' o m
  | 0, _ => rfl
  | m + 1, h => by unfold q_lb; rw [q_lb_congr m (fun k hk => h k (by omega)), h m (by omega)]
/-- the class has worked it out -/
def q_OK (μ : q_M) (I : q_I) : Prop := (∀ i, i < 7 → q_SG μ (i_cnt I) (i_tm I) (i_bk I) (i_bg I) i) ∧ μ 63 3 = nI (i_n0 I) ∧ μ 63 6 = nI (i_N I) ∧ ∀ x, 1 ≤ x → x ≤ i_N I → μ 64 x = i_op I x ∧ μ 65 x = i_cl I x ∧ μ 66 x = nI (i_g I x)
/-- the told things are in their bounds, as far as working out needs it -/
def q_IV (μ : q_M) (b : Bool) (I : q_I) : Prop := q_Iof μ (q_rb b) = I ∧ i_cnt I ≤ 10 ∧ μ 4 3 = nI (i_cnt I) ∧ ∀ i, i < 7 → i_K I i ≤ 4 ∧ μ (q_rb b + 1) i = nI (i_K I i)
theorem q_IV_IN {μ : q_M} {b : Bool} {I : q_I} (h : q_IV μ b I) : q_IN μ (i_cnt I) (q_rb b) (i_K I) (i_tm I) (i_bk I) (i_bg I) := by
  obtain ⟨h1, h2, h3, h4⟩ := h
  subst h1
  exact ⟨h2, q_rb_or b, h3, h4, fun i r _ _ => rfl, fun r _ => rfl, fun i _ => rfl⟩
theorem q_OK_PI0 {μ μ1 : q_M} {b : Bool} {I : q_I} (h : q_IV μ b I) (hr : q_RN μ μ1 (i_cnt I) (i_tm I) (i_bk I) (i_bg I) 7) : q_PI0 μ1 (i_N I) (i_cm I) (i_o I) (i_op I) (i_cl I) (i_km I) := by
  obtain ⟨h1, h2, h3, h4⟩ := h
  have hle : ∀ i, (i_od I i).2 ≤ 10 := fun i => Nat.le_trans (q_od_le _ _ _ i) h2
  have hlt : ∀ i j, j < i_cm I i → i_o I i j < 10 := fun i j hj => Nat.lt_of_lt_of_le (q_od_lt _ _ _ (i + 1) j hj) h2
  have hN := q_np_s (i_cm I) 7 0
  have e69 : ∀ j, μ1 69 j = i_set I j := fun j => by rw [hr.2 69 j (by decide), ← h1]; rfl
  have e2 : μ1 2 = i_len I := by funext j; rw [hr.2 2 j (by decide), ← h1]; rfl
  refine ⟨i_N_le I, fun i hi => hN.2.2.1 i (Nat.zero_le _) hi, fun h => hN.2.2.2 (by unfold i_N at h; omega), fun i hi => ⟨hle (i + 1), (hr.1 i hi).2.2.2.2.2.2.1, fun j hj => ⟨(hr.1 i hi).2.2.2.2.2.1 j hj, hlt i j hj⟩⟩, fun i hi => ?_⟩
  have hi7 : i < 7 := by have := i_N_le I; omega
  have ea : ∀ k, k < i_cm I i → i_ar I i (i_o I i k) = μ1 (29 + i) (i_o I i k) := fun k hk => ((hr.1 i hi7).2.2.1 _ (hlt i k hk)).symm
  refine ⟨?_, ?_, ?_⟩
  · unfold i_op
    rw [show i + 1 - 1 = i by omega, q_fa_congr _ ea, e69]
  · unfold i_cl
    rw [show i + 1 - 1 = i by omega, q_lb_congr _ ea, e69]
  · unfold i_km
    rw [e2]
section AK
variable {C : q_C} {l : Launch} {μ : q_M} {b : Bool}
set_option maxRecDepth 100000 in
set_option maxHeartbeats 8000000 in
theorem c_settle {I : q_I} (hV : q_IV μ b I) (hst : μ 0 9 = 1 ∨ (μ 0 9 = 0 ∧ q_OK μ I)) : q_Ct C l FX7_settle 14 142 142 [.ref (q_a C 0)] μ (q_ρ b) (q_PV fun μ' ρ' => q_ρ b = ρ' ∧ q_OK μ' I ∧ μ' 0 9 = 0 ∧ (∀ c j, (c < 13 ∨ 68 < c) → ¬ (c = 0 ∧ j = 9) → μ' c j = μ c j)) := by
  refine q_entry rfl (by decide) (Nat.le_of_ble_eq_true rfl) ?_
  refine g_lv [(0, _)] rfl ?_
  refine g_aload_n 1 dX7_settle_0 rfl rfl ?_
  refine g_getI 4 dX7_settle_1 rfl f_X7_65 (by decide) rfl rfl ?_
  refine g_if_ne 8 7 dX7_settle_4 rfl (by decide) (fun h4 => ?_) (fun h4 => ?_)
  · refine g_aload_n 9 dX7_settle_8 rfl rfl ?_
    refine g_getR 12 _ dX7_settle_9 rfl f_X7_40 (by decide) rfl rfl rfl ?_
    refine g_aload_n 13 dX7_settle_12 rfl rfl ?_
    refine g_getR 16 _ dX7_settle_13 rfl f_X7_12 (by decide) rfl rfl rfl ?_
    refine g_aload_n 17 dX7_settle_16 rfl rfl ?_
    refine g_getR 20 _ dX7_settle_17 rfl f_X7_19 (by decide) rfl rfl rfl ?_
    refine g_aload_n 21 dX7_settle_20 rfl rfl ?_
    refine g_getR 24 (q_rb b) dX7_settle_21 rfl f_X7_58 (by decide) rfl rfl rfl ?_
    refine g_Vv 27 [_, _, _] _ dX7_settle_24 rfl m_X3_run l_X7_206 rfl rfl rfl (by decide) (c_run (rb := q_rb b) (q_IV_IN hV)) rfl (Nat.le_of_ble_eq_true rfl) (by decide) (fun μ24 ρ24 hc9 => ?_)
    obtain ⟨rfl, hr⟩ := hc9
    have hP0 := q_OK_PI0 hV hr
    have hn0 := i_n0_s I
    have e69 : μ24 69 2 = i_set I 2 := by rw [hr.2 69 2 (by decide), ← hV.1]; rfl
    refine g_aload_n 28 dX7_settle_27 rfl rfl ?_
    refine g_getR 31 _ dX7_settle_28 rfl f_X7_47 (by decide) rfl rfl rfl ?_
    refine g_aload_n 32 dX7_settle_31 rfl rfl ?_
    refine g_getR 35 _ dX7_settle_32 rfl f_X7_12 (by decide) rfl rfl rfl ?_
    refine g_aload_n 36 dX7_settle_35 rfl rfl ?_
    refine g_getR 39 _ dX7_settle_36 rfl f_X7_40 (by decide) rfl rfl rfl ?_
    refine g_aload_n 40 dX7_settle_39 rfl rfl ?_
    refine g_getR 43 _ dX7_settle_40 rfl f_X7_51 (by decide) rfl rfl rfl ?_
    refine g_Vv 46 [_, _, _] _ dX7_settle_43 rfl m_X2_plan l_X7_210 rfl rfl rfl (by decide) (c_plan hP0 hn0.1 (by rw [e69]; exact hn0.2.1) (fun m hm => by rw [e69]; exact hn0.2.2 m hm)) rfl (Nat.le_of_ble_eq_true rfl) (by decide) (fun μ43 ρ43 hc9 => ?_)
    obtain ⟨rfl, hf, p1, p2, p3⟩ := hc9
    refine g_aload_n 47 dX7_settle_46 rfl rfl ?_
    refine g_iconst 48 0 dX7_settle_47 rfl (by decide) ?_
    refine g_putZ 51 dX7_settle_48 rfl f_X7_65 (by decide) rfl rfl (by decide) ?_
    exact g_rv dX7_settle_51 rfl rfl (by
      refine ⟨rfl, ⟨fun i hi => ?_, ?_, ?_, fun x h1 h2 => ?_⟩, q_ups, fun c j hc hn => ?_⟩
      · obtain ⟨a1, a2, a3, a4, a5, a6, a7, a8, a9⟩ := hr.1 i hi
        have e : ∀ c j, c < 63 → c ≠ 0 → q_up μ43 0 9 0 c j = μ24 c j := fun c j g1 g2 => by rw [q_upc g2]; exact hf c j (by omega)
        refine ⟨fun r hr => ?_, fun r hr => ?_, fun r hr => ?_, fun r hr => ?_, fun r hr => ?_, fun j hj => ?_, ?_, ?_, ?_⟩
        · rw [e _ _ (by omega) (by omega)]; exact a1 r hr
        · rw [e _ _ (by omega) (by omega)]; exact a2 r hr
        · rw [e _ _ (by omega) (by omega)]; exact a3 r hr
        · rw [e _ _ (by omega) (by omega)]; exact a4 r hr
        · rw [e _ _ (by omega) (by omega)]; exact a5 r hr
        · rw [e _ _ (by omega) (by omega)]; exact a6 j hj
        · rw [e _ _ (by omega) (by omega)]; exact a7
        · rw [e _ _ (by omega) (by omega)]; exact a8
        · rw [e _ _ (by omega) (by omega)]; exact a9
      · rw [q_upc (by decide)]; exact p1
      · rw [q_upc (by decide)]; exact p2
      · rw [q_upc (by decide), q_upc (by decide), q_upc (by decide)]; exact p3 x h1 h2
      · rw [q_upo hn, hf c j (by omega)]; exact hr.2 c j (by omega))
  · exact g_rv dX7_settle_7 rfl rfl ⟨rfl, by rcases hst with h | h; exact absurd (h.symm.trans h4) (by decide); exact h.2, h4, fun _ _ _ _ => rfl⟩
set_option maxRecDepth 100000 in
set_option maxHeartbeats 4000000 in
theorem c_ask_time {I : q_I} (hV : q_IV μ b I) (hst : μ 0 9 = 1 ∨ (μ 0 9 = 0 ∧ q_OK μ I)) {r i : Nat} (hr : r < i_cnt I) (hi : i < 7) : q_Ct C l FX7_time 15 142 142 [.ref (q_a C 0), .int (nI r), .int (nI i)] μ (q_ρ b) (q_PI fun v μ' ρ' => (i_tm I i r) = v ∧ q_ρ b = ρ' ∧ q_OK μ' I ∧ μ' 0 9 = 0 ∧ (∀ c j, (c < 13 ∨ 68 < c) → ¬ (c = 0 ∧ j = 9) → μ' c j = μ c j)) := by
  refine q_entry rfl (by decide) (Nat.le_of_ble_eq_true rfl) ?_
  refine g_lv [(0, _), (1, _), (2, _)] rfl ?_
  refine g_aload_n 1 dX7_time_0 rfl rfl ?_
  refine g_getR 4 _ dX7_time_1 rfl f_X7_19 (by decide) rfl rfl rfl ?_
  refine g_iload_n 5 dX7_time_4 rfl rfl ?_
  refine g_Vi 8 [_] _ dX7_time_5 rfl m_X4_has l_X7_94 rfl rfl rfl (by decide) (c_has _) rfl (Nat.le_of_ble_eq_true rfl) (by decide) (fun v5 μ5 ρ5 hc9 => ?_)
  obtain ⟨rfl, rfl, rfl⟩ := hc9
  refine g_if_eq 18 11 dX7_time_8 rfl (by decide) (fun h8 => ?_) (fun h8 => ?_)
  · exact (q_b_0.mp h8 (by rw [hV.2.2.1]; exact q_rin hr hV.2.1)).elim
  · refine g_iload_n 12 dX7_time_11 rfl rfl ?_
    refine g_Si 15 [_] _ dX7_time_12 rfl m_X7_isStage l_X7_84 rfl (c_isStage _) rfl (Nat.le_of_ble_eq_true rfl) (by decide) (fun v12 μ12 ρ12 hc9 => ?_)
    obtain ⟨rfl, rfl, rfl⟩ := hc9
    refine g_if_ne 20 18 dX7_time_15 rfl (by decide) (fun h15 => ?_) (fun h15 => ?_)
    · refine g_aload_n 21 dX7_time_20 rfl rfl ?_
      refine g_Vv 24 [] _ dX7_time_21 rfl m_X7_settle l_X7_136 rfl rfl rfl (by decide) (c_settle hV hst) rfl (Nat.le_of_ble_eq_true rfl) (by decide) (fun μ21 ρ21 hc9 => ?_)
      obtain ⟨rfl, hok, hz, hfr⟩ := hc9
      refine g_aload_n 25 dX7_time_24 rfl rfl ?_
      refine g_getR 28 _ dX7_time_25 rfl f_X7_40 (by decide) rfl rfl rfl ?_
      refine g_getR 31 _ dX7_time_28 rfl f_X7_139 (by decide) rfl rfl rfl ?_
      refine g_iload_n 32 dX7_time_31 rfl rfl ?_
      refine g_aald 33 _ dX7_time_32 rfl (by decide) rfl (vp_in_nI hi (by omega)) rfl ?_
      rw [nI_clamp (show i < 2 ^ 31 by omega)]
      refine g_iload_n 34 dX7_time_33 rfl rfl ?_
      refine g_iald 35 dX7_time_34 rfl (by omega) (k_13 i hi) (vp_in_nI (show r < 10 by have := hV.2.1; omega) (by omega)) ?_
      rw [nI_clamp (show r < 2 ^ 31 by have := hV.2.1; omega)]
      exact g_ri dX7_time_35 rfl rfl ⟨((hok.1 i hi).1 r hr).symm, rfl, hok, hz, hfr⟩
    · exact (q_b_0.mp h15 (q_stageI hi)).elim
set_option maxRecDepth 100000 in
set_option maxHeartbeats 4000000 in
theorem c_ask_time_n {r i : Int32} (h : ¬ (q_in r 0 (μ 4 3 - 1) ∧ q_in i 0 6)) : q_Ct C l FX7_time 15 142 142 [.ref (q_a C 0), .int r, .int i] μ (q_ρ b) (q_is (-1) μ (q_ρ b)) := by
  refine q_entry rfl (by decide) (Nat.le_of_ble_eq_true rfl) ?_
  refine g_lv [(0, _), (1, _), (2, _)] rfl ?_
  refine g_aload_n 1 dX7_time_0 rfl rfl ?_
  refine g_getR 4 _ dX7_time_1 rfl f_X7_19 (by decide) rfl rfl rfl ?_
  refine g_iload_n 5 dX7_time_4 rfl rfl ?_
  refine g_Vi 8 [_] _ dX7_time_5 rfl m_X4_has l_X7_94 rfl rfl rfl (by decide) (c_has _) rfl (Nat.le_of_ble_eq_true rfl) (by decide) (fun v5 μ5 ρ5 hc9 => ?_)
  obtain ⟨rfl, rfl, rfl⟩ := hc9
  refine g_if_eq 18 11 dX7_time_8 rfl (by decide) (fun h8 => ?_) (fun h8 => ?_)
  · refine g_iconst 19 (-1) dX7_time_18 rfl (by decide) ?_
    exact g_ri dX7_time_19 rfl rfl ⟨rfl, rfl, rfl⟩
  · refine g_iload_n 12 dX7_time_11 rfl rfl ?_
    refine g_Si 15 [_] _ dX7_time_12 rfl m_X7_isStage l_X7_84 rfl (c_isStage _) rfl (Nat.le_of_ble_eq_true rfl) (by decide) (fun v12 μ12 ρ12 hc9 => ?_)
    obtain ⟨rfl, rfl, rfl⟩ := hc9
    refine g_if_ne 20 18 dX7_time_15 rfl (by decide) (fun h15 => ?_) (fun h15 => ?_)
    · exact (h ⟨q_b_n.mp h8, q_b_n.mp h15⟩).elim
    · refine g_iconst 19 (-1) dX7_time_18 rfl (by decide) ?_
      exact g_ri dX7_time_19 rfl rfl ⟨rfl, rfl, rfl⟩
set_option maxRecDepth 100000 in
set_option maxHeartbeats 4000000 in
theorem c_ran_0 {I : q_I} (hV : q_IV μ b I) (hst : μ 0 9 = 1 ∨ (μ 0 9 = 0 ∧ q_OK μ I)) {r i : Nat} (hr : r < i_cnt I) (hi : i < 7) : q_Ct C l FX7_ran 15 142 142 [.ref (q_a C 0), .int (nI r), .int (nI i), .int 0] μ (q_ρ b) (q_PI fun v μ' ρ' => (i_st I i r) = v ∧ q_ρ b = ρ' ∧ q_OK μ' I ∧ μ' 0 9 = 0 ∧ (∀ c j, (c < 13 ∨ 68 < c) → ¬ (c = 0 ∧ j = 9) → μ' c j = μ c j)) := by
  refine q_entry rfl (by decide) (Nat.le_of_ble_eq_true rfl) ?_
  refine g_lv [(0, _), (1, _), (2, _), (3, _)] rfl ?_
  refine g_aload_n 1 dX7_ran_0 rfl rfl ?_
  refine g_getR 4 _ dX7_ran_1 rfl f_X7_19 (by decide) rfl rfl rfl ?_
  refine g_iload_n 5 dX7_ran_4 rfl rfl ?_
  refine g_Vi 8 [_] _ dX7_ran_5 rfl m_X4_has l_X7_94 rfl rfl rfl (by decide) (c_has _) rfl (Nat.le_of_ble_eq_true rfl) (by decide) (fun v5 μ5 ρ5 hc9 => ?_)
  obtain ⟨rfl, rfl, rfl⟩ := hc9
  refine g_if_eq 18 11 dX7_ran_8 rfl (by decide) (fun h8 => ?_) (fun h8 => ?_)
  · exact (q_b_0.mp h8 (by rw [hV.2.2.1]; exact q_rin hr hV.2.1)).elim
  · refine g_iload_n 12 dX7_ran_11 rfl rfl ?_
    refine g_Si 15 [_] _ dX7_ran_12 rfl m_X7_isStage l_X7_84 rfl (c_isStage _) rfl (Nat.le_of_ble_eq_true rfl) (by decide) (fun v12 μ12 ρ12 hc9 => ?_)
    obtain ⟨rfl, rfl, rfl⟩ := hc9
    refine g_if_ne 20 18 dX7_ran_15 rfl (by decide) (fun h15 => ?_) (fun h15 => ?_)
    · refine g_aload_n 21 dX7_ran_20 rfl rfl ?_
      refine g_Vv 24 [] _ dX7_ran_21 rfl m_X7_settle l_X7_136 rfl rfl rfl (by decide) (c_settle hV hst) rfl (Nat.le_of_ble_eq_true rfl) (by decide) (fun μ21 ρ21 hc9 => ?_)
      obtain ⟨rfl, hok, hz, hfr⟩ := hc9
      refine g_iload_n 25 dX7_ran_24 rfl rfl ?_
      refine g_tabIn 56 dX7_ran_25 (by decide) (by decide) rfl (by decide) ?_
      refine g_aload_n 57 dX7_ran_56 rfl rfl ?_
      refine g_getR 60 _ dX7_ran_57 rfl f_X7_40 (by decide) rfl rfl rfl ?_
      refine g_getR 63 _ dX7_ran_60 rfl f_X7_143 (by decide) rfl rfl rfl ?_
      refine g_iload_n 64 dX7_ran_63 rfl rfl ?_
      refine g_aald 65 _ dX7_ran_64 rfl (by decide) rfl (vp_in_nI hi (by omega)) rfl ?_
      rw [nI_clamp (show i < 2 ^ 31 by omega)]
      refine g_iload_n 66 dX7_ran_65 rfl rfl ?_
      refine g_iald 67 dX7_ran_66 rfl (by omega) (k_21 i hi) (vp_in_nI (show r < 10 by have := hV.2.1; omega) (by omega)) ?_
      rw [nI_clamp (show r < 2 ^ 31 by have := hV.2.1; omega)]
      exact g_ri dX7_ran_67 rfl rfl ⟨((hok.1 i hi).2.1 r (show r < 10 by have := hV.2.1; omega)).symm, rfl, hok, hz, hfr⟩
    · exact (q_b_0.mp h15 (q_stageI hi)).elim
set_option maxRecDepth 100000 in
set_option maxHeartbeats 4000000 in
theorem c_ran_1 {I : q_I} (hV : q_IV μ b I) (hst : μ 0 9 = 1 ∨ (μ 0 9 = 0 ∧ q_OK μ I)) {r i : Nat} (hr : r < i_cnt I) (hi : i < 7) : q_Ct C l FX7_ran 15 142 142 [.ref (q_a C 0), .int (nI r), .int (nI i), .int 1] μ (q_ρ b) (q_PI fun v μ' ρ' => (i_ar I i r) = v ∧ q_ρ b = ρ' ∧ q_OK μ' I ∧ μ' 0 9 = 0 ∧ (∀ c j, (c < 13 ∨ 68 < c) → ¬ (c = 0 ∧ j = 9) → μ' c j = μ c j)) := by
  refine q_entry rfl (by decide) (Nat.le_of_ble_eq_true rfl) ?_
  refine g_lv [(0, _), (1, _), (2, _), (3, _)] rfl ?_
  refine g_aload_n 1 dX7_ran_0 rfl rfl ?_
  refine g_getR 4 _ dX7_ran_1 rfl f_X7_19 (by decide) rfl rfl rfl ?_
  refine g_iload_n 5 dX7_ran_4 rfl rfl ?_
  refine g_Vi 8 [_] _ dX7_ran_5 rfl m_X4_has l_X7_94 rfl rfl rfl (by decide) (c_has _) rfl (Nat.le_of_ble_eq_true rfl) (by decide) (fun v5 μ5 ρ5 hc9 => ?_)
  obtain ⟨rfl, rfl, rfl⟩ := hc9
  refine g_if_eq 18 11 dX7_ran_8 rfl (by decide) (fun h8 => ?_) (fun h8 => ?_)
  · exact (q_b_0.mp h8 (by rw [hV.2.2.1]; exact q_rin hr hV.2.1)).elim
  · refine g_iload_n 12 dX7_ran_11 rfl rfl ?_
    refine g_Si 15 [_] _ dX7_ran_12 rfl m_X7_isStage l_X7_84 rfl (c_isStage _) rfl (Nat.le_of_ble_eq_true rfl) (by decide) (fun v12 μ12 ρ12 hc9 => ?_)
    obtain ⟨rfl, rfl, rfl⟩ := hc9
    refine g_if_ne 20 18 dX7_ran_15 rfl (by decide) (fun h15 => ?_) (fun h15 => ?_)
    · refine g_aload_n 21 dX7_ran_20 rfl rfl ?_
      refine g_Vv 24 [] _ dX7_ran_21 rfl m_X7_settle l_X7_136 rfl rfl rfl (by decide) (c_settle hV hst) rfl (Nat.le_of_ble_eq_true rfl) (by decide) (fun μ21 ρ21 hc9 => ?_)
      obtain ⟨rfl, hok, hz, hfr⟩ := hc9
      refine g_iload_n 25 dX7_ran_24 rfl rfl ?_
      refine g_tabIn 68 dX7_ran_25 (by decide) (by decide) rfl (by decide) ?_
      refine g_aload_n 69 dX7_ran_68 rfl rfl ?_
      refine g_getR 72 _ dX7_ran_69 rfl f_X7_40 (by decide) rfl rfl rfl ?_
      refine g_getR 75 _ dX7_ran_72 rfl f_X7_146 (by decide) rfl rfl rfl ?_
      refine g_iload_n 76 dX7_ran_75 rfl rfl ?_
      refine g_aald 77 _ dX7_ran_76 rfl (by decide) rfl (vp_in_nI hi (by omega)) rfl ?_
      rw [nI_clamp (show i < 2 ^ 31 by omega)]
      refine g_iload_n 78 dX7_ran_77 rfl rfl ?_
      refine g_iald 79 dX7_ran_78 rfl (by omega) (k_29 i hi) (vp_in_nI (show r < 10 by have := hV.2.1; omega) (by omega)) ?_
      rw [nI_clamp (show r < 2 ^ 31 by have := hV.2.1; omega)]
      exact g_ri dX7_ran_79 rfl rfl ⟨((hok.1 i hi).2.2.1 r (show r < 10 by have := hV.2.1; omega)).symm, rfl, hok, hz, hfr⟩
    · exact (q_b_0.mp h15 (q_stageI hi)).elim
set_option maxRecDepth 100000 in
set_option maxHeartbeats 4000000 in
theorem c_ran_2 {I : q_I} (hV : q_IV μ b I) (hst : μ 0 9 = 1 ∨ (μ 0 9 = 0 ∧ q_OK μ I)) {r i : Nat} (hr : r < i_cnt I) (hi : i < 7) : q_Ct C l FX7_ran 15 142 142 [.ref (q_a C 0), .int (nI r), .int (nI i), .int 2] μ (q_ρ b) (q_PI fun v μ' ρ' => (q_pl (fun _ => -1) (i_o I i) (i_cm I i) r) = v ∧ q_ρ b = ρ' ∧ q_OK μ' I ∧ μ' 0 9 = 0 ∧ (∀ c j, (c < 13 ∨ 68 < c) → ¬ (c = 0 ∧ j = 9) → μ' c j = μ c j)) := by
  refine q_entry rfl (by decide) (Nat.le_of_ble_eq_true rfl) ?_
  refine g_lv [(0, _), (1, _), (2, _), (3, _)] rfl ?_
  refine g_aload_n 1 dX7_ran_0 rfl rfl ?_
  refine g_getR 4 _ dX7_ran_1 rfl f_X7_19 (by decide) rfl rfl rfl ?_
  refine g_iload_n 5 dX7_ran_4 rfl rfl ?_
  refine g_Vi 8 [_] _ dX7_ran_5 rfl m_X4_has l_X7_94 rfl rfl rfl (by decide) (c_has _) rfl (Nat.le_of_ble_eq_true rfl) (by decide) (fun v5 μ5 ρ5 hc9 => ?_)
  obtain ⟨rfl, rfl, rfl⟩ := hc9
  refine g_if_eq 18 11 dX7_ran_8 rfl (by decide) (fun h8 => ?_) (fun h8 => ?_)
  · exact (q_b_0.mp h8 (by rw [hV.2.2.1]; exact q_rin hr hV.2.1)).elim
  · refine g_iload_n 12 dX7_ran_11 rfl rfl ?_
    refine g_Si 15 [_] _ dX7_ran_12 rfl m_X7_isStage l_X7_84 rfl (c_isStage _) rfl (Nat.le_of_ble_eq_true rfl) (by decide) (fun v12 μ12 ρ12 hc9 => ?_)
    obtain ⟨rfl, rfl, rfl⟩ := hc9
    refine g_if_ne 20 18 dX7_ran_15 rfl (by decide) (fun h15 => ?_) (fun h15 => ?_)
    · refine g_aload_n 21 dX7_ran_20 rfl rfl ?_
      refine g_Vv 24 [] _ dX7_ran_21 rfl m_X7_settle l_X7_136 rfl rfl rfl (by decide) (c_settle hV hst) rfl (Nat.le_of_ble_eq_true rfl) (by decide) (fun μ21 ρ21 hc9 => ?_)
      obtain ⟨rfl, hok, hz, hfr⟩ := hc9
      refine g_iload_n 25 dX7_ran_24 rfl rfl ?_
      refine g_tabIn 80 dX7_ran_25 (by decide) (by decide) rfl (by decide) ?_
      refine g_aload_n 81 dX7_ran_80 rfl rfl ?_
      refine g_getR 84 _ dX7_ran_81 rfl f_X7_40 (by decide) rfl rfl rfl ?_
      refine g_getR 87 _ dX7_ran_84 rfl f_X7_149 (by decide) rfl rfl rfl ?_
      refine g_iload_n 88 dX7_ran_87 rfl rfl ?_
      refine g_aald 89 _ dX7_ran_88 rfl (by decide) rfl (vp_in_nI hi (by omega)) rfl ?_
      rw [nI_clamp (show i < 2 ^ 31 by omega)]
      refine g_iload_n 90 dX7_ran_89 rfl rfl ?_
      refine g_iald 91 dX7_ran_90 rfl (by omega) (k_37 i hi) (vp_in_nI (show r < 10 by have := hV.2.1; omega) (by omega)) ?_
      rw [nI_clamp (show r < 2 ^ 31 by have := hV.2.1; omega)]
      exact g_ri dX7_ran_91 rfl rfl ⟨((hok.1 i hi).2.2.2.1 r (show r < 10 by have := hV.2.1; omega)).symm, rfl, hok, hz, hfr⟩
    · exact (q_b_0.mp h15 (q_stageI hi)).elim
set_option maxRecDepth 100000 in
set_option maxHeartbeats 4000000 in
theorem c_ran_3 {I : q_I} (hV : q_IV μ b I) (hst : μ 0 9 = 1 ∨ (μ 0 9 = 0 ∧ q_OK μ I)) {r i : Nat} (hr : r < i_cnt I) (hi : i < 7) : q_Ct C l FX7_ran 15 142 142 [.ref (q_a C 0), .int (nI r), .int (nI i), .int 3] μ (q_ρ b) (q_PI fun v μ' ρ' => (q_su (q_S (i_tm I) i) (i_bk I) i (i_od I i).1 (i_od I i).2 r) = v ∧ q_ρ b = ρ' ∧ q_OK μ' I ∧ μ' 0 9 = 0 ∧ (∀ c j, (c < 13 ∨ 68 < c) → ¬ (c = 0 ∧ j = 9) → μ' c j = μ c j)) := by
  refine q_entry rfl (by decide) (Nat.le_of_ble_eq_true rfl) ?_
  refine g_lv [(0, _), (1, _), (2, _), (3, _)] rfl ?_
  refine g_aload_n 1 dX7_ran_0 rfl rfl ?_
  refine g_getR 4 _ dX7_ran_1 rfl f_X7_19 (by decide) rfl rfl rfl ?_
  refine g_iload_n 5 dX7_ran_4 rfl rfl ?_
  refine g_Vi 8 [_] _ dX7_ran_5 rfl m_X4_has l_X7_94 rfl rfl rfl (by decide) (c_has _) rfl (Nat.le_of_ble_eq_true rfl) (by decide) (fun v5 μ5 ρ5 hc9 => ?_)
  obtain ⟨rfl, rfl, rfl⟩ := hc9
  refine g_if_eq 18 11 dX7_ran_8 rfl (by decide) (fun h8 => ?_) (fun h8 => ?_)
  · exact (q_b_0.mp h8 (by rw [hV.2.2.1]; exact q_rin hr hV.2.1)).elim
  · refine g_iload_n 12 dX7_ran_11 rfl rfl ?_
    refine g_Si 15 [_] _ dX7_ran_12 rfl m_X7_isStage l_X7_84 rfl (c_isStage _) rfl (Nat.le_of_ble_eq_true rfl) (by decide) (fun v12 μ12 ρ12 hc9 => ?_)
    obtain ⟨rfl, rfl, rfl⟩ := hc9
    refine g_if_ne 20 18 dX7_ran_15 rfl (by decide) (fun h15 => ?_) (fun h15 => ?_)
    · refine g_aload_n 21 dX7_ran_20 rfl rfl ?_
      refine g_Vv 24 [] _ dX7_ran_21 rfl m_X7_settle l_X7_136 rfl rfl rfl (by decide) (c_settle hV hst) rfl (Nat.le_of_ble_eq_true rfl) (by decide) (fun μ21 ρ21 hc9 => ?_)
      obtain ⟨rfl, hok, hz, hfr⟩ := hc9
      refine g_iload_n 25 dX7_ran_24 rfl rfl ?_
      refine g_tabIn 92 dX7_ran_25 (by decide) (by decide) rfl (by decide) ?_
      refine g_aload_n 93 dX7_ran_92 rfl rfl ?_
      refine g_getR 96 _ dX7_ran_93 rfl f_X7_40 (by decide) rfl rfl rfl ?_
      refine g_getR 99 _ dX7_ran_96 rfl f_X7_152 (by decide) rfl rfl rfl ?_
      refine g_iload_n 100 dX7_ran_99 rfl rfl ?_
      refine g_aald 101 _ dX7_ran_100 rfl (by decide) rfl (vp_in_nI hi (by omega)) rfl ?_
      rw [nI_clamp (show i < 2 ^ 31 by omega)]
      refine g_iload_n 102 dX7_ran_101 rfl rfl ?_
      refine g_iald 103 dX7_ran_102 rfl (by omega) (k_45 i hi) (vp_in_nI (show r < 10 by have := hV.2.1; omega) (by omega)) ?_
      rw [nI_clamp (show r < 2 ^ 31 by have := hV.2.1; omega)]
      exact g_ri dX7_ran_103 rfl rfl ⟨((hok.1 i hi).2.2.2.2.1 r (show r < 10 by have := hV.2.1; omega)).symm, rfl, hok, hz, hfr⟩
    · exact (q_b_0.mp h15 (q_stageI hi)).elim
set_option maxRecDepth 100000 in
set_option maxHeartbeats 4000000 in
theorem c_ran_o {I : q_I} (hV : q_IV μ b I) (hst : μ 0 9 = 1 ∨ (μ 0 9 = 0 ∧ q_OK μ I)) {r i : Nat} {k : Int32} (hr : r < i_cnt I) (hi : i < 7) (hk : ¬ q_in k 0 3) : q_Ct C l FX7_ran 15 142 142 [.ref (q_a C 0), .int (nI r), .int (nI i), .int k] μ (q_ρ b) (q_PI fun v μ' ρ' => (-1) = v ∧ q_ρ b = ρ' ∧ q_OK μ' I ∧ μ' 0 9 = 0 ∧ (∀ c j, (c < 13 ∨ 68 < c) → ¬ (c = 0 ∧ j = 9) → μ' c j = μ c j)) := by
  refine q_entry rfl (by decide) (Nat.le_of_ble_eq_true rfl) ?_
  refine g_lv [(0, _), (1, _), (2, _), (3, _)] rfl ?_
  refine g_aload_n 1 dX7_ran_0 rfl rfl ?_
  refine g_getR 4 _ dX7_ran_1 rfl f_X7_19 (by decide) rfl rfl rfl ?_
  refine g_iload_n 5 dX7_ran_4 rfl rfl ?_
  refine g_Vi 8 [_] _ dX7_ran_5 rfl m_X4_has l_X7_94 rfl rfl rfl (by decide) (c_has _) rfl (Nat.le_of_ble_eq_true rfl) (by decide) (fun v5 μ5 ρ5 hc9 => ?_)
  obtain ⟨rfl, rfl, rfl⟩ := hc9
  refine g_if_eq 18 11 dX7_ran_8 rfl (by decide) (fun h8 => ?_) (fun h8 => ?_)
  · exact (q_b_0.mp h8 (by rw [hV.2.2.1]; exact q_rin hr hV.2.1)).elim
  · refine g_iload_n 12 dX7_ran_11 rfl rfl ?_
    refine g_Si 15 [_] _ dX7_ran_12 rfl m_X7_isStage l_X7_84 rfl (c_isStage _) rfl (Nat.le_of_ble_eq_true rfl) (by decide) (fun v12 μ12 ρ12 hc9 => ?_)
    obtain ⟨rfl, rfl, rfl⟩ := hc9
    refine g_if_ne 20 18 dX7_ran_15 rfl (by decide) (fun h15 => ?_) (fun h15 => ?_)
    · refine g_aload_n 21 dX7_ran_20 rfl rfl ?_
      refine g_Vv 24 [] _ dX7_ran_21 rfl m_X7_settle l_X7_136 rfl rfl rfl (by decide) (c_settle hV hst) rfl (Nat.le_of_ble_eq_true rfl) (by decide) (fun μ21 ρ21 hc9 => ?_)
      obtain ⟨rfl, hok, hz, hfr⟩ := hc9
      refine g_iload_n 25 dX7_ran_24 rfl rfl ?_
      have h9 : k.toInt < 0 ∨ 3 < k.toInt := by
        have e1 : q_in k 0 3 ↔ ((0 : Int32).toInt ≤ k.toInt ∧ k.toInt ≤ (3 : Int32).toInt) := by simp only [q_in, Int32.le_iff_toInt_le]
        rw [e1] at hk
        have e2 : (0 : Int32).toInt = 0 := rfl
        have e3 : (3 : Int32).toInt = 3 := rfl
        omega
      refine g_tabOut 104 dX7_ran_25 h9 (by decide) ?_
      refine g_iconst 105 (-1) dX7_ran_104 rfl (by decide) ?_
      exact g_ri dX7_ran_105 rfl rfl ⟨rfl, rfl, hok, hz, hfr⟩
    · exact (q_b_0.mp h15 (q_stageI hi)).elim
set_option maxRecDepth 100000 in
set_option maxHeartbeats 4000000 in
theorem c_ran_n {r i k : Int32} (h : ¬ (q_in r 0 (μ 4 3 - 1) ∧ q_in i 0 6)) : q_Ct C l FX7_ran 15 142 142 [.ref (q_a C 0), .int r, .int i, .int k] μ (q_ρ b) (q_is (-1) μ (q_ρ b)) := by
  refine q_entry rfl (by decide) (Nat.le_of_ble_eq_true rfl) ?_
  refine g_lv [(0, _), (1, _), (2, _), (3, _)] rfl ?_
  refine g_aload_n 1 dX7_ran_0 rfl rfl ?_
  refine g_getR 4 _ dX7_ran_1 rfl f_X7_19 (by decide) rfl rfl rfl ?_
  refine g_iload_n 5 dX7_ran_4 rfl rfl ?_
  refine g_Vi 8 [_] _ dX7_ran_5 rfl m_X4_has l_X7_94 rfl rfl rfl (by decide) (c_has _) rfl (Nat.le_of_ble_eq_true rfl) (by decide) (fun v5 μ5 ρ5 hc9 => ?_)
  obtain ⟨rfl, rfl, rfl⟩ := hc9
  refine g_if_eq 18 11 dX7_ran_8 rfl (by decide) (fun h8 => ?_) (fun h8 => ?_)
  · refine g_iconst 19 (-1) dX7_ran_18 rfl (by decide) ?_
    exact g_ri dX7_ran_19 rfl rfl ⟨rfl, rfl, rfl⟩
  · refine g_iload_n 12 dX7_ran_11 rfl rfl ?_
    refine g_Si 15 [_] _ dX7_ran_12 rfl m_X7_isStage l_X7_84 rfl (c_isStage _) rfl (Nat.le_of_ble_eq_true rfl) (by decide) (fun v12 μ12 ρ12 hc9 => ?_)
    obtain ⟨rfl, rfl, rfl⟩ := hc9
    refine g_if_ne 20 18 dX7_ran_15 rfl (by decide) (fun h15 => ?_) (fun h15 => ?_)
    · exact (h ⟨q_b_n.mp h8, q_b_n.mp h15⟩).elim
    · refine g_iconst 19 (-1) dX7_ran_18 rfl (by decide) ?_
      exact g_ri dX7_ran_19 rfl rfl ⟨rfl, rfl, rfl⟩
theorem i_cm_le {μ : q_M} {b : Bool} {I : q_I} (h : q_IV μ b I) (i : Nat) : i_cm I i ≤ 10 := Nat.le_trans (q_od_le _ _ _ _) h.2.1
theorem i_o_lt {μ : q_M} {b : Bool} {I : q_I} (h : q_IV μ b I) (i : Nat) {j : Nat} (hj : j < i_cm I i) : i_o I i j < 10 := Nat.lt_of_lt_of_le (q_od_lt _ _ _ _ j hj) h.2.1
theorem q_inm {p : Int32} {m : Nat} (h : q_in p 0 (nI m - 1)) (hm : m ≤ 1000) : ∃ j : Nat, j < m ∧ p = nI j := by
  cases m with
  | zero =>
    exact absurd (Int32.le_trans h.1 h.2) (by decide)
  | succ m =>
    rw [nI_pred] at h
    obtain ⟨j, h1, h2⟩ := nI_of2 (n := m) (M := nI m) (nI_toInt (by omega)) (Int32.not_lt.mpr h.1) h.2
    exact ⟨j, by omega, h2⟩
theorem q_inmI {j m : Nat} (h : j < m) (hm : m ≤ 1000) : q_in (nI j) 0 (nI m - 1) := by
  cases m with
  | zero => omega
  | succ m => rw [nI_pred]; exact ⟨nI_pos' (by omega), nI_le (by omega) (by omega)⟩
set_option maxRecDepth 100000 in
set_option maxHeartbeats 4000000 in
theorem c_std {I : q_I} (hV : q_IV μ b I) (hst : μ 0 9 = 1 ∨ (μ 0 9 = 0 ∧ q_OK μ I)) {i p : Nat} (hi : i < 7) (hp : p < i_cm I i) : q_Ct C l FX7_standing 15 142 142 [.ref (q_a C 0), .int (nI i), .int (nI p)] μ (q_ρ b) (q_PI fun v μ' ρ' => (nI (i_o I i p)) = v ∧ q_ρ b = ρ' ∧ q_OK μ' I ∧ μ' 0 9 = 0 ∧ (∀ c j, (c < 13 ∨ 68 < c) → ¬ (c = 0 ∧ j = 9) → μ' c j = μ c j)) := by
  refine q_entry rfl (by decide) (Nat.le_of_ble_eq_true rfl) ?_
  refine g_lv [(0, _), (1, _), (2, _)] rfl ?_
  refine g_iload_n 1 dX7_standing_0 rfl rfl ?_
  refine g_Si 4 [_] _ dX7_standing_1 rfl m_X7_isStage l_X7_84 rfl (c_isStage _) rfl (Nat.le_of_ble_eq_true rfl) (by decide) (fun v1 μ1 ρ1 hc9 => ?_)
  obtain ⟨rfl, rfl, rfl⟩ := hc9
  refine g_if_ne 9 7 dX7_standing_4 rfl (by decide) (fun h4 => ?_) (fun h4 => ?_)
  · refine g_aload_n 10 dX7_standing_9 rfl rfl ?_
    refine g_Vv 13 [] _ dX7_standing_10 rfl m_X7_settle l_X7_136 rfl rfl rfl (by decide) (c_settle hV hst) rfl (Nat.le_of_ble_eq_true rfl) (by decide) (fun μ10 ρ10 hc9 => ?_)
    obtain ⟨rfl, hok, hz, hfr⟩ := hc9
    refine g_iload_n 14 dX7_standing_13 rfl rfl ?_
    refine g_iconst 15 0 dX7_standing_14 rfl (by decide) ?_
    refine g_aload_n 16 dX7_standing_15 rfl rfl ?_
    refine g_getR 19 _ dX7_standing_16 rfl f_X7_40 (by decide) rfl rfl rfl ?_
    refine g_getR 22 _ dX7_standing_19 rfl f_X7_155 (by decide) rfl rfl rfl ?_
    refine g_iload_n 23 dX7_standing_22 rfl rfl ?_
    refine g_iald 24 dX7_standing_23 rfl (by decide) rfl (vp_in_nI hi (by omega)) ?_
    rw [nI_clamp (show i < 2 ^ 31 by omega), (hok.1 i hi).2.2.2.2.2.2.1]
    refine g_iconst 25 1 dX7_standing_24 rfl (by decide) ?_
    refine g_isub 26 dX7_standing_25 rfl ?_
    refine g_Si 29 [_, _, _] _ dX7_standing_26 rfl m_X7_within l_X7_73 rfl (c_within _ _ _) rfl (Nat.le_of_ble_eq_true rfl) (by decide) (fun v26 μ26 ρ26 hc9 => ?_)
    obtain ⟨rfl, rfl, rfl⟩ := hc9
    refine g_if_eq 46 32 dX7_standing_29 rfl (by decide) (fun h29 => ?_) (fun h29 => ?_)
    · exact (q_b_0.mp h29 (q_inmI hp (Nat.le_trans (i_cm_le hV i) (by decide)))).elim
    · refine g_aload_n 33 dX7_standing_32 rfl rfl ?_
      refine g_getR 36 _ dX7_standing_33 rfl f_X7_40 (by decide) rfl rfl rfl ?_
      refine g_getR 39 _ dX7_standing_36 rfl f_X7_158 (by decide) rfl rfl rfl ?_
      refine g_iload_n 40 dX7_standing_39 rfl rfl ?_
      refine g_aald 41 _ dX7_standing_40 rfl (by decide) rfl (vp_in_nI hi (by omega)) rfl ?_
      rw [nI_clamp (show i < 2 ^ 31 by omega)]
      refine g_iload_n 42 dX7_standing_41 rfl rfl ?_
      refine g_iald 43 dX7_standing_42 rfl (by omega) (k_53 i hi) (vp_in_nI (show p < 10 by have := i_cm_le hV i; omega) (by omega)) ?_
      rw [nI_clamp (show p < 2 ^ 31 by have := i_cm_le hV i; omega)]
      refine g_goto 47 dX7_standing_43 (by decide) ?_
      exact g_ri dX7_standing_47 rfl rfl ⟨((hok.1 i hi).2.2.2.2.2.1 p hp).symm, rfl, hok, hz, hfr⟩
  · exact (q_b_0.mp h4 (q_stageI hi)).elim
set_option maxRecDepth 100000 in
set_option maxHeartbeats 4000000 in
theorem c_std_o {I : q_I} (hV : q_IV μ b I) (hst : μ 0 9 = 1 ∨ (μ 0 9 = 0 ∧ q_OK μ I)) {i : Nat} {p : Int32} (hi : i < 7) (hp : ¬ q_in p 0 (nI (i_cm I i) - 1)) : q_Ct C l FX7_standing 15 142 142 [.ref (q_a C 0), .int (nI i), .int p] μ (q_ρ b) (q_PI fun v μ' ρ' => (-1) = v ∧ q_ρ b = ρ' ∧ q_OK μ' I ∧ μ' 0 9 = 0 ∧ (∀ c j, (c < 13 ∨ 68 < c) → ¬ (c = 0 ∧ j = 9) → μ' c j = μ c j)) := by
  refine q_entry rfl (by decide) (Nat.le_of_ble_eq_true rfl) ?_
  refine g_lv [(0, _), (1, _), (2, _)] rfl ?_
  refine g_iload_n 1 dX7_standing_0 rfl rfl ?_
  refine g_Si 4 [_] _ dX7_standing_1 rfl m_X7_isStage l_X7_84 rfl (c_isStage _) rfl (Nat.le_of_ble_eq_true rfl) (by decide) (fun v1 μ1 ρ1 hc9 => ?_)
  obtain ⟨rfl, rfl, rfl⟩ := hc9
  refine g_if_ne 9 7 dX7_standing_4 rfl (by decide) (fun h4 => ?_) (fun h4 => ?_)
  · refine g_aload_n 10 dX7_standing_9 rfl rfl ?_
    refine g_Vv 13 [] _ dX7_standing_10 rfl m_X7_settle l_X7_136 rfl rfl rfl (by decide) (c_settle hV hst) rfl (Nat.le_of_ble_eq_true rfl) (by decide) (fun μ10 ρ10 hc9 => ?_)
    obtain ⟨rfl, hok, hz, hfr⟩ := hc9
    refine g_iload_n 14 dX7_standing_13 rfl rfl ?_
    refine g_iconst 15 0 dX7_standing_14 rfl (by decide) ?_
    refine g_aload_n 16 dX7_standing_15 rfl rfl ?_
    refine g_getR 19 _ dX7_standing_16 rfl f_X7_40 (by decide) rfl rfl rfl ?_
    refine g_getR 22 _ dX7_standing_19 rfl f_X7_155 (by decide) rfl rfl rfl ?_
    refine g_iload_n 23 dX7_standing_22 rfl rfl ?_
    refine g_iald 24 dX7_standing_23 rfl (by decide) rfl (vp_in_nI hi (by omega)) ?_
    rw [nI_clamp (show i < 2 ^ 31 by omega), (hok.1 i hi).2.2.2.2.2.2.1]
    refine g_iconst 25 1 dX7_standing_24 rfl (by decide) ?_
    refine g_isub 26 dX7_standing_25 rfl ?_
    refine g_Si 29 [_, _, _] _ dX7_standing_26 rfl m_X7_within l_X7_73 rfl (c_within _ _ _) rfl (Nat.le_of_ble_eq_true rfl) (by decide) (fun v26 μ26 ρ26 hc9 => ?_)
    obtain ⟨rfl, rfl, rfl⟩ := hc9
    refine g_if_eq 46 32 dX7_standing_29 rfl (by decide) (fun h29 => ?_) (fun h29 => ?_)
    · refine g_iconst 47 (-1) dX7_standing_46 rfl (by decide) ?_
      exact g_ri dX7_standing_47 rfl rfl ⟨rfl, rfl, hok, hz, hfr⟩
    · exact (hp (q_b_n.mp h29)).elim
  · exact (q_b_0.mp h4 (q_stageI hi)).elim
set_option maxRecDepth 100000 in
set_option maxHeartbeats 4000000 in
theorem c_std_n {i p : Int32} (h : ¬ q_in i 0 6) : q_Ct C l FX7_standing 15 142 142 [.ref (q_a C 0), .int i, .int p] μ (q_ρ b) (q_is (-1) μ (q_ρ b)) := by
  refine q_entry rfl (by decide) (Nat.le_of_ble_eq_true rfl) ?_
  refine g_lv [(0, _), (1, _), (2, _)] rfl ?_
  refine g_iload_n 1 dX7_standing_0 rfl rfl ?_
  refine g_Si 4 [_] _ dX7_standing_1 rfl m_X7_isStage l_X7_84 rfl (c_isStage _) rfl (Nat.le_of_ble_eq_true rfl) (by decide) (fun v1 μ1 ρ1 hc9 => ?_)
  obtain ⟨rfl, rfl, rfl⟩ := hc9
  refine g_if_ne 9 7 dX7_standing_4 rfl (by decide) (fun h4 => ?_) (fun h4 => ?_)
  · exact (h (q_b_n.mp h4)).elim
  · refine g_iconst 8 (-1) dX7_standing_7 rfl (by decide) ?_
    exact g_ri dX7_standing_8 rfl rfl ⟨rfl, rfl, rfl⟩
set_option maxRecDepth 100000 in
set_option maxHeartbeats 4000000 in
theorem c_of_0 {I : q_I} (hV : q_IV μ b I) (hst : μ 0 9 = 1 ∨ (μ 0 9 = 0 ∧ q_OK μ I)) {i : Nat} (hi : i < 7) : q_Ct C l FX7_of 15 142 142 [.ref (q_a C 0), .int (nI (i + 1)), .int 0] μ (q_ρ b) (q_PI fun v μ' ρ' => (nI (i_cm I i)) = v ∧ q_ρ b = ρ' ∧ q_OK μ' I ∧ μ' 0 9 = 0 ∧ (∀ c j, (c < 13 ∨ 68 < c) → ¬ (c = 0 ∧ j = 9) → μ' c j = μ c j)) := by
  refine q_entry rfl (by decide) (Nat.le_of_ble_eq_true rfl) ?_
  refine g_lv [(0, _), (1, _), (2, _)] rfl ?_
  refine g_iload_n 1 dX7_of_0 rfl rfl ?_
  refine g_Si 4 [_] _ dX7_of_1 rfl m_X7_isCamp l_X7_69 rfl (c_isCamp _) rfl (Nat.le_of_ble_eq_true rfl) (by decide) (fun v1 μ1 ρ1 hc9 => ?_)
  obtain ⟨rfl, rfl, rfl⟩ := hc9
  refine g_if_ne 9 7 dX7_of_4 rfl (by decide) (fun h4 => ?_) (fun h4 => ?_)
  · refine g_aload_n 10 dX7_of_9 rfl rfl ?_
    refine g_Vv 13 [] _ dX7_of_10 rfl m_X7_settle l_X7_136 rfl rfl rfl (by decide) (c_settle hV hst) rfl (Nat.le_of_ble_eq_true rfl) (by decide) (fun μ10 ρ10 hc9 => ?_)
    obtain ⟨rfl, hok, hz, hfr⟩ := hc9
    refine g_aload_n 14 dX7_of_13 rfl rfl ?_
    refine g_getR 17 _ dX7_of_14 rfl f_X7_40 (by decide) rfl rfl rfl ?_
    refine g_getR 20 _ dX7_of_17 rfl f_X7_155 (by decide) rfl rfl rfl ?_
    refine g_iload_n 21 dX7_of_20 rfl rfl ?_
    refine g_iconst 22 1 dX7_of_21 rfl (by decide) ?_
    refine g_isub 23 dX7_of_22 rfl ?_
    rw [nI_pred]
    refine g_iald 24 dX7_of_23 rfl (by decide) rfl (vp_in_nI hi (by omega)) ?_
    rw [nI_clamp (show i < 2 ^ 31 by omega), (hok.1 i hi).2.2.2.2.2.2.1]
    have hcmI : (q_od (i_cnt I) (i_tm I) (i_bk I) (i + 1)).2 = i_cm I i := rfl
    rw [hcmI]
    refine g_istore_n 25 dX7_of_24 rfl (by decide) ?_
    refine g_aload_n 26 dX7_of_25 rfl rfl ?_
    refine g_getR 29 _ dX7_of_26 rfl f_X7_51 (by decide) rfl rfl rfl ?_
    refine g_iconst 30 3 dX7_of_29 rfl (by decide) ?_
    refine g_iald 31 dX7_of_30 rfl (by decide) rfl (vp_in_nI (n := 3) (N := 5) (by decide) (by decide)) ?_
    rw [show (3 : Int32).toNatClampNeg = 3 from rfl, show μ10 69 3 = i_set I 3 from by rw [hfr 69 3 (by decide) (by decide), ← hV.1]; rfl]
    refine g_iload_n 32 dX7_of_31 rfl rfl ?_
    refine g_iadd 33 dX7_of_32 rfl ?_
    refine g_istore 35 dX7_of_33 rfl (by decide) ?_
    refine g_iload_n 36 dX7_of_35 rfl rfl ?_
    refine g_tabIn 76 dX7_of_36 (by decide) (by decide) rfl (by decide) ?_
    refine g_iload_n 77 dX7_of_76 rfl rfl ?_
    exact g_ri dX7_of_77 rfl rfl ⟨rfl, rfl, hok, hz, hfr⟩
  · exact (q_b_0.mp h4 (q_campI hi)).elim
set_option maxRecDepth 100000 in
set_option maxHeartbeats 4000000 in
theorem c_of_1 {I : q_I} (hV : q_IV μ b I) (hst : μ 0 9 = 1 ∨ (μ 0 9 = 0 ∧ q_OK μ I)) {i : Nat} (hi : i < 7) : q_Ct C l FX7_of 15 142 142 [.ref (q_a C 0), .int (nI (i + 1)), .int 1] μ (q_ρ b) (q_PI fun v μ' ρ' => (if 0 < i_cm I i then (i_op I (i + 1)) else -1) = v ∧ q_ρ b = ρ' ∧ q_OK μ' I ∧ μ' 0 9 = 0 ∧ (∀ c j, (c < 13 ∨ 68 < c) → ¬ (c = 0 ∧ j = 9) → μ' c j = μ c j)) := by
  refine q_entry rfl (by decide) (Nat.le_of_ble_eq_true rfl) ?_
  refine g_lv [(0, _), (1, _), (2, _)] rfl ?_
  refine g_iload_n 1 dX7_of_0 rfl rfl ?_
  refine g_Si 4 [_] _ dX7_of_1 rfl m_X7_isCamp l_X7_69 rfl (c_isCamp _) rfl (Nat.le_of_ble_eq_true rfl) (by decide) (fun v1 μ1 ρ1 hc9 => ?_)
  obtain ⟨rfl, rfl, rfl⟩ := hc9
  refine g_if_ne 9 7 dX7_of_4 rfl (by decide) (fun h4 => ?_) (fun h4 => ?_)
  · refine g_aload_n 10 dX7_of_9 rfl rfl ?_
    refine g_Vv 13 [] _ dX7_of_10 rfl m_X7_settle l_X7_136 rfl rfl rfl (by decide) (c_settle hV hst) rfl (Nat.le_of_ble_eq_true rfl) (by decide) (fun μ10 ρ10 hc9 => ?_)
    obtain ⟨rfl, hok, hz, hfr⟩ := hc9
    refine g_aload_n 14 dX7_of_13 rfl rfl ?_
    refine g_getR 17 _ dX7_of_14 rfl f_X7_40 (by decide) rfl rfl rfl ?_
    refine g_getR 20 _ dX7_of_17 rfl f_X7_155 (by decide) rfl rfl rfl ?_
    refine g_iload_n 21 dX7_of_20 rfl rfl ?_
    refine g_iconst 22 1 dX7_of_21 rfl (by decide) ?_
    refine g_isub 23 dX7_of_22 rfl ?_
    rw [nI_pred]
    refine g_iald 24 dX7_of_23 rfl (by decide) rfl (vp_in_nI hi (by omega)) ?_
    rw [nI_clamp (show i < 2 ^ 31 by omega), (hok.1 i hi).2.2.2.2.2.2.1]
    have hcmI : (q_od (i_cnt I) (i_tm I) (i_bk I) (i + 1)).2 = i_cm I i := rfl
    rw [hcmI]
    refine g_istore_n 25 dX7_of_24 rfl (by decide) ?_
    refine g_aload_n 26 dX7_of_25 rfl rfl ?_
    refine g_getR 29 _ dX7_of_26 rfl f_X7_51 (by decide) rfl rfl rfl ?_
    refine g_iconst 30 3 dX7_of_29 rfl (by decide) ?_
    refine g_iald 31 dX7_of_30 rfl (by decide) rfl (vp_in_nI (n := 3) (N := 5) (by decide) (by decide)) ?_
    rw [show (3 : Int32).toNatClampNeg = 3 from rfl, show μ10 69 3 = i_set I 3 from by rw [hfr 69 3 (by decide) (by decide), ← hV.1]; rfl]
    refine g_iload_n 32 dX7_of_31 rfl rfl ?_
    refine g_iadd 33 dX7_of_32 rfl ?_
    refine g_istore 35 dX7_of_33 rfl (by decide) ?_
    refine g_iload_n 36 dX7_of_35 rfl rfl ?_
    refine g_tabIn 78 dX7_of_36 (by decide) (by decide) rfl (by decide) ?_
    refine g_iload_n 79 dX7_of_78 rfl rfl ?_
    refine g_if_le 94 82 dX7_of_79 rfl (by decide) (fun h79 => ?_) (fun h79 => ?_)
    · refine g_iconst 95 (-1) dX7_of_94 rfl (by decide) ?_
      exact g_ri dX7_of_95 rfl rfl ⟨if_neg (fun q => absurd h79 (nI_nle q (by have := i_cm_le hV i; omega))), rfl, hok, hz, hfr⟩
    · have hpos : 0 < i_cm I i := by
        rcases Nat.eq_zero_or_pos (i_cm I i) with q | q
        · rw [q] at h79; exact absurd (by decide) h79
        · exact q
      refine g_aload_n 83 dX7_of_82 rfl rfl ?_
      refine g_getR 86 _ dX7_of_83 rfl f_X7_47 (by decide) rfl rfl rfl ?_
      refine g_getR 89 _ dX7_of_86 rfl f_X7_161 (by decide) rfl rfl rfl ?_
      refine g_iload_n 90 dX7_of_89 rfl rfl ?_
      refine g_iald 91 dX7_of_90 rfl (by decide) rfl (vp_in_nI (show i + 1 < 8 by omega) (by omega)) ?_
      rw [nI_clamp (show i + 1 < 2 ^ 31 by omega)]
      refine g_goto 95 dX7_of_91 (by decide) ?_
      exact g_ri dX7_of_95 rfl rfl ⟨by rw [if_pos hpos, (hok.2.2.2 (i + 1) (by omega) (by have := (i_N_iff I hi).mpr hpos; omega)).1], rfl, hok, hz, hfr⟩
  · exact (q_b_0.mp h4 (q_campI hi)).elim
set_option maxRecDepth 100000 in
set_option maxHeartbeats 4000000 in
theorem c_of_2 {I : q_I} (hV : q_IV μ b I) (hst : μ 0 9 = 1 ∨ (μ 0 9 = 0 ∧ q_OK μ I)) {i : Nat} (hi : i < 7) : q_Ct C l FX7_of 15 142 142 [.ref (q_a C 0), .int (nI (i + 1)), .int 2] μ (q_ρ b) (q_PI fun v μ' ρ' => (if 0 < i_cm I i then (i_cl I (i + 1)) else -1) = v ∧ q_ρ b = ρ' ∧ q_OK μ' I ∧ μ' 0 9 = 0 ∧ (∀ c j, (c < 13 ∨ 68 < c) → ¬ (c = 0 ∧ j = 9) → μ' c j = μ c j)) := by
  refine q_entry rfl (by decide) (Nat.le_of_ble_eq_true rfl) ?_
  refine g_lv [(0, _), (1, _), (2, _)] rfl ?_
  refine g_iload_n 1 dX7_of_0 rfl rfl ?_
  refine g_Si 4 [_] _ dX7_of_1 rfl m_X7_isCamp l_X7_69 rfl (c_isCamp _) rfl (Nat.le_of_ble_eq_true rfl) (by decide) (fun v1 μ1 ρ1 hc9 => ?_)
  obtain ⟨rfl, rfl, rfl⟩ := hc9
  refine g_if_ne 9 7 dX7_of_4 rfl (by decide) (fun h4 => ?_) (fun h4 => ?_)
  · refine g_aload_n 10 dX7_of_9 rfl rfl ?_
    refine g_Vv 13 [] _ dX7_of_10 rfl m_X7_settle l_X7_136 rfl rfl rfl (by decide) (c_settle hV hst) rfl (Nat.le_of_ble_eq_true rfl) (by decide) (fun μ10 ρ10 hc9 => ?_)
    obtain ⟨rfl, hok, hz, hfr⟩ := hc9
    refine g_aload_n 14 dX7_of_13 rfl rfl ?_
    refine g_getR 17 _ dX7_of_14 rfl f_X7_40 (by decide) rfl rfl rfl ?_
    refine g_getR 20 _ dX7_of_17 rfl f_X7_155 (by decide) rfl rfl rfl ?_
    refine g_iload_n 21 dX7_of_20 rfl rfl ?_
    refine g_iconst 22 1 dX7_of_21 rfl (by decide) ?_
    refine g_isub 23 dX7_of_22 rfl ?_
    rw [nI_pred]
    refine g_iald 24 dX7_of_23 rfl (by decide) rfl (vp_in_nI hi (by omega)) ?_
    rw [nI_clamp (show i < 2 ^ 31 by omega), (hok.1 i hi).2.2.2.2.2.2.1]
    have hcmI : (q_od (i_cnt I) (i_tm I) (i_bk I) (i + 1)).2 = i_cm I i := rfl
    rw [hcmI]
    refine g_istore_n 25 dX7_of_24 rfl (by decide) ?_
    refine g_aload_n 26 dX7_of_25 rfl rfl ?_
    refine g_getR 29 _ dX7_of_26 rfl f_X7_51 (by decide) rfl rfl rfl ?_
    refine g_iconst 30 3 dX7_of_29 rfl (by decide) ?_
    refine g_iald 31 dX7_of_30 rfl (by decide) rfl (vp_in_nI (n := 3) (N := 5) (by decide) (by decide)) ?_
    rw [show (3 : Int32).toNatClampNeg = 3 from rfl, show μ10 69 3 = i_set I 3 from by rw [hfr 69 3 (by decide) (by decide), ← hV.1]; rfl]
    refine g_iload_n 32 dX7_of_31 rfl rfl ?_
    refine g_iadd 33 dX7_of_32 rfl ?_
    refine g_istore 35 dX7_of_33 rfl (by decide) ?_
    refine g_iload_n 36 dX7_of_35 rfl rfl ?_
    refine g_tabIn 96 dX7_of_36 (by decide) (by decide) rfl (by decide) ?_
    refine g_iload_n 97 dX7_of_96 rfl rfl ?_
    refine g_if_le 112 100 dX7_of_97 rfl (by decide) (fun h97 => ?_) (fun h97 => ?_)
    · refine g_iconst 113 (-1) dX7_of_112 rfl (by decide) ?_
      exact g_ri dX7_of_113 rfl rfl ⟨if_neg (fun q => absurd h97 (nI_nle q (by have := i_cm_le hV i; omega))), rfl, hok, hz, hfr⟩
    · have hpos : 0 < i_cm I i := by
        rcases Nat.eq_zero_or_pos (i_cm I i) with q | q
        · rw [q] at h97; exact absurd (by decide) h97
        · exact q
      refine g_aload_n 101 dX7_of_100 rfl rfl ?_
      refine g_getR 104 _ dX7_of_101 rfl f_X7_47 (by decide) rfl rfl rfl ?_
      refine g_getR 107 _ dX7_of_104 rfl f_X7_164 (by decide) rfl rfl rfl ?_
      refine g_iload_n 108 dX7_of_107 rfl rfl ?_
      refine g_iald 109 dX7_of_108 rfl (by decide) rfl (vp_in_nI (show i + 1 < 8 by omega) (by omega)) ?_
      rw [nI_clamp (show i + 1 < 2 ^ 31 by omega)]
      refine g_goto 113 dX7_of_109 (by decide) ?_
      exact g_ri dX7_of_113 rfl rfl ⟨by rw [if_pos hpos, (hok.2.2.2 (i + 1) (by omega) (by have := (i_N_iff I hi).mpr hpos; omega)).2.1], rfl, hok, hz, hfr⟩
  · exact (q_b_0.mp h4 (q_campI hi)).elim
set_option maxRecDepth 100000 in
set_option maxHeartbeats 4000000 in
theorem c_of_3 {I : q_I} (hV : q_IV μ b I) (hst : μ 0 9 = 1 ∨ (μ 0 9 = 0 ∧ q_OK μ I)) {i : Nat} (hi : i < 7) : q_Ct C l FX7_of 15 142 142 [.ref (q_a C 0), .int (nI (i + 1)), .int 3] μ (q_ρ b) (q_PI fun v μ' ρ' => (if 0 < i_cm I i then (nI (i_g I (i + 1))) else -1) = v ∧ q_ρ b = ρ' ∧ q_OK μ' I ∧ μ' 0 9 = 0 ∧ (∀ c j, (c < 13 ∨ 68 < c) → ¬ (c = 0 ∧ j = 9) → μ' c j = μ c j)) := by
  refine q_entry rfl (by decide) (Nat.le_of_ble_eq_true rfl) ?_
  refine g_lv [(0, _), (1, _), (2, _)] rfl ?_
  refine g_iload_n 1 dX7_of_0 rfl rfl ?_
  refine g_Si 4 [_] _ dX7_of_1 rfl m_X7_isCamp l_X7_69 rfl (c_isCamp _) rfl (Nat.le_of_ble_eq_true rfl) (by decide) (fun v1 μ1 ρ1 hc9 => ?_)
  obtain ⟨rfl, rfl, rfl⟩ := hc9
  refine g_if_ne 9 7 dX7_of_4 rfl (by decide) (fun h4 => ?_) (fun h4 => ?_)
  · refine g_aload_n 10 dX7_of_9 rfl rfl ?_
    refine g_Vv 13 [] _ dX7_of_10 rfl m_X7_settle l_X7_136 rfl rfl rfl (by decide) (c_settle hV hst) rfl (Nat.le_of_ble_eq_true rfl) (by decide) (fun μ10 ρ10 hc9 => ?_)
    obtain ⟨rfl, hok, hz, hfr⟩ := hc9
    refine g_aload_n 14 dX7_of_13 rfl rfl ?_
    refine g_getR 17 _ dX7_of_14 rfl f_X7_40 (by decide) rfl rfl rfl ?_
    refine g_getR 20 _ dX7_of_17 rfl f_X7_155 (by decide) rfl rfl rfl ?_
    refine g_iload_n 21 dX7_of_20 rfl rfl ?_
    refine g_iconst 22 1 dX7_of_21 rfl (by decide) ?_
    refine g_isub 23 dX7_of_22 rfl ?_
    rw [nI_pred]
    refine g_iald 24 dX7_of_23 rfl (by decide) rfl (vp_in_nI hi (by omega)) ?_
    rw [nI_clamp (show i < 2 ^ 31 by omega), (hok.1 i hi).2.2.2.2.2.2.1]
    have hcmI : (q_od (i_cnt I) (i_tm I) (i_bk I) (i + 1)).2 = i_cm I i := rfl
    rw [hcmI]
    refine g_istore_n 25 dX7_of_24 rfl (by decide) ?_
    refine g_aload_n 26 dX7_of_25 rfl rfl ?_
    refine g_getR 29 _ dX7_of_26 rfl f_X7_51 (by decide) rfl rfl rfl ?_
    refine g_iconst 30 3 dX7_of_29 rfl (by decide) ?_
    refine g_iald 31 dX7_of_30 rfl (by decide) rfl (vp_in_nI (n := 3) (N := 5) (by decide) (by decide)) ?_
    rw [show (3 : Int32).toNatClampNeg = 3 from rfl, show μ10 69 3 = i_set I 3 from by rw [hfr 69 3 (by decide) (by decide), ← hV.1]; rfl]
    refine g_iload_n 32 dX7_of_31 rfl rfl ?_
    refine g_iadd 33 dX7_of_32 rfl ?_
    refine g_istore 35 dX7_of_33 rfl (by decide) ?_
    refine g_iload_n 36 dX7_of_35 rfl rfl ?_
    refine g_tabIn 114 dX7_of_36 (by decide) (by decide) rfl (by decide) ?_
    refine g_iload_n 115 dX7_of_114 rfl rfl ?_
    refine g_if_le 130 118 dX7_of_115 rfl (by decide) (fun h115 => ?_) (fun h115 => ?_)
    · refine g_iconst 131 (-1) dX7_of_130 rfl (by decide) ?_
      exact g_ri dX7_of_131 rfl rfl ⟨if_neg (fun q => absurd h115 (nI_nle q (by have := i_cm_le hV i; omega))), rfl, hok, hz, hfr⟩
    · have hpos : 0 < i_cm I i := by
        rcases Nat.eq_zero_or_pos (i_cm I i) with q | q
        · rw [q] at h115; exact absurd (by decide) h115
        · exact q
      refine g_aload_n 119 dX7_of_118 rfl rfl ?_
      refine g_getR 122 _ dX7_of_119 rfl f_X7_47 (by decide) rfl rfl rfl ?_
      refine g_getR 125 _ dX7_of_122 rfl f_X7_167 (by decide) rfl rfl rfl ?_
      refine g_iload_n 126 dX7_of_125 rfl rfl ?_
      refine g_iald 127 dX7_of_126 rfl (by decide) rfl (vp_in_nI (show i + 1 < 8 by omega) (by omega)) ?_
      rw [nI_clamp (show i + 1 < 2 ^ 31 by omega)]
      refine g_goto 131 dX7_of_127 (by decide) ?_
      exact g_ri dX7_of_131 rfl rfl ⟨by rw [if_pos hpos, (hok.2.2.2 (i + 1) (by omega) (by have := (i_N_iff I hi).mpr hpos; omega)).2.2], rfl, hok, hz, hfr⟩
  · exact (q_b_0.mp h4 (q_campI hi)).elim
set_option maxRecDepth 100000 in
set_option maxHeartbeats 4000000 in
theorem c_of_4 {I : q_I} (hV : q_IV μ b I) (hst : μ 0 9 = 1 ∨ (μ 0 9 = 0 ∧ q_OK μ I)) {i : Nat} (hi : i < 7) : q_Ct C l FX7_of 15 142 142 [.ref (q_a C 0), .int (nI (i + 1)), .int 4] μ (q_ρ b) (q_PI fun v μ' ρ' => (i_set I 3 + nI (i_cm I i)) = v ∧ q_ρ b = ρ' ∧ q_OK μ' I ∧ μ' 0 9 = 0 ∧ (∀ c j, (c < 13 ∨ 68 < c) → ¬ (c = 0 ∧ j = 9) → μ' c j = μ c j)) := by
  refine q_entry rfl (by decide) (Nat.le_of_ble_eq_true rfl) ?_
  refine g_lv [(0, _), (1, _), (2, _)] rfl ?_
  refine g_iload_n 1 dX7_of_0 rfl rfl ?_
  refine g_Si 4 [_] _ dX7_of_1 rfl m_X7_isCamp l_X7_69 rfl (c_isCamp _) rfl (Nat.le_of_ble_eq_true rfl) (by decide) (fun v1 μ1 ρ1 hc9 => ?_)
  obtain ⟨rfl, rfl, rfl⟩ := hc9
  refine g_if_ne 9 7 dX7_of_4 rfl (by decide) (fun h4 => ?_) (fun h4 => ?_)
  · refine g_aload_n 10 dX7_of_9 rfl rfl ?_
    refine g_Vv 13 [] _ dX7_of_10 rfl m_X7_settle l_X7_136 rfl rfl rfl (by decide) (c_settle hV hst) rfl (Nat.le_of_ble_eq_true rfl) (by decide) (fun μ10 ρ10 hc9 => ?_)
    obtain ⟨rfl, hok, hz, hfr⟩ := hc9
    refine g_aload_n 14 dX7_of_13 rfl rfl ?_
    refine g_getR 17 _ dX7_of_14 rfl f_X7_40 (by decide) rfl rfl rfl ?_
    refine g_getR 20 _ dX7_of_17 rfl f_X7_155 (by decide) rfl rfl rfl ?_
    refine g_iload_n 21 dX7_of_20 rfl rfl ?_
    refine g_iconst 22 1 dX7_of_21 rfl (by decide) ?_
    refine g_isub 23 dX7_of_22 rfl ?_
    rw [nI_pred]
    refine g_iald 24 dX7_of_23 rfl (by decide) rfl (vp_in_nI hi (by omega)) ?_
    rw [nI_clamp (show i < 2 ^ 31 by omega), (hok.1 i hi).2.2.2.2.2.2.1]
    have hcmI : (q_od (i_cnt I) (i_tm I) (i_bk I) (i + 1)).2 = i_cm I i := rfl
    rw [hcmI]
    refine g_istore_n 25 dX7_of_24 rfl (by decide) ?_
    refine g_aload_n 26 dX7_of_25 rfl rfl ?_
    refine g_getR 29 _ dX7_of_26 rfl f_X7_51 (by decide) rfl rfl rfl ?_
    refine g_iconst 30 3 dX7_of_29 rfl (by decide) ?_
    refine g_iald 31 dX7_of_30 rfl (by decide) rfl (vp_in_nI (n := 3) (N := 5) (by decide) (by decide)) ?_
    rw [show (3 : Int32).toNatClampNeg = 3 from rfl, show μ10 69 3 = i_set I 3 from by rw [hfr 69 3 (by decide) (by decide), ← hV.1]; rfl]
    refine g_iload_n 32 dX7_of_31 rfl rfl ?_
    refine g_iadd 33 dX7_of_32 rfl ?_
    refine g_istore 35 dX7_of_33 rfl (by decide) ?_
    refine g_iload_n 36 dX7_of_35 rfl rfl ?_
    refine g_tabIn 132 dX7_of_36 (by decide) (by decide) rfl (by decide) ?_
    refine g_iload 134 dX7_of_132 rfl rfl ?_
    exact g_ri dX7_of_134 rfl rfl ⟨rfl, rfl, hok, hz, hfr⟩
  · exact (q_b_0.mp h4 (q_campI hi)).elim
set_option maxRecDepth 100000 in
set_option maxHeartbeats 4000000 in
theorem c_of_5 {I : q_I} (hV : q_IV μ b I) (hst : μ 0 9 = 1 ∨ (μ 0 9 = 0 ∧ q_OK μ I)) {i : Nat} (hi : i < 7) : q_Ct C l FX7_of 15 142 142 [.ref (q_a C 0), .int (nI (i + 1)), .int 5] μ (q_ρ b) (q_PI fun v μ' ρ' => (q_dv ((i_set I 3 + nI (i_cm I i)).toInt64 * (i_set I 4).toInt64) 1000) = v ∧ q_ρ b = ρ' ∧ q_OK μ' I ∧ μ' 0 9 = 0 ∧ (∀ c j, (c < 13 ∨ 68 < c) → ¬ (c = 0 ∧ j = 9) → μ' c j = μ c j)) := by
  refine q_entry rfl (by decide) (Nat.le_of_ble_eq_true rfl) ?_
  refine g_lv [(0, _), (1, _), (2, _)] rfl ?_
  refine g_iload_n 1 dX7_of_0 rfl rfl ?_
  refine g_Si 4 [_] _ dX7_of_1 rfl m_X7_isCamp l_X7_69 rfl (c_isCamp _) rfl (Nat.le_of_ble_eq_true rfl) (by decide) (fun v1 μ1 ρ1 hc9 => ?_)
  obtain ⟨rfl, rfl, rfl⟩ := hc9
  refine g_if_ne 9 7 dX7_of_4 rfl (by decide) (fun h4 => ?_) (fun h4 => ?_)
  · refine g_aload_n 10 dX7_of_9 rfl rfl ?_
    refine g_Vv 13 [] _ dX7_of_10 rfl m_X7_settle l_X7_136 rfl rfl rfl (by decide) (c_settle hV hst) rfl (Nat.le_of_ble_eq_true rfl) (by decide) (fun μ10 ρ10 hc9 => ?_)
    obtain ⟨rfl, hok, hz, hfr⟩ := hc9
    refine g_aload_n 14 dX7_of_13 rfl rfl ?_
    refine g_getR 17 _ dX7_of_14 rfl f_X7_40 (by decide) rfl rfl rfl ?_
    refine g_getR 20 _ dX7_of_17 rfl f_X7_155 (by decide) rfl rfl rfl ?_
    refine g_iload_n 21 dX7_of_20 rfl rfl ?_
    refine g_iconst 22 1 dX7_of_21 rfl (by decide) ?_
    refine g_isub 23 dX7_of_22 rfl ?_
    rw [nI_pred]
    refine g_iald 24 dX7_of_23 rfl (by decide) rfl (vp_in_nI hi (by omega)) ?_
    rw [nI_clamp (show i < 2 ^ 31 by omega), (hok.1 i hi).2.2.2.2.2.2.1]
    have hcmI : (q_od (i_cnt I) (i_tm I) (i_bk I) (i + 1)).2 = i_cm I i := rfl
    rw [hcmI]
    refine g_istore_n 25 dX7_of_24 rfl (by decide) ?_
    refine g_aload_n 26 dX7_of_25 rfl rfl ?_
    refine g_getR 29 _ dX7_of_26 rfl f_X7_51 (by decide) rfl rfl rfl ?_
    refine g_iconst 30 3 dX7_of_29 rfl (by decide) ?_
    refine g_iald 31 dX7_of_30 rfl (by decide) rfl (vp_in_nI (n := 3) (N := 5) (by decide) (by decide)) ?_
    rw [show (3 : Int32).toNatClampNeg = 3 from rfl, show μ10 69 3 = i_set I 3 from by rw [hfr 69 3 (by decide) (by decide), ← hV.1]; rfl]
    refine g_iload_n 32 dX7_of_31 rfl rfl ?_
    refine g_iadd 33 dX7_of_32 rfl ?_
    refine g_istore 35 dX7_of_33 rfl (by decide) ?_
    refine g_iload_n 36 dX7_of_35 rfl rfl ?_
    refine g_tabIn 135 dX7_of_36 (by decide) (by decide) rfl (by decide) ?_
    refine g_iload 137 dX7_of_135 rfl rfl ?_
    refine g_i2l 138 dX7_of_137 rfl ?_
    refine g_aload_n 139 dX7_of_138 rfl rfl ?_
    refine g_getR 142 _ dX7_of_139 rfl f_X7_51 (by decide) rfl rfl rfl ?_
    refine g_iconst 143 4 dX7_of_142 rfl (by decide) ?_
    refine g_iald 144 dX7_of_143 rfl (by decide) rfl (vp_in_nI (n := 4) (N := 5) (by decide) (by decide)) ?_
    rw [show (4 : Int32).toNatClampNeg = 4 from rfl, show μ10 69 4 = i_set I 4 from by rw [hfr 69 4 (by decide) (by decide), ← hV.1]; rfl]
    refine g_i2l 145 dX7_of_144 rfl ?_
    refine g_lmul 146 dX7_of_145 rfl ?_
    refine g_ldc2 149 1000 dX7_of_146 rfl n_X7_170 ?_
    refine g_Si 152 [_, _] _ dX7_of_149 rfl m_X7_divideUpwards l_X7_172 rfl (c_divUp _ _) rfl (Nat.le_of_ble_eq_true rfl) (by decide) (fun v149 μ149 ρ149 hc9 => ?_)
    obtain ⟨rfl, rfl, rfl⟩ := hc9
    exact g_ri dX7_of_152 rfl rfl ⟨rfl, rfl, hok, hz, hfr⟩
  · exact (q_b_0.mp h4 (q_campI hi)).elim
set_option maxRecDepth 100000 in
set_option maxHeartbeats 4000000 in
theorem c_of_o {I : q_I} (hV : q_IV μ b I) (hst : μ 0 9 = 1 ∨ (μ 0 9 = 0 ∧ q_OK μ I)) {i : Nat} {k : Int32} (hi : i < 7) (hk : ¬ q_in k 0 5) : q_Ct C l FX7_of 15 142 142 [.ref (q_a C 0), .int (nI (i + 1)), .int k] μ (q_ρ b) (q_PI fun v μ' ρ' => (-1) = v ∧ q_ρ b = ρ' ∧ q_OK μ' I ∧ μ' 0 9 = 0 ∧ (∀ c j, (c < 13 ∨ 68 < c) → ¬ (c = 0 ∧ j = 9) → μ' c j = μ c j)) := by
  refine q_entry rfl (by decide) (Nat.le_of_ble_eq_true rfl) ?_
  refine g_lv [(0, _), (1, _), (2, _)] rfl ?_
  refine g_iload_n 1 dX7_of_0 rfl rfl ?_
  refine g_Si 4 [_] _ dX7_of_1 rfl m_X7_isCamp l_X7_69 rfl (c_isCamp _) rfl (Nat.le_of_ble_eq_true rfl) (by decide) (fun v1 μ1 ρ1 hc9 => ?_)
  obtain ⟨rfl, rfl, rfl⟩ := hc9
  refine g_if_ne 9 7 dX7_of_4 rfl (by decide) (fun h4 => ?_) (fun h4 => ?_)
  · refine g_aload_n 10 dX7_of_9 rfl rfl ?_
    refine g_Vv 13 [] _ dX7_of_10 rfl m_X7_settle l_X7_136 rfl rfl rfl (by decide) (c_settle hV hst) rfl (Nat.le_of_ble_eq_true rfl) (by decide) (fun μ10 ρ10 hc9 => ?_)
    obtain ⟨rfl, hok, hz, hfr⟩ := hc9
    refine g_aload_n 14 dX7_of_13 rfl rfl ?_
    refine g_getR 17 _ dX7_of_14 rfl f_X7_40 (by decide) rfl rfl rfl ?_
    refine g_getR 20 _ dX7_of_17 rfl f_X7_155 (by decide) rfl rfl rfl ?_
    refine g_iload_n 21 dX7_of_20 rfl rfl ?_
    refine g_iconst 22 1 dX7_of_21 rfl (by decide) ?_
    refine g_isub 23 dX7_of_22 rfl ?_
    rw [nI_pred]
    refine g_iald 24 dX7_of_23 rfl (by decide) rfl (vp_in_nI hi (by omega)) ?_
    rw [nI_clamp (show i < 2 ^ 31 by omega), (hok.1 i hi).2.2.2.2.2.2.1]
    have hcmI : (q_od (i_cnt I) (i_tm I) (i_bk I) (i + 1)).2 = i_cm I i := rfl
    rw [hcmI]
    refine g_istore_n 25 dX7_of_24 rfl (by decide) ?_
    refine g_aload_n 26 dX7_of_25 rfl rfl ?_
    refine g_getR 29 _ dX7_of_26 rfl f_X7_51 (by decide) rfl rfl rfl ?_
    refine g_iconst 30 3 dX7_of_29 rfl (by decide) ?_
    refine g_iald 31 dX7_of_30 rfl (by decide) rfl (vp_in_nI (n := 3) (N := 5) (by decide) (by decide)) ?_
    rw [show (3 : Int32).toNatClampNeg = 3 from rfl, show μ10 69 3 = i_set I 3 from by rw [hfr 69 3 (by decide) (by decide), ← hV.1]; rfl]
    refine g_iload_n 32 dX7_of_31 rfl rfl ?_
    refine g_iadd 33 dX7_of_32 rfl ?_
    refine g_istore 35 dX7_of_33 rfl (by decide) ?_
    refine g_iload_n 36 dX7_of_35 rfl rfl ?_
    have h9 : k.toInt < 0 ∨ 5 < k.toInt := by
      have e1 : q_in k 0 5 ↔ ((0 : Int32).toInt ≤ k.toInt ∧ k.toInt ≤ (5 : Int32).toInt) := by simp only [q_in, Int32.le_iff_toInt_le]
      rw [e1] at hk
      have e2 : (0 : Int32).toInt = 0 := rfl
      have e3 : (5 : Int32).toInt = 5 := rfl
      omega
    refine g_tabOut 153 dX7_of_36 h9 (by decide) ?_
    refine g_iconst 154 (-1) dX7_of_153 rfl (by decide) ?_
    exact g_ri dX7_of_154 rfl rfl ⟨rfl, rfl, hok, hz, hfr⟩
  · exact (q_b_0.mp h4 (q_campI hi)).elim
set_option maxRecDepth 100000 in
set_option maxHeartbeats 4000000 in
theorem c_of_n {i k : Int32} (h : ¬ q_in i 1 7) : q_Ct C l FX7_of 15 142 142 [.ref (q_a C 0), .int i, .int k] μ (q_ρ b) (q_is (-1) μ (q_ρ b)) := by
  refine q_entry rfl (by decide) (Nat.le_of_ble_eq_true rfl) ?_
  refine g_lv [(0, _), (1, _), (2, _)] rfl ?_
  refine g_iload_n 1 dX7_of_0 rfl rfl ?_
  refine g_Si 4 [_] _ dX7_of_1 rfl m_X7_isCamp l_X7_69 rfl (c_isCamp _) rfl (Nat.le_of_ble_eq_true rfl) (by decide) (fun v1 μ1 ρ1 hc9 => ?_)
  obtain ⟨rfl, rfl, rfl⟩ := hc9
  refine g_if_ne 9 7 dX7_of_4 rfl (by decide) (fun h4 => ?_) (fun h4 => ?_)
  · exact (h (q_b_n.mp h4)).elim
  · refine g_iconst 8 (-1) dX7_of_7 rfl (by decide) ?_
    exact g_ri dX7_of_8 rfl rfl ⟨rfl, rfl, rfl⟩
set_option maxRecDepth 100000 in
set_option maxHeartbeats 4000000 in
theorem c_sets {I : q_I} (hV : q_IV μ b I) (hst : μ 0 9 = 1 ∨ (μ 0 9 = 0 ∧ q_OK μ I)) : q_Ct C l FX7_sets 15 142 142 [.ref (q_a C 0)] μ (q_ρ b) (q_PI fun v μ' ρ' => (nI (i_n0 I)) = v ∧ q_ρ b = ρ' ∧ q_OK μ' I ∧ μ' 0 9 = 0 ∧ (∀ c j, (c < 13 ∨ 68 < c) → ¬ (c = 0 ∧ j = 9) → μ' c j = μ c j)) := by
  refine q_entry rfl (by decide) (Nat.le_of_ble_eq_true rfl) ?_
  refine g_lv [(0, _)] rfl ?_
  refine g_aload_n 1 dX7_sets_0 rfl rfl ?_
  refine g_Vv 4 [] _ dX7_sets_1 rfl m_X7_settle l_X7_136 rfl rfl rfl (by decide) (c_settle hV hst) rfl (Nat.le_of_ble_eq_true rfl) (by decide) (fun μ1 ρ1 hc9 => ?_)
  obtain ⟨rfl, hok, hz, hfr⟩ := hc9
  refine g_aload_n 5 dX7_sets_4 rfl rfl ?_
  refine g_getR 8 _ dX7_sets_5 rfl f_X7_47 (by decide) rfl rfl rfl ?_
  refine g_getI 11 dX7_sets_8 rfl f_X7_176 (by decide) rfl rfl ?_
  exact g_ri dX7_sets_11 rfl rfl ⟨hok.2.1.symm, rfl, hok, hz, hfr⟩
theorem q_fu_le (g : Nat → Nat) (s : Nat) : ∀ k x, q_fu g s k x ≤ x + k
  | 0, x => by unfold q_fu; omega
  | k + 1, x => by
    unfold q_fu
    split
    · omega
    · have := q_fu_le g s k (x + 1); omega
theorem q_lu_le (g : Nat → Nat) (s : Nat) : ∀ x, q_lu g s x ≤ x
  | 0 => Nat.le_refl _
  | x + 1 => by
    unfold q_lu
    split
    · omega
    · have := q_lu_le g s x; omega
theorem q_fu_le2 (g : Nat → Nat) (s : Nat) : ∀ k x, q_fu g s k x < x + k ∨ q_fu g s k x = 0
  | 0, x => Or.inr rfl
  | k + 1, x => by
    unfold q_fu
    split
    · left; omega
    · rcases q_fu_le2 g s k (x + 1) with h | h
      · left; omega
      · right; exact h
theorem q_ft_is {T : Nat → Option (Nat → Nat)} : ∀ n s g, q_ft T n s = some g → ∃ t, s ≤ t ∧ t < s + n ∧ T t = some g
  | 0, s, g, h => by cases h
  | n + 1, s, g, h => by
    unfold q_ft at h
    cases e : T s with
    | some g2 => rw [e] at h; cases h; exact ⟨s, Nat.le_refl _, by omega, e⟩
    | none =>
      rw [e] at h
      obtain ⟨t, h1, h2, h3⟩ := q_ft_is n (s + 1) g h
      exact ⟨t, by omega, by omega, h3⟩
theorem q_se_lt {can : Nat → Nat → Bool} {most : Nat} : ∀ f c used la g, q_se can most f c used la = some g → ∀ x, c ≤ x → x < c + f → g x < most
  | 0, _, _, _, _, _, x, h1, h2 => by omega
  | f + 1, c, used, la, g, h, x, h1, h2 => by
    unfold q_se at h
    obtain ⟨t, g1, g2, g3⟩ := q_ft_is _ _ _ h
    by_cases e : t = used ∨ can c (la t) = true
    · rw [if_pos e] at g3
      obtain ⟨g', k1, k2⟩ := Option.map_eq_some_iff.mp g3
      rw [← k2]
      dsimp only
      by_cases q : x = c
      · rw [if_pos q]; omega
      · rw [if_neg q]
        exact q_se_lt f (c + 1) _ _ g' k1 x (by omega) (by omega)
    · rw [if_neg e] at g3; cases g3
theorem i_g_lt (I : q_I) {x : Nat} (h1 : 1 ≤ x) (h2 : x ≤ i_N I) : i_g I x < i_n0 I := q_se_lt _ _ _ _ _ (i_n0_s I).2.1 x h1 (by omega)
theorem i_n0_le (I : q_I) : i_n0 I ≤ 7 := Nat.le_trans (i_n0_s I).1 (i_N_le I)
set_option maxRecDepth 100000 in
set_option maxHeartbeats 4000000 in
theorem c_goes {I : q_I} (hV : q_IV μ b I) (hst : μ 0 9 = 1 ∨ (μ 0 9 = 0 ∧ q_OK μ I)) {s : Nat} (hs : s < i_n0 I) : q_Ct C l FX7_goes 15 142 142 [.ref (q_a C 0), .int (nI s)] μ (q_ρ b) (q_PI fun v μ' ρ' => (q_sum (i_len I) (q_lu (i_g I) s (i_N I)) - q_sum (i_len I) (q_fu (i_g I) s (i_N I) 1)) = v ∧ q_ρ b = ρ' ∧ q_OK μ' I ∧ μ' 0 9 = 0 ∧ (∀ c j, (c < 13 ∨ 68 < c) → ¬ (c = 0 ∧ j = 9) → μ' c j = μ c j)) := by
  refine q_entry rfl (by decide) (Nat.le_of_ble_eq_true rfl) ?_
  refine g_lv [(0, _), (1, _)] rfl ?_
  refine g_aload_n 1 dX7_goes_0 rfl rfl ?_
  refine g_Vv 4 [] _ dX7_goes_1 rfl m_X7_settle l_X7_136 rfl rfl rfl (by decide) (c_settle hV hst) rfl (Nat.le_of_ble_eq_true rfl) (by decide) (fun μ1 ρ1 hc9 => ?_)
  obtain ⟨rfl, hok, hz, hfr⟩ := hc9
  refine g_iload_n 5 dX7_goes_4 rfl rfl ?_
  refine g_iconst 6 0 dX7_goes_5 rfl (by decide) ?_
  refine g_aload_n 7 dX7_goes_6 rfl rfl ?_
  refine g_getR 10 _ dX7_goes_7 rfl f_X7_47 (by decide) rfl rfl rfl ?_
  refine g_getI 13 dX7_goes_10 rfl f_X7_176 (by decide) rfl rfl ?_
  rw [hok.2.1]
  refine g_iconst 14 1 dX7_goes_13 rfl (by decide) ?_
  refine g_isub 15 dX7_goes_14 rfl ?_
  refine g_Si 18 [_, _, _] _ dX7_goes_15 rfl m_X7_within l_X7_73 rfl (c_within _ _ _) rfl (Nat.le_of_ble_eq_true rfl) (by decide) (fun v15 μ15 ρ15 hc9 => ?_)
  obtain ⟨rfl, rfl, rfl⟩ := hc9
  refine g_if_ne 23 21 dX7_goes_18 rfl (by decide) (fun h18 => ?_) (fun h18 => ?_)
  · refine g_aload_n 24 dX7_goes_23 rfl rfl ?_
    refine g_getR 27 _ dX7_goes_24 rfl f_X7_12 (by decide) rfl rfl rfl ?_
    refine g_aload_n 28 dX7_goes_27 rfl rfl ?_
    refine g_getR 31 _ dX7_goes_28 rfl f_X7_47 (by decide) rfl rfl rfl ?_
    refine g_iload_n 32 dX7_goes_31 rfl rfl ?_
    refine g_Vi 35 [_] _ dX7_goes_32 rfl m_X2_lastCampOf l_X7_179 rfl rfl rfl (by decide) (c_lc (N := i_N I) (s := s) (g := i_g I) (i_N_le I) (by have := i_n0_le I; omega) (fun x h1 h2 => ⟨(hok.2.2.2 x h1 h2).2.2, by have := i_g_lt I h1 h2; have := i_n0_le I; omega⟩) hok.2.2.1) rfl (Nat.le_of_ble_eq_true rfl) (by decide) (fun v32 μ32 ρ32 hc9 => ?_)
    obtain ⟨rfl, rfl, rfl⟩ := hc9
    refine g_Vi 38 [_] _ dX7_goes_35 rfl m_X1_kilometerOf l_X7_133 rfl rfl rfl (by decide) (c_km _ (by have := q_lu_le (i_g I) s (i_N I); have := i_N_le I; omega)) rfl (Nat.le_of_ble_eq_true rfl) (by decide) (fun v35 μ35 ρ35 hc9 => ?_)
    obtain ⟨rfl, rfl, rfl⟩ := hc9
    refine g_aload_n 39 dX7_goes_38 rfl rfl ?_
    refine g_getR 42 _ dX7_goes_39 rfl f_X7_12 (by decide) rfl rfl rfl ?_
    refine g_aload_n 43 dX7_goes_42 rfl rfl ?_
    refine g_getR 46 _ dX7_goes_43 rfl f_X7_47 (by decide) rfl rfl rfl ?_
    refine g_iload_n 47 dX7_goes_46 rfl rfl ?_
    refine g_Vi 50 [_] _ dX7_goes_47 rfl m_X2_firstCampOf l_X7_182 rfl rfl rfl (by decide) (c_fc (N := i_N I) (s := s) (g := i_g I) (i_N_le I) (by have := i_n0_le I; omega) (fun x h1 h2 => ⟨(hok.2.2.2 x h1 h2).2.2, by have := i_g_lt I h1 h2; have := i_n0_le I; omega⟩) hok.2.2.1) rfl (Nat.le_of_ble_eq_true rfl) (by decide) (fun v47 μ47 ρ47 hc9 => ?_)
    obtain ⟨rfl, rfl, rfl⟩ := hc9
    refine g_Vi 53 [_] _ dX7_goes_50 rfl m_X1_kilometerOf l_X7_133 rfl rfl rfl (by decide) (c_km _ (by have := q_fu_le2 (i_g I) s (i_N I) 1; have := i_N_le I; omega)) rfl (Nat.le_of_ble_eq_true rfl) (by decide) (fun v50 μ50 ρ50 hc9 => ?_)
    obtain ⟨rfl, rfl, rfl⟩ := hc9
    rw [show μ1 2 = i_len I from by funext j; rw [hfr 2 j (by decide) (by omega), ← hV.1]; rfl]
    refine g_isub 54 dX7_goes_53 rfl ?_
    exact g_ri dX7_goes_54 rfl rfl ⟨rfl, rfl, hok, hz, hfr⟩
  · exact (q_b_0.mp h18 (q_inmI hs (by have := i_n0_le I; omega))).elim
set_option maxRecDepth 100000 in
set_option maxHeartbeats 4000000 in
theorem c_goes_n {I : q_I} (hV : q_IV μ b I) (hst : μ 0 9 = 1 ∨ (μ 0 9 = 0 ∧ q_OK μ I)) {s : Int32} (hs : ¬ q_in s 0 (nI (i_n0 I) - 1)) : q_Ct C l FX7_goes 15 142 142 [.ref (q_a C 0), .int s] μ (q_ρ b) (q_PI fun v μ' ρ' => (-1) = v ∧ q_ρ b = ρ' ∧ q_OK μ' I ∧ μ' 0 9 = 0 ∧ (∀ c j, (c < 13 ∨ 68 < c) → ¬ (c = 0 ∧ j = 9) → μ' c j = μ c j)) := by
  refine q_entry rfl (by decide) (Nat.le_of_ble_eq_true rfl) ?_
  refine g_lv [(0, _), (1, _)] rfl ?_
  refine g_aload_n 1 dX7_goes_0 rfl rfl ?_
  refine g_Vv 4 [] _ dX7_goes_1 rfl m_X7_settle l_X7_136 rfl rfl rfl (by decide) (c_settle hV hst) rfl (Nat.le_of_ble_eq_true rfl) (by decide) (fun μ1 ρ1 hc9 => ?_)
  obtain ⟨rfl, hok, hz, hfr⟩ := hc9
  refine g_iload_n 5 dX7_goes_4 rfl rfl ?_
  refine g_iconst 6 0 dX7_goes_5 rfl (by decide) ?_
  refine g_aload_n 7 dX7_goes_6 rfl rfl ?_
  refine g_getR 10 _ dX7_goes_7 rfl f_X7_47 (by decide) rfl rfl rfl ?_
  refine g_getI 13 dX7_goes_10 rfl f_X7_176 (by decide) rfl rfl ?_
  rw [hok.2.1]
  refine g_iconst 14 1 dX7_goes_13 rfl (by decide) ?_
  refine g_isub 15 dX7_goes_14 rfl ?_
  refine g_Si 18 [_, _, _] _ dX7_goes_15 rfl m_X7_within l_X7_73 rfl (c_within _ _ _) rfl (Nat.le_of_ble_eq_true rfl) (by decide) (fun v15 μ15 ρ15 hc9 => ?_)
  obtain ⟨rfl, rfl, rfl⟩ := hc9
  refine g_if_ne 23 21 dX7_goes_18 rfl (by decide) (fun h18 => ?_) (fun h18 => ?_)
  · exact (hs (q_b_n.mp h18)).elim
  · refine g_iconst 22 (-1) dX7_goes_21 rfl (by decide) ?_
    exact g_ri dX7_goes_22 rfl rfl ⟨rfl, rfl, hok, hz, hfr⟩
end AK
