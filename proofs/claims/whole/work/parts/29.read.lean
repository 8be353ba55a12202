/-! ===== read, book ===== -/
def q_fc (r : Nat) (μ μ' : q_M) : Prop := ∀ c j, c ≠ 10 → ¬ (r ≤ c ∧ c < r + 26) → μ' c j = μ c j
def q_RQ (r : Nat) (b : Bool) (μ0 : q_M) (R : Nat × Nat × q_B) (v : Int32) (μ' : q_M) (ρ' : q_R) : Prop := q_ρ b = ρ' ∧ (if R.1 = 0 then 1 else 0) = v ∧ μ' 10 0 = nI R.1 ∧ μ' 10 1 = (if R.1 = 0 then -1 else nI R.2.1) ∧ (R.1 = 0 → q_RB r μ' R.2.2) ∧ q_fc r μ0 μ'
theorem q_TC_fc {r : Nat} {μ μ' : q_M} {Y : Nat → Int32} {L : Nat} (hr : r = 70 ∨ r = 96) (h : q_TC μ Y L) (hf : q_fc r μ μ') : q_TC μ' Y L := ⟨by rw [hf _ _ (by decide) (by omega)]; exact h.1, fun p hp => by rw [hf _ _ (by decide) (by omega)]; exact h.2 p hp⟩
theorem q_rd_end {Y : Nat → Int32} {L f slot s : Nat} {w : q_W} (h : L ≤ s) : q_rd Y L f slot s w = if slot = 0 then (0, 0, w.2.2.2.2) else (1, L, w.2.2.2.2) := by
  cases f with
  | zero => rfl
  | succ f =>
    unfold q_rd
    rw [if_neg (Nat.not_lt.mpr h)]
theorem q_k1_3 {B : q_B} {n : Nat} : q_k1 B n ≤ 3 := by
  unfold q_k1
  by_cases h1 : n ≤ 6
  · rw [if_pos h1]
    by_cases h2 : 4 ≤ B.1 n
    · rw [if_pos h2]; decide
    · rw [if_neg h2]; decide
  · rw [if_neg h1]; decide
theorem q_kle {Y : Nat → Int32} {L slot s : Nat} {w : q_W} (hs : slot < 9) : (q_stp Y L slot s w).1 ≤ 3 := by
  have hw : ∀ (P : Prop) [Decidable P], (if P then ((0, w) : Nat × q_W) else (1, w)).1 ≤ 3 := by
    intro P _
    by_cases h : P
    · rw [if_pos h]; exact Nat.zero_le _
    · rw [if_neg h]; exact (by decide : 1 ≤ 3)
  have hn : ∀ (P : Prop) [Decidable P] (k : Nat) (w' : q_W), k ≤ 3 → (if P then ((1, w) : Nat × q_W) else (k, w')).1 ≤ 3 := by
    intro P _ k w' hk
    by_cases h : P
    · rw [if_pos h]; exact (by decide : 1 ≤ 3)
    · rw [if_neg h]; exact hk
  rcases q_s9 hs with rfl | rfl | rfl | rfl | rfl | rfl | rfl | rfl | rfl
  · rw [q_sp0]; exact hw _
  · rw [q_sp1]; exact hn _ _ _ q_k1_3
  · rw [q_sp2]; exact hw _
  · rw [q_sp3]; exact hn _ _ _ (by unfold q_k3; split <;> decide)
  · rw [q_sp4]; exact hw _
  · rw [q_sp5]; exact hn _ _ _ (by unfold q_k5; split <;> decide)
  · rw [q_sp6]; exact hw _
  · rw [q_sp7]; exact hn _ _ _ (by unfold q_k7; split <;> decide)
  · rw [q_sp8]
    by_cases h : Y s = 59
    · rw [if_pos h]; exact Nat.zero_le _
    · rw [if_neg h]; exact (by decide : 1 ≤ 3)
section RE
variable {C : q_C} {l : Launch} {μ : q_M} {b : Bool} {Y : Nat → Int32} {L r : Nat} {μ0 : q_M}
theorem q_RQ_ok {f s slot : Nat} {w : q_W} (h : L ≤ s) (hz : slot = 0) (h0 : μ 10 0 = 0) (h1 : μ 10 1 = -1) (hF : q_CF r slot μ w) (hf : q_fc r μ0 μ) : q_RQ r b μ0 (q_rd Y L f slot s w) 1 μ (q_ρ b) := by
  subst hz
  rw [q_rd_end h]
  exact ⟨rfl, rfl, h0, h1, fun _ => hF.2.2.2.2, hf⟩
theorem q_RQ_sh {f s slot : Nat} {w : q_W} (h : L ≤ s) (hs : slot ≠ 0) (hf : q_fc r μ0 μ) : q_RQ r b μ0 (q_rd Y L f slot s w) 0 (q_up (q_up μ 10 0 1) 10 1 (nI L)) (q_ρ b) := by
  rw [q_rd_end h, if_neg hs]
  exact ⟨rfl, rfl, rfl, rfl, fun q => absurd q Nat.one_ne_zero, fun c j q1 q2 => by rw [q_upc q1, q_upc q1]; exact hf c j q1 q2⟩
theorem q_RQ_bad {f s slot : Nat} {w : q_W} {μ' : q_M} (h : s < L) (hk : ¬ (q_stp Y L slot s w).1 = 0) (hf : q_fc r μ0 μ) (hg : q_fr r μ μ') : q_RQ r b μ0 (q_rd Y L (f + 1) slot s w) 0 (q_up (q_up μ' 10 0 (nI (q_stp Y L slot s w).1)) 10 1 (nI s)) (q_ρ b) := by
  unfold q_rd
  rw [if_pos h, if_neg hk]
  exact ⟨rfl, if_neg hk, rfl, (if_neg hk).symm, fun q => absurd q hk, fun c j q1 q2 => by rw [q_upc q1, q_upc q1, hg c j (Or.inl q1) q2]; exact hf c j q1 q2⟩
theorem q_rd_go {f s slot : Nat} {w : q_W} (h : s < L) (hk : (q_stp Y L slot s w).1 = 0) : q_rd Y L (f + 1) slot s w = q_rd Y L f ((slot + 1) % 9) (q_sk Y L (q_te Y L s)) (q_stp Y L slot s w).2 := by
  rw [q_rd, if_pos h, if_pos hk]
theorem q_CF_same {slot : Nat} {μ' : q_M} {w : q_W} (hr : r = 70 ∨ r = 96) (h : q_CF r slot μ w) (e : ∀ c j, (c = 10 → 2 ≤ j) → μ' c j = μ c j) : q_CF r slot μ' w :=
  ⟨fun q => by rw [e _ _ (by omega)]; exact h.1 q, fun q => by rw [e _ _ (by omega)]; exact h.2.1 q, fun q => by rw [e _ _ (by omega)]; exact h.2.2.1 q, fun q => by rw [e _ _ (by omega)]; exact h.2.2.2.1 q, h.2.2.2.2.same (fun c j h1 h2 => e _ _ (by omega))⟩
set_option maxRecDepth 100000 in
set_option maxHeartbeats 4000000 in
theorem lp_read (hY : q_TY Y L) (hT0 : q_TC μ0 Y L) (hr : r = 70 ∨ r = 96) : ∀ k t, t + k = 600 → ∀ (μ : q_M) (slot s : Nat) (w : q_W), slot < 9 → s ≤ L → t ≤ s → q_iv slot w → q_CF r slot μ w → μ 10 0 = 0 → μ 10 1 = -1 → q_fc r μ0 μ → q_G C l FX0_read 6 142 142 (q_PI (q_RQ r b μ0 (q_rd Y L k slot s w))) 142 μ (q_ρ b) [(0, .ref (q_a C 10)), (1, .ref (q_a C 8)), (2, .ref (q_a C r)), (3, .int (nI slot)), (4, .int (nI s)), (5, .int (nI t))] [] 26 := by
  intro k
  induction k with
  | zero =>
    intro t hK9
    intro μ slot s w hsl hsL hts hi hF hk0 hp0 hfc
    have hT := q_TC_fc hr hT0 hfc
    have hL9 := hY.1
    refine g_iload 28 dX0_read_26 rfl rfl ?_
    refine g_sipush 31 600 dX0_read_28 rfl (by decide) ?_
    refine g_icmp_ge 102 34 dX0_read_31 rfl (by decide) (fun h31 => ?_) (fun h31 => ?_)
    · refine g_iload_n 103 dX0_read_102 rfl rfl ?_
      refine g_if_eq 119 106 dX0_read_103 rfl (by decide) (fun h103 => ?_) (fun h103 => ?_)
      · refine g_iload_n 120 dX0_read_119 rfl rfl ?_
        refine g_if_ne 127 123 dX0_read_120 rfl (by decide) (fun h120 => ?_) (fun h120 => ?_)
        · exact absurd h103 h120
        · refine g_iconst 124 1 dX0_read_123 rfl (by decide) ?_
          refine g_goto 128 dX0_read_124 (by decide) ?_
          exact g_rz dX0_read_128 rfl (by first | exact Or.inl rfl | exact Or.inr rfl | assumption) rfl (q_RQ_ok (by omega) ((nI_eq (b := 0) (by omega) (by omega)).mp h103) hk0 hp0 hF hfc)
      · refine g_aload_n 107 dX0_read_106 rfl rfl ?_
        refine g_iconst 108 1 dX0_read_107 rfl (by decide) ?_
        refine g_putI 111 dX0_read_108 rfl f_X0_20 (by decide) rfl rfl (Or.inl rfl) ?_
        refine g_aload_n 112 dX0_read_111 rfl rfl ?_
        refine g_aload_n 113 dX0_read_112 rfl rfl ?_
        refine g_getI 116 dX0_read_113 rfl f_X0_27 (by decide) rfl rfl ?_
        rw [q_upc (by decide), hT.1]
        refine g_putI 119 dX0_read_116 rfl f_X0_9 (by decide) rfl rfl (Or.inl rfl) ?_
        refine g_iload_n 120 dX0_read_119 rfl rfl ?_
        refine g_if_ne 127 123 dX0_read_120 rfl (by decide) (fun h120 => ?_) (fun h120 => ?_)
        · refine g_iconst 128 0 dX0_read_127 rfl (by decide) ?_
          exact g_rz dX0_read_128 rfl (by first | exact Or.inl rfl | exact Or.inr rfl | assumption) rfl (q_RQ_sh (by omega) (fun q => h103 (by rw [q]; rfl)) hfc)
        · exact absurd h120 h103
    · exact absurd (nI_le (a := 600) (b := t) (by omega) (by omega)) h31
  | succ k ih =>
    intro t hK9
    intro μ slot s w hsl hsL hts hi hF hk0 hp0 hfc
    have hT := q_TC_fc hr hT0 hfc
    have hL9 := hY.1
    refine g_iload 28 dX0_read_26 rfl rfl ?_
    refine g_sipush 31 600 dX0_read_28 rfl (by decide) ?_
    refine g_icmp_ge 102 34 dX0_read_31 rfl (by decide) (fun h31 => ?_) (fun h31 => ?_)
    · exact absurd h31 (nI_ge (a := t) (b := 600) (by omega) (by omega))
    · refine g_iload 36 dX0_read_34 rfl rfl ?_
      refine g_aload_n 37 dX0_read_36 rfl rfl ?_
      refine g_getI 40 dX0_read_37 rfl f_X0_27 (by decide) rfl rfl ?_
      rw [hT.1]
      refine g_icmp_ge 102 43 dX0_read_40 rfl (by decide) (fun h40 => ?_) (fun h40 => ?_)
      · refine g_iload_n 103 dX0_read_102 rfl rfl ?_
        refine g_if_eq 119 106 dX0_read_103 rfl (by decide) (fun h103 => ?_) (fun h103 => ?_)
        · refine g_iload_n 120 dX0_read_119 rfl rfl ?_
          refine g_if_ne 127 123 dX0_read_120 rfl (by decide) (fun h120 => ?_) (fun h120 => ?_)
          · exact absurd h103 h120
          · refine g_iconst 124 1 dX0_read_123 rfl (by decide) ?_
            refine g_goto 128 dX0_read_124 (by decide) ?_
            exact g_rz dX0_read_128 rfl (by first | exact Or.inl rfl | exact Or.inr rfl | assumption) rfl (q_RQ_ok ((nI_leI (by omega) (by omega)).mp h40) ((nI_eq (b := 0) (by omega) (by omega)).mp h103) hk0 hp0 hF hfc)
        · refine g_aload_n 107 dX0_read_106 rfl rfl ?_
          refine g_iconst 108 1 dX0_read_107 rfl (by decide) ?_
          refine g_putI 111 dX0_read_108 rfl f_X0_20 (by decide) rfl rfl (Or.inl rfl) ?_
          refine g_aload_n 112 dX0_read_111 rfl rfl ?_
          refine g_aload_n 113 dX0_read_112 rfl rfl ?_
          refine g_getI 116 dX0_read_113 rfl f_X0_27 (by decide) rfl rfl ?_
          rw [q_upc (by decide), hT.1]
          refine g_putI 119 dX0_read_116 rfl f_X0_9 (by decide) rfl rfl (Or.inl rfl) ?_
          refine g_iload_n 120 dX0_read_119 rfl rfl ?_
          refine g_if_ne 127 123 dX0_read_120 rfl (by decide) (fun h120 => ?_) (fun h120 => ?_)
          · refine g_iconst 128 0 dX0_read_127 rfl (by decide) ?_
            exact g_rz dX0_read_128 rfl (by first | exact Or.inl rfl | exact Or.inr rfl | assumption) rfl (q_RQ_sh ((nI_leI (by omega) (by omega)).mp h40) (fun q => h103 (by rw [q]; rfl)) hfc)
          · exact absurd h120 h103
      · have hs : s < L := Nat.not_le.mp (fun q => h40 (nI_le q (by omega)))
        have hte := q_te_gt (Y := Y) hs
        have hsk := q_sk_ge (Y := Y) (s := q_te Y L s) hte.2
        refine g_aload_n 44 dX0_read_43 rfl rfl ?_
        refine g_iload 46 dX0_read_44 rfl rfl ?_
        refine g_Si 49 [_, _] _ dX0_read_46 rfl m_X0_behindToken l_X0_32 rfl (c_te hY hT hs) rfl (Nat.le_of_ble_eq_true rfl) (by decide) (fun v46 μ46 ρ46 hc9 => ?_)
        obtain ⟨rfl, rfl, rfl⟩ := hc9
        refine g_istore 51 dX0_read_49 rfl (by decide) ?_
        refine g_aload_n 52 dX0_read_51 rfl rfl ?_
        refine g_aload_n 53 dX0_read_52 rfl rfl ?_
        refine g_aload_n 54 dX0_read_53 rfl rfl ?_
        refine g_iload 56 dX0_read_54 rfl rfl ?_
        refine g_iload 58 dX0_read_56 rfl rfl ?_
        refine g_iload_n 59 dX0_read_58 rfl rfl ?_
        refine g_aload_n 60 dX0_read_59 rfl rfl ?_
        refine g_Vi 63 [_, _, _, _, _] _ dX0_read_60 rfl m_X0_faultOf l_X0_35 rfl rfl rfl (by decide) (c_fo hY hT hs hr hsl hi hF) rfl (Nat.le_of_ble_eq_true rfl) (by decide) (fun v60 μ60 ρ60 hc9 => ?_)
        obtain ⟨rfl, rfl, hfr, hcf⟩ := hc9
        have hf9 : q_fc r μ0 (q_up μ60 10 0 (nI (q_stp Y L slot s w).1)) := fun c j q1 q2 => by rw [q_upc q1, hfr c j (Or.inl q1) q2]; exact hfc c j q1 q2
        have hT9 := q_TC_fc hr hT0 hf9
        have hk3 := q_kle (Y := Y) (L := L) (s := s) (w := w) hsl
        refine g_putI 66 dX0_read_63 rfl f_X0_20 (by decide) rfl rfl (Or.inl rfl) ?_
        refine g_aload_n 67 dX0_read_66 rfl rfl ?_
        refine g_getI 70 dX0_read_67 rfl f_X0_20 (by decide) rfl rfl ?_
        rw [q_ups]
        refine g_if_eq 81 73 dX0_read_70 rfl (by decide) (fun h70 => ?_) (fun h70 => ?_)
        · refine g_iload_n 82 dX0_read_81 rfl rfl ?_
          refine g_iconst 83 1 dX0_read_82 rfl (by decide) ?_
          refine g_iadd 84 dX0_read_83 rfl ?_
          rw [nI_1]
          refine g_bipush 86 9 dX0_read_84 rfl (by decide) ?_
          refine g_irem 87 dX0_read_86 rfl (by decide) ?_
          rw [show nI (slot + 1) - nI (slot + 1) / 9 * 9 = nI ((slot + 1) % 9) from pk_rem (d := 9) (by omega) (by decide) (by decide)]
          refine g_istore_n 88 dX0_read_87 rfl (by decide) ?_
          refine g_aload_n 89 dX0_read_88 rfl rfl ?_
          refine g_iload 91 dX0_read_89 rfl rfl ?_
          refine g_Si 94 [_, _] _ dX0_read_91 rfl m_X0_behindBlanks l_X0_23 rfl (c_bl hY hT9 hte.2) rfl (Nat.le_of_ble_eq_true rfl) (by decide) (fun v91 μ91 ρ91 hc9 => ?_)
          obtain ⟨rfl, rfl, rfl⟩ := hc9
          refine g_istore 96 dX0_read_94 rfl (by decide) ?_
          refine g_iinc 99 (_ + 1) dX0_read_96 rfl rfl rfl (by decide) ?_
          refine g_goto 26 dX0_read_99 (by decide) ?_
          have hk9 : (q_stp Y L slot s w).1 = 0 := (nI_eq (b := 0) (by omega) (by omega)).mp h70
          rw [nI_1]
          refine g_lv [(0, _), (1, _), (2, _), (3, _), (4, _), (5, _)] rfl ?_
          rw [q_rd_go hs hk9]
          refine ih (t + 1) (by omega) _ _ _ _ (Nat.mod_lt _ (by decide)) hsk.2 (by omega) (q_iv_s hsl hi hk9) (q_CF_same hr (q_CF_le (Nat.mod_le _ _) (hcf hk9)) (fun c j q => q_upo (by omega))) (by rw [q_ups, hk9]; rfl) ?_ hf9
          rw [q_upo (by decide), hfr 10 1 (Or.inr (by decide)) (by omega)]
          exact hp0
        · refine g_aload_n 74 dX0_read_73 rfl rfl ?_
          refine g_iload 76 dX0_read_74 rfl rfl ?_
          refine g_putI 79 dX0_read_76 rfl f_X0_9 (by decide) rfl rfl (Or.inl rfl) ?_
          refine g_iconst 80 0 dX0_read_79 rfl (by decide) ?_
          exact g_rz dX0_read_80 rfl (by first | exact Or.inl rfl | exact Or.inr rfl | assumption) rfl (q_RQ_bad hs (fun q => h70 (by rw [q]; rfl)) hfc hfr)
def q_w0 : q_W := (0, 0, 0, 0, q_B0)
theorem q_iv0 : q_iv 0 q_w0 := ⟨fun q => absurd q (by decide), fun q => absurd q (by decide), fun q => absurd q (by decide), fun q => absurd q (by decide), q_WF0⟩
theorem q_fc0 : q_fc r μ (q_up (q_up (q_up (q_cl μ r 7) r 4 0) 10 0 0) 10 1 (-1)) := fun c j h1 h2 => by
  rw [q_upc h1, q_upc h1, q_upc (by omega)]
  exact if_neg (by omega)
theorem q_CF0 (hr : r = 70 ∨ r = 96) : q_CF r 0 (q_up (q_up (q_up (q_cl μ r 7) r 4 0) 10 0 0) 10 1 (-1)) q_w0 := ⟨fun q => absurd q (by decide), fun q => absurd q (by decide), fun q => absurd q (by decide), fun q => absurd q (by decide), (q_cl_RB (μ := μ) (r := r)).same (fun c j h1 h2 => by rw [q_upc (by omega), q_upc (by omega)])⟩
set_option maxRecDepth 100000 in
set_option maxHeartbeats 4000000 in
theorem c_read (hY : q_TY Y L) (hT : q_TC μ Y L) (hr : r = 70 ∨ r = 96) : q_Ct C l FX0_read 6 142 142 [.ref (q_a C 10), .ref (q_a C 8), .ref (q_a C r)] μ (q_ρ b) (q_PI (q_RQ r b μ (q_rd Y L 600 0 (q_sk Y L 0) q_w0))) := by
  have hkr : q_kd r = (5, 5) := by rcases hr with rfl | rfl <;> rfl
  refine q_entry rfl (by decide) (Nat.le_of_ble_eq_true rfl) ?_
  refine g_lv [(0, _), (1, _), (2, _)] rfl ?_
  refine g_aload_n 1 dX0_read_0 rfl rfl ?_
  refine g_Vv 4 [] _ dX0_read_1 rfl m_X5_clear l_X0_15 rfl hkr rfl (by omega) (c_clear hr) rfl (Nat.le_of_ble_eq_true rfl) (by decide) (fun μ1 ρ1 hc9 => ?_)
  obtain ⟨rfl, rfl⟩ := hc9
  refine g_aload_n 5 dX0_read_4 rfl rfl ?_
  refine g_iconst 6 0 dX0_read_5 rfl (by decide) ?_
  refine g_putI 9 dX0_read_6 rfl f_X0_20 (by decide) rfl rfl (Or.inl rfl) ?_
  refine g_aload_n 10 dX0_read_9 rfl rfl ?_
  refine g_iconst 11 (-1) dX0_read_10 rfl (by decide) ?_
  refine g_putI 14 dX0_read_11 rfl f_X0_9 (by decide) rfl rfl (Or.inl rfl) ?_
  refine g_iconst 15 0 dX0_read_14 rfl (by decide) ?_
  refine g_istore_n 16 dX0_read_15 rfl (by decide) ?_
  refine g_aload_n 17 dX0_read_16 rfl rfl ?_
  refine g_iconst 18 0 dX0_read_17 rfl (by decide) ?_
  refine g_Si 21 [_, _] _ dX0_read_18 rfl m_X0_behindBlanks l_X0_23 rfl (c_bl (p := 0) hY (q_TC_fc hr hT q_fc0) (Nat.zero_le _)) rfl (Nat.le_of_ble_eq_true rfl) (by decide) (fun v18 μ18 ρ18 hc9 => ?_)
  obtain ⟨rfl, rfl, rfl⟩ := hc9
  refine g_istore 23 dX0_read_21 rfl (by decide) ?_
  refine g_iconst 24 0 dX0_read_23 rfl (by decide) ?_
  refine g_istore 26 dX0_read_24 rfl (by decide) ?_
  refine g_lv [(0, _), (1, _), (2, _), (3, .int 0), (4, _), (5, .int 0)] rfl ?_
  exact lp_read hY hT hr 600 0 (by omega) _ 0 _ q_w0 (by decide) (q_sk_ge (Nat.zero_le _)).2 (Nat.zero_le _) q_iv0 (q_CF0 hr) (by rw [q_upo (by decide), q_ups]) (by rw [q_ups]) q_fc0
theorem q_swap (x y : Nat) (hx : x = bif b then 70 else 96) (hy : y = bif b then 96 else 70) : q_up (q_up (q_ρ b) 0 7 (some x)) 0 8 (some y) = q_ρ (!b) := by
  subst hx hy
  funext c j
  by_cases hc : c = 0
  · subst hc
    by_cases h8 : j = 8
    · subst h8; cases b <;> rfl
    · rw [q_upo (fun q => h8 q.2)]
      by_cases h7 : j = 7
      · subst h7; cases b <;> rfl
      · rw [q_upo (fun q => h7 q.2)]
        have h9 : j = 0 ∨ j = 1 ∨ j = 2 ∨ j = 3 ∨ j = 4 ∨ j = 5 ∨ j = 6 ∨ ∃ k, j = k + 9 := by
          by_cases h6 : j ≤ 6
          · omega
          · exact Or.inr (Or.inr (Or.inr (Or.inr (Or.inr (Or.inr (Or.inr ⟨j - 9, by omega⟩))))))
        rcases h9 with rfl | rfl | rfl | rfl | rfl | rfl | rfl | ⟨k, rfl⟩ <;> rfl
  · rw [q_upc hc, q_upc hc]
    unfold q_ρ
    split <;> first | rfl | omega
def q_BQ (r : Nat) (b : Bool) (μ : q_M) (R : Nat × Nat × q_B) (v : Int32) (μ' : q_M) (ρ' : q_R) : Prop := (if R.1 = 0 then q_ρ (!b) else q_ρ b) = ρ' ∧ (if R.1 = 0 then nI (q_tot R.2.2) else -1) = v ∧ μ' 8 1 = 0 ∧ μ' 10 0 = nI R.1 ∧ μ' 10 1 = (if R.1 = 0 then -1 else nI R.2.1) ∧ (R.1 = 0 → q_RB r μ' R.2.2) ∧ μ' 0 9 = (if R.1 = 0 then 1 else μ 0 9) ∧ ∀ c j, c ≠ 10 → ¬ (r ≤ c ∧ c < r + 26) → ¬ (c = 8 ∧ j = 1) → ¬ (c = 0 ∧ j = 9) → μ' c j = μ c j
theorem q_BQ_bad {R : Nat × Nat × q_B} {μ' : q_M} (h25 : (if R.1 = 0 then (1 : Int32) else 0) = 0) (hr : r = 70 ∨ r = 96) (hk0 : μ' 10 0 = nI R.1) (hp0 : μ' 10 1 = if R.1 = 0 then -1 else nI R.2.1) (hfc : q_fc r μ μ') : q_BQ r b μ R (-1) (q_up μ' 8 1 0) (q_ρ b) := by
  have e9 : ¬ R.1 = 0 := fun q => by rw [if_pos q] at h25; exact absurd h25 (by decide)
  refine ⟨if_neg e9, if_neg e9, q_ups, by rw [q_upc (by decide)]; exact hk0, by rw [q_upc (by decide)]; exact hp0, fun q => absurd q e9, ?_, fun c j q1 q2 q3 q4 => ?_⟩
  · rw [q_upc (by decide), hfc 0 9 (by decide) (by omega), if_neg e9]
  · rw [q_upo q3]; exact hfc c j q1 q2
theorem q_BQ_ok {R : Nat × Nat × q_B} {μ' : q_M} {ρ' : q_R} {v : Int32} (h25 : ¬ (if R.1 = 0 then (1 : Int32) else 0) = 0) (hr : r = 70 ∨ r = 96) (hk0 : μ' 10 0 = nI R.1) (hp0 : μ' 10 1 = if R.1 = 0 then -1 else nI R.2.1) (hfc : q_fc r μ μ') (hrb : R.1 = 0 → q_RB r μ' R.2.2) (hρ : ρ' = q_ρ (!b)) (hv : v = q_up (q_up μ' 8 1 0) 0 9 1 r 4) : q_BQ r b μ R v (q_up (q_up μ' 8 1 0) 0 9 1) ρ' := by
  have e9 : R.1 = 0 := Classical.not_not.mp (fun q => h25 (if_neg q))
  have hb9 := hrb e9
  refine ⟨?_, ?_, ?_, ?_, ?_, fun _ => ?_, ?_, fun c j q1 q2 q3 q4 => ?_⟩
  · rw [if_pos e9]; exact hρ.symm
  · rw [if_pos e9, hv, q_upc (by omega), q_upc (by omega)]; exact hb9.2.2.symm
  · rw [q_upc (by decide), q_ups]
  · rw [q_upc (by decide), q_upc (by decide)]; exact hk0
  · rw [q_upc (by decide), q_upc (by decide)]; exact hp0
  · exact hb9.same (fun c j h1 h2 => by rw [q_upc (by omega), q_upc (by omega)])
  · rw [q_ups, if_pos e9]
  · rw [q_upo q4, q_upo q3]; exact hfc c j q1 q2
set_option maxRecDepth 100000 in
set_option maxHeartbeats 4000000 in
theorem c_book_false (hY : q_TY Y L) (hT : q_TC μ Y L) : q_Ct C l FX7_book 7 142 142 [.ref (q_a C 0)] μ (q_ρ false) (q_PI (q_BQ 96 false μ (q_rd Y L 600 0 (q_sk Y L 0) q_w0))) := by
  refine q_entry rfl (by decide) (Nat.le_of_ble_eq_true rfl) ?_
  refine g_lv [(0, _)] rfl ?_
  refine g_aload_n 1 dX7_book_0 rfl rfl ?_
  refine g_getR 4 _ dX7_book_1 rfl f_X7_33 (by decide) rfl rfl rfl ?_
  refine g_aload_n 5 dX7_book_4 rfl rfl ?_
  refine g_getR 8 _ dX7_book_5 rfl f_X7_26 (by decide) rfl rfl rfl ?_
  refine g_aload_n 9 dX7_book_8 rfl rfl ?_
  refine g_getR 12 _ dX7_book_9 rfl f_X7_62 (by decide) rfl rfl rfl ?_
  refine g_Vi 15 [_, _] _ dX7_book_12 rfl m_X0_read l_X7_117 rfl rfl rfl (by decide) (c_read (r := 96) (b := false) hY hT (by decide)) rfl (Nat.le_of_ble_eq_true rfl) (by decide) (fun v12 μ12 ρ12 hc9 => ?_)
  obtain ⟨rfl, rfl, hk0, hp0, hrb, hfc⟩ := hc9
  refine g_istore_n 16 dX7_book_15 rfl (by decide) ?_
  refine g_aload_n 17 dX7_book_16 rfl rfl ?_
  refine g_getR 20 _ dX7_book_17 rfl f_X7_26 (by decide) rfl rfl rfl ?_
  refine g_iconst 21 0 dX7_book_20 rfl (by decide) ?_
  refine g_putI 24 dX7_book_21 rfl f_X7_109 (by decide) rfl rfl (Or.inl rfl) ?_
  refine g_iload_n 25 dX7_book_24 rfl rfl ?_
  refine g_if_ne 30 28 dX7_book_25 rfl (by decide) (fun h25 => ?_) (fun h25 => ?_)
  · refine g_aload_n 31 dX7_book_30 rfl rfl ?_
    refine g_getR 34 _ dX7_book_31 rfl f_X7_58 (by decide) rfl rfl rfl ?_
    refine g_astore_n 35 dX7_book_34 rfl (by decide) ?_
    refine g_aload_n 36 dX7_book_35 rfl rfl ?_
    refine g_aload_n 37 dX7_book_36 rfl rfl ?_
    refine g_getR 40 _ dX7_book_37 rfl f_X7_62 (by decide) rfl rfl rfl ?_
    refine g_putR 43 dX7_book_40 rfl f_X7_58 (by decide) rfl rfl (Or.inl rfl) rfl ?_
    refine g_aload_n 44 dX7_book_43 rfl rfl ?_
    refine g_aload_n 45 dX7_book_44 rfl rfl ?_
    refine g_putR 48 dX7_book_45 rfl f_X7_62 (by decide) rfl rfl (Or.inl rfl) rfl ?_
    refine g_aload_n 49 dX7_book_48 rfl rfl ?_
    refine g_iconst 50 1 dX7_book_49 rfl (by decide) ?_
    refine g_putZ 53 dX7_book_50 rfl f_X7_65 (by decide) rfl rfl (by decide) ?_
    refine g_aload_n 54 dX7_book_53 rfl rfl ?_
    refine g_getR 57 _ dX7_book_54 rfl f_X7_58 (by decide) rfl rfl rfl ?_
    refine g_getI 60 dX7_book_57 rfl f_X7_121 (by decide) rfl rfl ?_
    exact g_ri dX7_book_60 rfl rfl (q_BQ_ok h25 (by decide) hk0 hp0 hfc hrb (q_swap (b := false) 96 70 rfl rfl) rfl)
  · refine g_iconst 29 (-1) dX7_book_28 rfl (by decide) ?_
    exact g_ri dX7_book_29 rfl rfl (q_BQ_bad h25 (by decide) hk0 hp0 hfc)
set_option maxRecDepth 100000 in
set_option maxHeartbeats 4000000 in
theorem c_book_true (hY : q_TY Y L) (hT : q_TC μ Y L) : q_Ct C l FX7_book 7 142 142 [.ref (q_a C 0)] μ (q_ρ true) (q_PI (q_BQ 70 true μ (q_rd Y L 600 0 (q_sk Y L 0) q_w0))) := by
  refine q_entry rfl (by decide) (Nat.le_of_ble_eq_true rfl) ?_
  refine g_lv [(0, _)] rfl ?_
  refine g_aload_n 1 dX7_book_0 rfl rfl ?_
  refine g_getR 4 _ dX7_book_1 rfl f_X7_33 (by decide) rfl rfl rfl ?_
  refine g_aload_n 5 dX7_book_4 rfl rfl ?_
  refine g_getR 8 _ dX7_book_5 rfl f_X7_26 (by decide) rfl rfl rfl ?_
  refine g_aload_n 9 dX7_book_8 rfl rfl ?_
  refine g_getR 12 _ dX7_book_9 rfl f_X7_62 (by decide) rfl rfl rfl ?_
  refine g_Vi 15 [_, _] _ dX7_book_12 rfl m_X0_read l_X7_117 rfl rfl rfl (by decide) (c_read (r := 70) (b := true) hY hT (by decide)) rfl (Nat.le_of_ble_eq_true rfl) (by decide) (fun v12 μ12 ρ12 hc9 => ?_)
  obtain ⟨rfl, rfl, hk0, hp0, hrb, hfc⟩ := hc9
  refine g_istore_n 16 dX7_book_15 rfl (by decide) ?_
  refine g_aload_n 17 dX7_book_16 rfl rfl ?_
  refine g_getR 20 _ dX7_book_17 rfl f_X7_26 (by decide) rfl rfl rfl ?_
  refine g_iconst 21 0 dX7_book_20 rfl (by decide) ?_
  refine g_putI 24 dX7_book_21 rfl f_X7_109 (by decide) rfl rfl (Or.inl rfl) ?_
  refine g_iload_n 25 dX7_book_24 rfl rfl ?_
  refine g_if_ne 30 28 dX7_book_25 rfl (by decide) (fun h25 => ?_) (fun h25 => ?_)
  · refine g_aload_n 31 dX7_book_30 rfl rfl ?_
    refine g_getR 34 _ dX7_book_31 rfl f_X7_58 (by decide) rfl rfl rfl ?_
    refine g_astore_n 35 dX7_book_34 rfl (by decide) ?_
    refine g_aload_n 36 dX7_book_35 rfl rfl ?_
    refine g_aload_n 37 dX7_book_36 rfl rfl ?_
    refine g_getR 40 _ dX7_book_37 rfl f_X7_62 (by decide) rfl rfl rfl ?_
    refine g_putR 43 dX7_book_40 rfl f_X7_58 (by decide) rfl rfl (Or.inl rfl) rfl ?_
    refine g_aload_n 44 dX7_book_43 rfl rfl ?_
    refine g_aload_n 45 dX7_book_44 rfl rfl ?_
    refine g_putR 48 dX7_book_45 rfl f_X7_62 (by decide) rfl rfl (Or.inl rfl) rfl ?_
    refine g_aload_n 49 dX7_book_48 rfl rfl ?_
    refine g_iconst 50 1 dX7_book_49 rfl (by decide) ?_
    refine g_putZ 53 dX7_book_50 rfl f_X7_65 (by decide) rfl rfl (by decide) ?_
    refine g_aload_n 54 dX7_book_53 rfl rfl ?_
    refine g_getR 57 _ dX7_book_54 rfl f_X7_58 (by decide) rfl rfl rfl ?_
    refine g_getI 60 dX7_book_57 rfl f_X7_121 (by decide) rfl rfl ?_
    exact g_ri dX7_book_60 rfl rfl (q_BQ_ok h25 (by decide) hk0 hp0 hfc hrb (q_swap (b := true) 70 96 rfl rfl) rfl)
  · refine g_iconst 29 (-1) dX7_book_28 rfl (by decide) ?_
    exact g_ri dX7_book_29 rfl rfl (q_BQ_bad h25 (by decide) hk0 hp0 hfc)
theorem c_book (hY : q_TY Y L) (hT : q_TC μ Y L) : q_Ct C l FX7_book 7 142 142 [.ref (q_a C 0)] μ (q_ρ b) (q_PI (q_BQ (bif b then 70 else 96) b μ (q_rd Y L 600 0 (q_sk Y L 0) q_w0))) := by
  cases b
  · exact c_book_false hY hT
  · exact c_book_true hY hT
end RE
