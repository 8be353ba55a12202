/-! ===== feed ===== -/
/-- the k-th byte of a number, the highest first -/
def q_byt (x : Int32) (k : Nat) : Int32 := (x >>> (nI (24 - 8 * k) &&& 31)).toInt8.toInt32
def q_ap (μ : q_M) (L : Nat) (x : Int32) : q_M := fun c j => if c = 9 ∧ L ≤ j ∧ j < L + 4 then q_byt x (j - L) else if c = 8 ∧ j = 1 then nI (L + 4) else μ c j
theorem q_b8 (y : Int32) : y.toInt8.toInt32.toInt8.toInt32 = y.toInt8.toInt32 := by rw [← vp_nar_byte, pk_vb]
theorem q_ap_eq {μ : q_M} {L : Nat} {x a0 a1 a2 a3 : Int32} (h0 : a0 = q_byt x 0) (h1 : a1 = q_byt x 1) (h2 : a2 = q_byt x 2) (h3 : a3 = q_byt x 3) :
    q_up (q_up (q_up (q_up (q_up (q_up (q_up (q_up μ 9 L a0) 8 1 (nI (L + 1))) 9 (L + 1) a1) 8 1 (nI (L + 1 + 1))) 9 (L + 1 + 1) a2) 8 1 (nI (L + 1 + 1 + 1))) 9 (L + 1 + 1 + 1) a3) 8 1 (nI (L + 1 + 1 + 1 + 1)) = q_ap μ L x := by
  subst h0 h1 h2 h3
  funext c j
  unfold q_ap
  by_cases h9 : c = 9
  · subst h9
    have e8 : ¬ ((9 : Nat) = 8 ∧ j = 1) := by omega
    simp only [q_up, e8, if_false, true_and]
    by_cases g3 : j = L + 1 + 1 + 1
    · rw [if_pos g3, if_pos (by omega), show j - L = 3 by omega]
    · rw [if_neg g3]
      by_cases g2 : j = L + 1 + 1
      · rw [if_pos g2, if_pos (by omega), show j - L = 2 by omega]
      · rw [if_neg g2]
        by_cases g1 : j = L + 1
        · rw [if_pos g1, if_pos (by omega), show j - L = 1 by omega]
        · rw [if_neg g1]
          by_cases g0 : j = L
          · rw [if_pos g0, if_pos (by omega), show j - L = 0 by omega]
          · rw [if_neg g0, if_neg (by omega)]
  · rw [if_neg (fun q => h9 q.1)]
    by_cases h8 : c = 8 ∧ j = 1
    · rw [if_pos h8, q_up, if_pos h8]
    · rw [if_neg h8]
      simp [q_up, h9, h8]
def q_arg (a b c d e : Int32) (i : Nat) : Int32 := if i < 4 then a else if i < 8 then b else if i < 12 then c else if i < 16 then d else e
def q_mb (a b c d e : Int32) (i : Nat) : Int32 := (q_arg a b c d e i >>> (nI (24 - 8 * (i % 4)) &&& 31)) &&& 255
def q_mf (μ : q_M) (L : Nat) (g : Nat → Int32) (k : Nat) : q_M := fun c j => if c = 133 ∧ L ≤ j ∧ j < L + k then g (j - L) else if c = 122 ∧ j = 12 then nI (L + k) else μ c j
theorem q_mf_0 {μ : q_M} {L : Nat} {g : Nat → Int32} (h : μ 122 12 = nI L) : q_mf μ L g 0 = μ := by
  funext c j
  unfold q_mf
  rw [if_neg (by omega)]
  by_cases e : c = 122 ∧ j = 12
  · rw [if_pos e, e.1, e.2, h]
    rfl
  · rw [if_neg e]
theorem q_mf_s {μ : q_M} {L k : Nat} {g : Nat → Int32} {v : Int32} (h : v = g k) : q_up (q_up (q_mf μ L g k) 133 (L + k) v) 122 12 (nI (L + k + 1)) = q_mf μ L g (k + 1) := by
  subst h
  funext c j
  unfold q_mf q_up
  by_cases e : c = 122 ∧ j = 12
  · rw [if_pos e, if_neg (by omega), if_pos e]
    rfl
  · rw [if_neg e]
    by_cases e2 : c = 133 ∧ j = L + k
    · rw [if_pos e2, if_pos (by omega), show j - L = k by omega]
    · rw [if_neg e2, if_neg e]
      dsimp only
      by_cases e3 : c = 133 ∧ L ≤ j ∧ j < L + k
      · rw [if_pos e3, if_pos (by omega)]
      · rw [if_neg e3, if_neg e, if_neg (by omega)]
theorem q_mf_t {μ : q_M} {L k : Nat} {g : Nat → Int32} : q_mf μ L g k 122 12 = nI (L + k) := by simp [q_mf]
section FD
variable {C : q_C} {l : Launch} {μ : q_M} {b : Bool}
set_option maxRecDepth 100000 in
set_option maxHeartbeats 4000000 in
theorem c_append {L : Nat} (x : Int32) (hL : L + 4 ≤ 600) (hl : μ 8 1 = nI L) : q_Ct C l FX6_append 0 142 142 [.ref (q_a C 8), .int x] μ (q_ρ b) (q_to (q_ap μ L x) (q_ρ b)) := by
  refine q_entry rfl (by decide) (Nat.le_of_ble_eq_true rfl) ?_
  refine g_lv [(0, _), (1, _)] rfl ?_
  refine g_bipush 2 24 dX6_append_0 rfl (by decide) ?_
  refine g_istore_n 3 dX6_append_2 rfl (by decide) ?_
  refine g_iload_n 4 dX6_append_3 rfl rfl ?_
  refine g_if_lt 46 7 dX6_append_4 rfl (by decide) (fun h4 => ?_) (fun h4 => ?_)
  · exact absurd h4 (by decide)
  · refine g_aload_n 8 dX6_append_7 rfl rfl ?_
    refine g_getI 11 dX6_append_8 rfl f_X6_15 (by decide) rfl rfl ?_
    rw [hl]
    refine g_sipush 14 600 dX6_append_11 rfl (by decide) ?_
    refine g_icmp_ge 46 17 dX6_append_14 rfl (by decide) (fun h14 => ?_) (fun h14 => ?_)
    · exact absurd h14 (nI_ge (a := L) (b := 600) (by omega) (by omega))
    · refine g_aload_n 18 dX6_append_17 rfl rfl ?_
      refine g_getR 21 _ dX6_append_18 rfl f_X6_9 (by decide) rfl rfl rfl ?_
      refine g_aload_n 22 dX6_append_21 rfl rfl ?_
      refine g_getI 25 dX6_append_22 rfl f_X6_15 (by decide) rfl rfl ?_
      rw [hl]
      refine g_iload_n 26 dX6_append_25 rfl rfl ?_
      refine g_iload_n 27 dX6_append_26 rfl rfl ?_
      refine g_ishr 28 dX6_append_27 rfl ?_
      refine g_i2b 29 dX6_append_28 rfl ?_
      refine g_bast 30 dX6_append_29 rfl (by decide) rfl (vp_in_nI (show L < 600 by omega) (by omega)) ?_
      rw [nI_clamp (show L < 2 ^ 31 by omega)]
      refine g_aload_n 31 dX6_append_30 rfl rfl ?_
      refine g_dup 32 dX6_append_31 rfl rfl ?_
      refine g_getI 35 dX6_append_32 rfl f_X6_15 (by decide) rfl rfl ?_
      rw [q_upc (by decide), hl]
      refine g_iconst 36 1 dX6_append_35 rfl (by decide) ?_
      refine g_iadd 37 dX6_append_36 rfl ?_
      rw [nI_1]
      refine g_putI 40 dX6_append_37 rfl f_X6_15 (by decide) rfl rfl (Or.inl rfl) ?_
      refine g_iinc 43 (_ + (-8)) dX6_append_40 rfl rfl rfl (by decide) ?_
      refine g_goto 3 dX6_append_43 (by decide) ?_
      rw [show (24 : Int32) + -8 = 16 from by decide]
      refine g_iload_n 4 dX6_append_3 rfl rfl ?_
      refine g_if_lt 46 7 dX6_append_4 rfl (by decide) (fun h4 => ?_) (fun h4 => ?_)
      · exact absurd h4 (by decide)
      · refine g_aload_n 8 dX6_append_7 rfl rfl ?_
        refine g_getI 11 dX6_append_8 rfl f_X6_15 (by decide) rfl rfl ?_
        rw [q_ups]
        refine g_sipush 14 600 dX6_append_11 rfl (by decide) ?_
        refine g_icmp_ge 46 17 dX6_append_14 rfl (by decide) (fun h14 => ?_) (fun h14 => ?_)
        · exact absurd h14 (nI_ge (a := L + 1) (b := 600) (by omega) (by omega))
        · refine g_aload_n 18 dX6_append_17 rfl rfl ?_
          refine g_getR 21 _ dX6_append_18 rfl f_X6_9 (by decide) rfl rfl rfl ?_
          refine g_aload_n 22 dX6_append_21 rfl rfl ?_
          refine g_getI 25 dX6_append_22 rfl f_X6_15 (by decide) rfl rfl ?_
          rw [q_ups]
          refine g_iload_n 26 dX6_append_25 rfl rfl ?_
          refine g_iload_n 27 dX6_append_26 rfl rfl ?_
          refine g_ishr 28 dX6_append_27 rfl ?_
          refine g_i2b 29 dX6_append_28 rfl ?_
          refine g_bast 30 dX6_append_29 rfl (by decide) rfl (vp_in_nI (show L + 1 < 600 by omega) (by omega)) ?_
          rw [nI_clamp (show L + 1 < 2 ^ 31 by omega)]
          refine g_aload_n 31 dX6_append_30 rfl rfl ?_
          refine g_dup 32 dX6_append_31 rfl rfl ?_
          refine g_getI 35 dX6_append_32 rfl f_X6_15 (by decide) rfl rfl ?_
          rw [q_upc (by decide), q_ups]
          refine g_iconst 36 1 dX6_append_35 rfl (by decide) ?_
          refine g_iadd 37 dX6_append_36 rfl ?_
          rw [nI_1]
          refine g_putI 40 dX6_append_37 rfl f_X6_15 (by decide) rfl rfl (Or.inl rfl) ?_
          refine g_iinc 43 (_ + (-8)) dX6_append_40 rfl rfl rfl (by decide) ?_
          refine g_goto 3 dX6_append_43 (by decide) ?_
          rw [show (16 : Int32) + -8 = 8 from by decide]
          refine g_iload_n 4 dX6_append_3 rfl rfl ?_
          refine g_if_lt 46 7 dX6_append_4 rfl (by decide) (fun h4 => ?_) (fun h4 => ?_)
          · exact absurd h4 (by decide)
          · refine g_aload_n 8 dX6_append_7 rfl rfl ?_
            refine g_getI 11 dX6_append_8 rfl f_X6_15 (by decide) rfl rfl ?_
            rw [q_ups]
            refine g_sipush 14 600 dX6_append_11 rfl (by decide) ?_
            refine g_icmp_ge 46 17 dX6_append_14 rfl (by decide) (fun h14 => ?_) (fun h14 => ?_)
            · exact absurd h14 (nI_ge (a := L + 1 + 1) (b := 600) (by omega) (by omega))
            · refine g_aload_n 18 dX6_append_17 rfl rfl ?_
              refine g_getR 21 _ dX6_append_18 rfl f_X6_9 (by decide) rfl rfl rfl ?_
              refine g_aload_n 22 dX6_append_21 rfl rfl ?_
              refine g_getI 25 dX6_append_22 rfl f_X6_15 (by decide) rfl rfl ?_
              rw [q_ups]
              refine g_iload_n 26 dX6_append_25 rfl rfl ?_
              refine g_iload_n 27 dX6_append_26 rfl rfl ?_
              refine g_ishr 28 dX6_append_27 rfl ?_
              refine g_i2b 29 dX6_append_28 rfl ?_
              refine g_bast 30 dX6_append_29 rfl (by decide) rfl (vp_in_nI (show L + 1 + 1 < 600 by omega) (by omega)) ?_
              rw [nI_clamp (show L + 1 + 1 < 2 ^ 31 by omega)]
              refine g_aload_n 31 dX6_append_30 rfl rfl ?_
              refine g_dup 32 dX6_append_31 rfl rfl ?_
              refine g_getI 35 dX6_append_32 rfl f_X6_15 (by decide) rfl rfl ?_
              rw [q_upc (by decide), q_ups]
              refine g_iconst 36 1 dX6_append_35 rfl (by decide) ?_
              refine g_iadd 37 dX6_append_36 rfl ?_
              rw [nI_1]
              refine g_putI 40 dX6_append_37 rfl f_X6_15 (by decide) rfl rfl (Or.inl rfl) ?_
              refine g_iinc 43 (_ + (-8)) dX6_append_40 rfl rfl rfl (by decide) ?_
              refine g_goto 3 dX6_append_43 (by decide) ?_
              rw [show (8 : Int32) + -8 = 0 from by decide]
              refine g_iload_n 4 dX6_append_3 rfl rfl ?_
              refine g_if_lt 46 7 dX6_append_4 rfl (by decide) (fun h4 => ?_) (fun h4 => ?_)
              · exact absurd h4 (by decide)
              · refine g_aload_n 8 dX6_append_7 rfl rfl ?_
                refine g_getI 11 dX6_append_8 rfl f_X6_15 (by decide) rfl rfl ?_
                rw [q_ups]
                refine g_sipush 14 600 dX6_append_11 rfl (by decide) ?_
                refine g_icmp_ge 46 17 dX6_append_14 rfl (by decide) (fun h14 => ?_) (fun h14 => ?_)
                · exact absurd h14 (nI_ge (a := L + 1 + 1 + 1) (b := 600) (by omega) (by omega))
                · refine g_aload_n 18 dX6_append_17 rfl rfl ?_
                  refine g_getR 21 _ dX6_append_18 rfl f_X6_9 (by decide) rfl rfl rfl ?_
                  refine g_aload_n 22 dX6_append_21 rfl rfl ?_
                  refine g_getI 25 dX6_append_22 rfl f_X6_15 (by decide) rfl rfl ?_
                  rw [q_ups]
                  refine g_iload_n 26 dX6_append_25 rfl rfl ?_
                  refine g_iload_n 27 dX6_append_26 rfl rfl ?_
                  refine g_ishr 28 dX6_append_27 rfl ?_
                  refine g_i2b 29 dX6_append_28 rfl ?_
                  refine g_bast 30 dX6_append_29 rfl (by decide) rfl (vp_in_nI (show L + 1 + 1 + 1 < 600 by omega) (by omega)) ?_
                  rw [nI_clamp (show L + 1 + 1 + 1 < 2 ^ 31 by omega)]
                  refine g_aload_n 31 dX6_append_30 rfl rfl ?_
                  refine g_dup 32 dX6_append_31 rfl rfl ?_
                  refine g_getI 35 dX6_append_32 rfl f_X6_15 (by decide) rfl rfl ?_
                  rw [q_upc (by decide), q_ups]
                  refine g_iconst 36 1 dX6_append_35 rfl (by decide) ?_
                  refine g_iadd 37 dX6_append_36 rfl ?_
                  rw [nI_1]
                  refine g_putI 40 dX6_append_37 rfl f_X6_15 (by decide) rfl rfl (Or.inl rfl) ?_
                  refine g_iinc 43 (_ + (-8)) dX6_append_40 rfl rfl rfl (by decide) ?_
                  refine g_goto 3 dX6_append_43 (by decide) ?_
                  rw [show (0 : Int32) + -8 = -8 from by decide]
                  refine g_iload_n 4 dX6_append_3 rfl rfl ?_
                  refine g_if_lt 46 7 dX6_append_4 rfl (by decide) (fun h4 => ?_) (fun h4 => ?_)
                  · exact g_rv dX6_append_46 rfl rfl ⟨by rw [q_b8, q_b8, q_b8, q_b8]; exact (q_ap_eq rfl rfl rfl rfl).symm, rfl⟩
                  · exact absurd (by decide) h4
theorem q_ap_t {μ : q_M} {L : Nat} {x : Int32} : q_ap μ L x 8 1 = nI (L + 4) := by simp [q_ap]
set_option maxRecDepth 100000 in
set_option maxHeartbeats 4000000 in
theorem c_feed_y {L : Nat} (a b2 c d2 e : Int32) (hL : L + 20 ≤ 600) (hl : μ 8 1 = nI L) : q_Ct C l FX7_feed 1 142 142 [.ref (q_a C 0), .int a, .int b2, .int c, .int d2, .int e] μ (q_ρ b) (q_is (nI (L + 4 + 4 + 4 + 4 + 4)) (q_ap (q_ap (q_ap (q_ap (q_ap μ L a) (L + 4) b2) (L + 4 + 4) c) (L + 4 + 4 + 4) d2) (L + 4 + 4 + 4 + 4) e) (q_ρ b)) := by
  refine q_entry rfl (by decide) (Nat.le_of_ble_eq_true rfl) ?_
  refine g_lv [(0, _), (1, _), (2, _), (3, _), (4, _), (5, _)] rfl ?_
  refine g_aload_n 1 dX7_feed_0 rfl rfl ?_
  refine g_getR 4 _ dX7_feed_1 rfl f_X7_26 (by decide) rfl rfl rfl ?_
  refine g_getI 7 dX7_feed_4 rfl f_X7_109 (by decide) rfl rfl ?_
  rw [hl]
  refine g_bipush 9 20 dX7_feed_7 rfl (by decide) ?_
  refine g_iadd 10 dX7_feed_9 rfl ?_
  refine g_sipush 13 600 dX7_feed_10 rfl (by decide) ?_
  refine g_icmp_le 18 16 dX7_feed_13 rfl (by decide) (fun h13 => ?_) (fun h13 => ?_)
  · refine g_aload_n 19 dX7_feed_18 rfl rfl ?_
    refine g_getR 22 _ dX7_feed_19 rfl f_X7_26 (by decide) rfl rfl rfl ?_
    refine g_iload_n 23 dX7_feed_22 rfl rfl ?_
    refine g_Vv 26 [_] _ dX7_feed_23 rfl m_X6_append l_X7_113 rfl rfl rfl (by decide) (c_append (L := L) _ (by omega) hl) rfl (Nat.le_of_ble_eq_true rfl) (by decide) (fun μ23 ρ23 hc9 => ?_)
    obtain ⟨rfl, rfl⟩ := hc9
    refine g_aload_n 27 dX7_feed_26 rfl rfl ?_
    refine g_getR 30 _ dX7_feed_27 rfl f_X7_26 (by decide) rfl rfl rfl ?_
    refine g_iload_n 31 dX7_feed_30 rfl rfl ?_
    refine g_Vv 34 [_] _ dX7_feed_31 rfl m_X6_append l_X7_113 rfl rfl rfl (by decide) (c_append (L := L + 4) _ (by omega) q_ap_t) rfl (Nat.le_of_ble_eq_true rfl) (by decide) (fun μ31 ρ31 hc9 => ?_)
    obtain ⟨rfl, rfl⟩ := hc9
    refine g_aload_n 35 dX7_feed_34 rfl rfl ?_
    refine g_getR 38 _ dX7_feed_35 rfl f_X7_26 (by decide) rfl rfl rfl ?_
    refine g_iload_n 39 dX7_feed_38 rfl rfl ?_
    refine g_Vv 42 [_] _ dX7_feed_39 rfl m_X6_append l_X7_113 rfl rfl rfl (by decide) (c_append (L := L + 4 + 4) _ (by omega) q_ap_t) rfl (Nat.le_of_ble_eq_true rfl) (by decide) (fun μ39 ρ39 hc9 => ?_)
    obtain ⟨rfl, rfl⟩ := hc9
    refine g_aload_n 43 dX7_feed_42 rfl rfl ?_
    refine g_getR 46 _ dX7_feed_43 rfl f_X7_26 (by decide) rfl rfl rfl ?_
    refine g_iload 48 dX7_feed_46 rfl rfl ?_
    refine g_Vv 51 [_] _ dX7_feed_48 rfl m_X6_append l_X7_113 rfl rfl rfl (by decide) (c_append (L := L + 4 + 4 + 4) _ (by omega) q_ap_t) rfl (Nat.le_of_ble_eq_true rfl) (by decide) (fun μ48 ρ48 hc9 => ?_)
    obtain ⟨rfl, rfl⟩ := hc9
    refine g_aload_n 52 dX7_feed_51 rfl rfl ?_
    refine g_getR 55 _ dX7_feed_52 rfl f_X7_26 (by decide) rfl rfl rfl ?_
    refine g_iload 57 dX7_feed_55 rfl rfl ?_
    refine g_Vv 60 [_] _ dX7_feed_57 rfl m_X6_append l_X7_113 rfl rfl rfl (by decide) (c_append (L := L + 4 + 4 + 4 + 4) _ (by omega) q_ap_t) rfl (Nat.le_of_ble_eq_true rfl) (by decide) (fun μ57 ρ57 hc9 => ?_)
    obtain ⟨rfl, rfl⟩ := hc9
    refine g_aload_n 61 dX7_feed_60 rfl rfl ?_
    refine g_getR 64 _ dX7_feed_61 rfl f_X7_26 (by decide) rfl rfl rfl ?_
    refine g_getI 67 dX7_feed_64 rfl f_X7_109 (by decide) rfl rfl ?_
    rw [q_ap_t]
    exact g_ri dX7_feed_67 rfl rfl ⟨rfl, rfl, rfl⟩
  · exact absurd ((nI_leI (a := L + 20) (b := 600) (by omega) (by omega)).mpr (by omega)) (by rw [← nI_add]; exact h13)
set_option maxRecDepth 100000 in
set_option maxHeartbeats 4000000 in
theorem c_feed_n {L : Nat} (a b2 c d2 e : Int32) (hL : L ≤ 600) (hL2 : ¬ L + 20 ≤ 600) (hl : μ 8 1 = nI L) : q_Ct C l FX7_feed 1 142 142 [.ref (q_a C 0), .int a, .int b2, .int c, .int d2, .int e] μ (q_ρ b) (q_is (-1) μ (q_ρ b)) := by
  refine q_entry rfl (by decide) (Nat.le_of_ble_eq_true rfl) ?_
  refine g_lv [(0, _), (1, _), (2, _), (3, _), (4, _), (5, _)] rfl ?_
  refine g_aload_n 1 dX7_feed_0 rfl rfl ?_
  refine g_getR 4 _ dX7_feed_1 rfl f_X7_26 (by decide) rfl rfl rfl ?_
  refine g_getI 7 dX7_feed_4 rfl f_X7_109 (by decide) rfl rfl ?_
  rw [hl]
  refine g_bipush 9 20 dX7_feed_7 rfl (by decide) ?_
  refine g_iadd 10 dX7_feed_9 rfl ?_
  refine g_sipush 13 600 dX7_feed_10 rfl (by decide) ?_
  refine g_icmp_le 18 16 dX7_feed_13 rfl (by decide) (fun h13 => ?_) (fun h13 => ?_)
  · exact absurd ((nI_leI (a := L + 20) (b := 600) (by omega) (by omega)).mp (by rw [← nI_add]; exact h13)) hL2
  · refine g_iconst 17 (-1) dX7_feed_16 rfl (by decide) ?_
    exact g_ri dX7_feed_17 rfl rfl ⟨rfl, rfl, rfl⟩
set_option maxRecDepth 100000 in
set_option maxHeartbeats 4000000 in
theorem lp_Mfeed {L : Nat} {a b2 c d2 e : Int32} (hL : L + 20 ≤ 600) : ∀ k i, i + k = 20 → q_G C l FX8_feed 0 142 142 (q_is (nI (L + 20)) (q_mf μ L (q_mb a b2 c d2 e) 20) (q_ρ b)) 142 (q_mf μ L (q_mb a b2 c d2 e) i) (q_ρ b) [(0, .ref (q_a C 122)), (1, .int a), (2, .int b2), (3, .int c), (4, .int d2), (5, .int e), (6, .int (nI i))] [] 18 := by
  intro k
  induction k with
  | zero =>
    intro i hi
    refine g_iload 20 dX8_feed_18 rfl rfl ?_
    refine g_bipush 22 20 dX8_feed_20 rfl (by decide) ?_
    refine g_icmp_ge 115 25 dX8_feed_22 rfl (by decide) (fun h22 => ?_) (fun h22 => ?_)
    · refine g_aload_n 116 dX8_feed_115 rfl rfl ?_
      refine g_getI 119 dX8_feed_116 rfl f_X8_92 (by decide) rfl rfl ?_
      rw [q_mf_t, show i = 20 by omega]
      exact g_ri dX8_feed_119 rfl rfl ⟨rfl, rfl, rfl⟩
    · exact absurd (nI_le (a := 20) (b := i) (by omega) (by omega)) h22
  | succ k ih =>
    intro i hi
    refine g_iload 20 dX8_feed_18 rfl rfl ?_
    refine g_bipush 22 20 dX8_feed_20 rfl (by decide) ?_
    refine g_icmp_ge 115 25 dX8_feed_22 rfl (by decide) (fun h22 => ?_) (fun h22 => ?_)
    · exact absurd h22 (nI_ge (a := i) (b := 20) (by omega) (by omega))
    · refine g_iload 27 dX8_feed_25 rfl rfl ?_
      refine g_iconst 28 4 dX8_feed_27 rfl (by decide) ?_
      refine g_icmp_ge 35 31 dX8_feed_28 rfl (by decide) (fun h28 => ?_) (fun h28 => ?_)
      · refine g_iload 37 dX8_feed_35 rfl rfl ?_
        refine g_bipush 39 8 dX8_feed_37 rfl (by decide) ?_
        refine g_icmp_ge 46 42 dX8_feed_39 rfl (by decide) (fun h39 => ?_) (fun h39 => ?_)
        · refine g_iload 48 dX8_feed_46 rfl rfl ?_
          refine g_bipush 50 12 dX8_feed_48 rfl (by decide) ?_
          refine g_icmp_ge 57 53 dX8_feed_50 rfl (by decide) (fun h50 => ?_) (fun h50 => ?_)
          · refine g_iload 59 dX8_feed_57 rfl rfl ?_
            refine g_bipush 61 16 dX8_feed_59 rfl (by decide) ?_
            refine g_icmp_ge 69 64 dX8_feed_61 rfl (by decide) (fun h61 => ?_) (fun h61 => ?_)
            · refine g_iload 71 dX8_feed_69 rfl rfl ?_
              refine g_istore 73 dX8_feed_71 rfl (by decide) ?_
              refine g_aload_n 74 dX8_feed_73 rfl rfl ?_
              refine g_getR 77 _ dX8_feed_74 rfl f_X8_40 (by decide) rfl rfl rfl ?_
              refine g_aload_n 78 dX8_feed_77 rfl rfl ?_
              refine g_getI 81 dX8_feed_78 rfl f_X8_92 (by decide) rfl rfl ?_
              rw [q_mf_t]
              refine g_iload 83 dX8_feed_81 rfl rfl ?_
              refine g_bipush 85 24 dX8_feed_83 rfl (by decide) ?_
              refine g_bipush 87 8 dX8_feed_85 rfl (by decide) ?_
              refine g_iload 89 dX8_feed_87 rfl rfl ?_
              refine g_iconst 90 4 dX8_feed_89 rfl (by decide) ?_
              refine g_irem 91 dX8_feed_90 rfl (by decide) ?_
              rw [show nI i - nI i / 4 * 4 = nI (i % 4) from pk_rem (a := i) (d := 4) (by omega) (by omega) (by omega)]
              refine g_imul 92 dX8_feed_91 rfl ?_
              rw [show (8 : Int32) * nI (i % 4) = nI (8 * (i % 4)) from pk_mul 8 (i % 4)]
              refine g_isub 93 dX8_feed_92 rfl ?_
              rw [show (24 : Int32) - nI (8 * (i % 4)) = nI (24 - 8 * (i % 4)) from pk_sub (a := 24) (by omega)]
              refine g_ishr 94 dX8_feed_93 rfl ?_
              refine g_sipush 97 255 dX8_feed_94 rfl (by decide) ?_
              refine g_iand 98 dX8_feed_97 rfl ?_
              refine g_iast 99 dX8_feed_98 rfl (by decide) rfl (vp_in_nI (show L + i < 600 by omega) (by omega)) ?_
              rw [nI_clamp (show L + i < 2 ^ 31 by omega)]
              refine g_aload_n 100 dX8_feed_99 rfl rfl ?_
              refine g_dup 101 dX8_feed_100 rfl rfl ?_
              refine g_getI 104 dX8_feed_101 rfl f_X8_92 (by decide) rfl rfl ?_
              rw [q_upc (by decide), q_mf_t]
              refine g_iconst 105 1 dX8_feed_104 rfl (by decide) ?_
              refine g_iadd 106 dX8_feed_105 rfl ?_
              rw [nI_1]
              refine g_putI 109 dX8_feed_106 rfl f_X8_92 (by decide) rfl rfl (Or.inl rfl) ?_
              refine g_iinc 112 (_ + 1) dX8_feed_109 rfl rfl rfl (by decide) ?_
              refine g_goto 18 dX8_feed_112 (by decide) ?_
              have gh28 : ¬ i < 4 := fun q => absurd h28 (nI_ge (a := i) (b := 4) q (by omega))
              have gh39 : ¬ i < 8 := fun q => absurd h39 (nI_ge (a := i) (b := 8) q (by omega))
              have gh50 : ¬ i < 12 := fun q => absurd h50 (nI_ge (a := i) (b := 12) q (by omega))
              have gh61 : ¬ i < 16 := fun q => absurd h61 (nI_ge (a := i) (b := 16) q (by omega))
              rw [q_mf_s (g := (q_mb a b2 c d2 e)) (by simp [q_mb, q_arg, gh28, gh39, gh50, gh61]), nI_1]
              refine g_lv [(0, _), (1, _), (2, _), (3, _), (4, _), (5, _), (6, _)] rfl ?_
              exact ih (i + 1) (by omega)
            · refine g_iload 66 dX8_feed_64 rfl rfl ?_
              refine g_goto 71 dX8_feed_66 (by decide) ?_
              refine g_istore 73 dX8_feed_71 rfl (by decide) ?_
              refine g_aload_n 74 dX8_feed_73 rfl rfl ?_
              refine g_getR 77 _ dX8_feed_74 rfl f_X8_40 (by decide) rfl rfl rfl ?_
              refine g_aload_n 78 dX8_feed_77 rfl rfl ?_
              refine g_getI 81 dX8_feed_78 rfl f_X8_92 (by decide) rfl rfl ?_
              rw [q_mf_t]
              refine g_iload 83 dX8_feed_81 rfl rfl ?_
              refine g_bipush 85 24 dX8_feed_83 rfl (by decide) ?_
              refine g_bipush 87 8 dX8_feed_85 rfl (by decide) ?_
              refine g_iload 89 dX8_feed_87 rfl rfl ?_
              refine g_iconst 90 4 dX8_feed_89 rfl (by decide) ?_
              refine g_irem 91 dX8_feed_90 rfl (by decide) ?_
              rw [show nI i - nI i / 4 * 4 = nI (i % 4) from pk_rem (a := i) (d := 4) (by omega) (by omega) (by omega)]
              refine g_imul 92 dX8_feed_91 rfl ?_
              rw [show (8 : Int32) * nI (i % 4) = nI (8 * (i % 4)) from pk_mul 8 (i % 4)]
              refine g_isub 93 dX8_feed_92 rfl ?_
              rw [show (24 : Int32) - nI (8 * (i % 4)) = nI (24 - 8 * (i % 4)) from pk_sub (a := 24) (by omega)]
              refine g_ishr 94 dX8_feed_93 rfl ?_
              refine g_sipush 97 255 dX8_feed_94 rfl (by decide) ?_
              refine g_iand 98 dX8_feed_97 rfl ?_
              refine g_iast 99 dX8_feed_98 rfl (by decide) rfl (vp_in_nI (show L + i < 600 by omega) (by omega)) ?_
              rw [nI_clamp (show L + i < 2 ^ 31 by omega)]
              refine g_aload_n 100 dX8_feed_99 rfl rfl ?_
              refine g_dup 101 dX8_feed_100 rfl rfl ?_
              refine g_getI 104 dX8_feed_101 rfl f_X8_92 (by decide) rfl rfl ?_
              rw [q_upc (by decide), q_mf_t]
              refine g_iconst 105 1 dX8_feed_104 rfl (by decide) ?_
              refine g_iadd 106 dX8_feed_105 rfl ?_
              rw [nI_1]
              refine g_putI 109 dX8_feed_106 rfl f_X8_92 (by decide) rfl rfl (Or.inl rfl) ?_
              refine g_iinc 112 (_ + 1) dX8_feed_109 rfl rfl rfl (by decide) ?_
              refine g_goto 18 dX8_feed_112 (by decide) ?_
              have gh28 : ¬ i < 4 := fun q => absurd h28 (nI_ge (a := i) (b := 4) q (by omega))
              have gh39 : ¬ i < 8 := fun q => absurd h39 (nI_ge (a := i) (b := 8) q (by omega))
              have gh50 : ¬ i < 12 := fun q => absurd h50 (nI_ge (a := i) (b := 12) q (by omega))
              have gh61 : i < 16 := by
                rcases Nat.lt_or_ge i 16 with q | q
                · exact q
                · exact absurd (nI_le (a := 16) (b := i) q (by omega)) h61
              rw [q_mf_s (g := (q_mb a b2 c d2 e)) (by simp [q_mb, q_arg, gh28, gh39, gh50, gh61]), nI_1]
              refine g_lv [(0, _), (1, _), (2, _), (3, _), (4, _), (5, _), (6, _)] rfl ?_
              exact ih (i + 1) (by omega)
          · refine g_iload_n 54 dX8_feed_53 rfl rfl ?_
            refine g_goto 71 dX8_feed_54 (by decide) ?_
            refine g_istore 73 dX8_feed_71 rfl (by decide) ?_
            refine g_aload_n 74 dX8_feed_73 rfl rfl ?_
            refine g_getR 77 _ dX8_feed_74 rfl f_X8_40 (by decide) rfl rfl rfl ?_
            refine g_aload_n 78 dX8_feed_77 rfl rfl ?_
            refine g_getI 81 dX8_feed_78 rfl f_X8_92 (by decide) rfl rfl ?_
            rw [q_mf_t]
            refine g_iload 83 dX8_feed_81 rfl rfl ?_
            refine g_bipush 85 24 dX8_feed_83 rfl (by decide) ?_
            refine g_bipush 87 8 dX8_feed_85 rfl (by decide) ?_
            refine g_iload 89 dX8_feed_87 rfl rfl ?_
            refine g_iconst 90 4 dX8_feed_89 rfl (by decide) ?_
            refine g_irem 91 dX8_feed_90 rfl (by decide) ?_
            rw [show nI i - nI i / 4 * 4 = nI (i % 4) from pk_rem (a := i) (d := 4) (by omega) (by omega) (by omega)]
            refine g_imul 92 dX8_feed_91 rfl ?_
            rw [show (8 : Int32) * nI (i % 4) = nI (8 * (i % 4)) from pk_mul 8 (i % 4)]
            refine g_isub 93 dX8_feed_92 rfl ?_
            rw [show (24 : Int32) - nI (8 * (i % 4)) = nI (24 - 8 * (i % 4)) from pk_sub (a := 24) (by omega)]
            refine g_ishr 94 dX8_feed_93 rfl ?_
            refine g_sipush 97 255 dX8_feed_94 rfl (by decide) ?_
            refine g_iand 98 dX8_feed_97 rfl ?_
            refine g_iast 99 dX8_feed_98 rfl (by decide) rfl (vp_in_nI (show L + i < 600 by omega) (by omega)) ?_
            rw [nI_clamp (show L + i < 2 ^ 31 by omega)]
            refine g_aload_n 100 dX8_feed_99 rfl rfl ?_
            refine g_dup 101 dX8_feed_100 rfl rfl ?_
            refine g_getI 104 dX8_feed_101 rfl f_X8_92 (by decide) rfl rfl ?_
            rw [q_upc (by decide), q_mf_t]
            refine g_iconst 105 1 dX8_feed_104 rfl (by decide) ?_
            refine g_iadd 106 dX8_feed_105 rfl ?_
            rw [nI_1]
            refine g_putI 109 dX8_feed_106 rfl f_X8_92 (by decide) rfl rfl (Or.inl rfl) ?_
            refine g_iinc 112 (_ + 1) dX8_feed_109 rfl rfl rfl (by decide) ?_
            refine g_goto 18 dX8_feed_112 (by decide) ?_
            have gh28 : ¬ i < 4 := fun q => absurd h28 (nI_ge (a := i) (b := 4) q (by omega))
            have gh39 : ¬ i < 8 := fun q => absurd h39 (nI_ge (a := i) (b := 8) q (by omega))
            have gh50 : i < 12 := by
              rcases Nat.lt_or_ge i 12 with q | q
              · exact q
              · exact absurd (nI_le (a := 12) (b := i) q (by omega)) h50
            rw [q_mf_s (g := (q_mb a b2 c d2 e)) (by simp [q_mb, q_arg, gh28, gh39, gh50]), nI_1]
            refine g_lv [(0, _), (1, _), (2, _), (3, _), (4, _), (5, _), (6, _)] rfl ?_
            exact ih (i + 1) (by omega)
        · refine g_iload_n 43 dX8_feed_42 rfl rfl ?_
          refine g_goto 71 dX8_feed_43 (by decide) ?_
          refine g_istore 73 dX8_feed_71 rfl (by decide) ?_
          refine g_aload_n 74 dX8_feed_73 rfl rfl ?_
          refine g_getR 77 _ dX8_feed_74 rfl f_X8_40 (by decide) rfl rfl rfl ?_
          refine g_aload_n 78 dX8_feed_77 rfl rfl ?_
          refine g_getI 81 dX8_feed_78 rfl f_X8_92 (by decide) rfl rfl ?_
          rw [q_mf_t]
          refine g_iload 83 dX8_feed_81 rfl rfl ?_
          refine g_bipush 85 24 dX8_feed_83 rfl (by decide) ?_
          refine g_bipush 87 8 dX8_feed_85 rfl (by decide) ?_
          refine g_iload 89 dX8_feed_87 rfl rfl ?_
          refine g_iconst 90 4 dX8_feed_89 rfl (by decide) ?_
          refine g_irem 91 dX8_feed_90 rfl (by decide) ?_
          rw [show nI i - nI i / 4 * 4 = nI (i % 4) from pk_rem (a := i) (d := 4) (by omega) (by omega) (by omega)]
          refine g_imul 92 dX8_feed_91 rfl ?_
          rw [show (8 : Int32) * nI (i % 4) = nI (8 * (i % 4)) from pk_mul 8 (i % 4)]
          refine g_isub 93 dX8_feed_92 rfl ?_
          rw [show (24 : Int32) - nI (8 * (i % 4)) = nI (24 - 8 * (i % 4)) from pk_sub (a := 24) (by omega)]
          refine g_ishr 94 dX8_feed_93 rfl ?_
          refine g_sipush 97 255 dX8_feed_94 rfl (by decide) ?_
          refine g_iand 98 dX8_feed_97 rfl ?_
          refine g_iast 99 dX8_feed_98 rfl (by decide) rfl (vp_in_nI (show L + i < 600 by omega) (by omega)) ?_
          rw [nI_clamp (show L + i < 2 ^ 31 by omega)]
          refine g_aload_n 100 dX8_feed_99 rfl rfl ?_
          refine g_dup 101 dX8_feed_100 rfl rfl ?_
          refine g_getI 104 dX8_feed_101 rfl f_X8_92 (by decide) rfl rfl ?_
          rw [q_upc (by decide), q_mf_t]
          refine g_iconst 105 1 dX8_feed_104 rfl (by decide) ?_
          refine g_iadd 106 dX8_feed_105 rfl ?_
          rw [nI_1]
          refine g_putI 109 dX8_feed_106 rfl f_X8_92 (by decide) rfl rfl (Or.inl rfl) ?_
          refine g_iinc 112 (_ + 1) dX8_feed_109 rfl rfl rfl (by decide) ?_
          refine g_goto 18 dX8_feed_112 (by decide) ?_
          have gh28 : ¬ i < 4 := fun q => absurd h28 (nI_ge (a := i) (b := 4) q (by omega))
          have gh39 : i < 8 := by
            rcases Nat.lt_or_ge i 8 with q | q
            · exact q
            · exact absurd (nI_le (a := 8) (b := i) q (by omega)) h39
          rw [q_mf_s (g := (q_mb a b2 c d2 e)) (by simp [q_mb, q_arg, gh28, gh39]), nI_1]
          refine g_lv [(0, _), (1, _), (2, _), (3, _), (4, _), (5, _), (6, _)] rfl ?_
          exact ih (i + 1) (by omega)
      · refine g_iload_n 32 dX8_feed_31 rfl rfl ?_
        refine g_goto 71 dX8_feed_32 (by decide) ?_
        refine g_istore 73 dX8_feed_71 rfl (by decide) ?_
        refine g_aload_n 74 dX8_feed_73 rfl rfl ?_
        refine g_getR 77 _ dX8_feed_74 rfl f_X8_40 (by decide) rfl rfl rfl ?_
        refine g_aload_n 78 dX8_feed_77 rfl rfl ?_
        refine g_getI 81 dX8_feed_78 rfl f_X8_92 (by decide) rfl rfl ?_
        rw [q_mf_t]
        refine g_iload 83 dX8_feed_81 rfl rfl ?_
        refine g_bipush 85 24 dX8_feed_83 rfl (by decide) ?_
        refine g_bipush 87 8 dX8_feed_85 rfl (by decide) ?_
        refine g_iload 89 dX8_feed_87 rfl rfl ?_
        refine g_iconst 90 4 dX8_feed_89 rfl (by decide) ?_
        refine g_irem 91 dX8_feed_90 rfl (by decide) ?_
        rw [show nI i - nI i / 4 * 4 = nI (i % 4) from pk_rem (a := i) (d := 4) (by omega) (by omega) (by omega)]
        refine g_imul 92 dX8_feed_91 rfl ?_
        rw [show (8 : Int32) * nI (i % 4) = nI (8 * (i % 4)) from pk_mul 8 (i % 4)]
        refine g_isub 93 dX8_feed_92 rfl ?_
        rw [show (24 : Int32) - nI (8 * (i % 4)) = nI (24 - 8 * (i % 4)) from pk_sub (a := 24) (by omega)]
        refine g_ishr 94 dX8_feed_93 rfl ?_
        refine g_sipush 97 255 dX8_feed_94 rfl (by decide) ?_
        refine g_iand 98 dX8_feed_97 rfl ?_
        refine g_iast 99 dX8_feed_98 rfl (by decide) rfl (vp_in_nI (show L + i < 600 by omega) (by omega)) ?_
        rw [nI_clamp (show L + i < 2 ^ 31 by omega)]
        refine g_aload_n 100 dX8_feed_99 rfl rfl ?_
        refine g_dup 101 dX8_feed_100 rfl rfl ?_
        refine g_getI 104 dX8_feed_101 rfl f_X8_92 (by decide) rfl rfl ?_
        rw [q_upc (by decide), q_mf_t]
        refine g_iconst 105 1 dX8_feed_104 rfl (by decide) ?_
        refine g_iadd 106 dX8_feed_105 rfl ?_
        rw [nI_1]
        refine g_putI 109 dX8_feed_106 rfl f_X8_92 (by decide) rfl rfl (Or.inl rfl) ?_
        refine g_iinc 112 (_ + 1) dX8_feed_109 rfl rfl rfl (by decide) ?_
        refine g_goto 18 dX8_feed_112 (by decide) ?_
        have gh28 : i < 4 := by
          rcases Nat.lt_or_ge i 4 with q | q
          · exact q
          · exact absurd (nI_le (a := 4) (b := i) q (by omega)) h28
        rw [q_mf_s (g := (q_mb a b2 c d2 e)) (by simp [q_mb, q_arg, gh28]), nI_1]
        refine g_lv [(0, _), (1, _), (2, _), (3, _), (4, _), (5, _), (6, _)] rfl ?_
        exact ih (i + 1) (by omega)
set_option maxRecDepth 100000 in
set_option maxHeartbeats 4000000 in
theorem c_Mfeed_y {L : Nat} (a b2 c d2 e : Int32) (hL : L + 20 ≤ 600) (hl : μ 122 12 = nI L) : q_Ct C l FX8_feed 0 142 142 [.ref (q_a C 122), .int a, .int b2, .int c, .int d2, .int e] μ (q_ρ b) (q_is (nI (L + 20)) (q_mf μ L (q_mb a b2 c d2 e) 20) (q_ρ b)) := by
  refine q_entry rfl (by decide) (Nat.le_of_ble_eq_true rfl) ?_
  refine g_lv [(0, _), (1, _), (2, _), (3, _), (4, _), (5, _)] rfl ?_
  refine g_aload_n 1 dX8_feed_0 rfl rfl ?_
  refine g_getI 4 dX8_feed_1 rfl f_X8_92 (by decide) rfl rfl ?_
  rw [hl]
  refine g_bipush 6 20 dX8_feed_4 rfl (by decide) ?_
  refine g_iadd 7 dX8_feed_6 rfl ?_
  refine g_sipush 10 600 dX8_feed_7 rfl (by decide) ?_
  refine g_icmp_le 15 13 dX8_feed_10 rfl (by decide) (fun h10 => ?_) (fun h10 => ?_)
  · refine g_iconst 16 0 dX8_feed_15 rfl (by decide) ?_
    refine g_istore 18 dX8_feed_16 rfl (by decide) ?_
    refine g_lv [(0, _), (1, _), (2, _), (3, _), (4, _), (5, _), (6, .int 0)] rfl ?_
    have h9 := lp_Mfeed (C := C) (l := l) (μ := μ) (b := b) (a := a) (b2 := b2) (c := c) (d2 := d2) (e := e) hL 20 0 (by omega)
    rw [q_mf_0 hl] at h9
    exact h9
  · exact absurd ((nI_leI (a := L + 20) (b := 600) (by omega) (by omega)).mpr (by omega)) (by rw [← nI_add]; exact h10)
set_option maxRecDepth 100000 in
set_option maxHeartbeats 4000000 in
theorem c_Mfeed_n {L : Nat} (a b2 c d2 e : Int32) (hL : L ≤ 600) (hL2 : ¬ L + 20 ≤ 600) (hl : μ 122 12 = nI L) : q_Ct C l FX8_feed 0 142 142 [.ref (q_a C 122), .int a, .int b2, .int c, .int d2, .int e] μ (q_ρ b) (q_is (-1) μ (q_ρ b)) := by
  refine q_entry rfl (by decide) (Nat.le_of_ble_eq_true rfl) ?_
  refine g_lv [(0, _), (1, _), (2, _), (3, _), (4, _), (5, _)] rfl ?_
  refine g_aload_n 1 dX8_feed_0 rfl rfl ?_
  refine g_getI 4 dX8_feed_1 rfl f_X8_92 (by decide) rfl rfl ?_
  rw [hl]
  refine g_bipush 6 20 dX8_feed_4 rfl (by decide) ?_
  refine g_iadd 7 dX8_feed_6 rfl ?_
  refine g_sipush 10 600 dX8_feed_7 rfl (by decide) ?_
  refine g_icmp_le 15 13 dX8_feed_10 rfl (by decide) (fun h10 => ?_) (fun h10 => ?_)
  · exact absurd ((nI_leI (a := L + 20) (b := 600) (by omega) (by omega)).mp (by rw [← nI_add]; exact h10)) hL2
  · refine g_iconst 14 (-1) dX8_feed_13 rfl (by decide) ?_
    exact g_ri dX8_feed_14 rfl rfl ⟨rfl, rfl, rfl⟩
end FD
