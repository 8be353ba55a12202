/-! ===== constructors ===== -/
theorem k_z {μ : q_M} {n a k : Nat} {v : Int32} (h : ∀ c j, n ≤ c → μ c j = 0) (ha : a < n) : ∀ c j, n ≤ c → q_up μ a k v c j = 0 := fun c j hc => by
  unfold q_up
  rw [if_neg (by omega)]
  exact h c j hc
theorem k_r {ρ : q_R} {n a k : Nat} {v : Option Nat} (h : ∀ c j, n ≤ c → ρ c j = none) (ha : a < n) : ∀ c j, n ≤ c → q_up ρ a k v c j = none := fun c j hc => by
  unfold q_up
  rw [if_neg (by omega)]
  exact h c j hc
theorem k_q {ρ : q_R} {n a : Nat} (h : ∀ c j, n ≤ c → ρ c j = none) (ha : a < n) : ∀ c j, n ≤ c → q_rows ρ a c j = none := fun c j hc => by
  unfold q_rows
  rw [if_neg (by omega)]
  exact h c j hc
theorem k_n {μ : q_M} {n : Nat} (h : ∀ c j, n ≤ c → μ c j = 0) : ∀ k, μ n k = 0 := fun k => h n k (Nat.le_refl _)
theorem k_m {ρ : q_R} {n : Nat} (h : ∀ c j, n ≤ c → ρ c j = none) : ∀ k, ρ n k = none := fun k => h n k (Nat.le_refl _)
section IN
variable {C : q_C} {l : Launch} {μ : q_M} {ρ : q_R}
set_option maxRecDepth 100000 in
set_option maxHeartbeats 8000000 in
theorem i_Course (hz : ∀ c j, 2 ≤ c → μ c j = 0) (hr : ∀ c j, 2 ≤ c → ρ c j = none) : q_Ct C l FX1_init 1 2 4 [.ref (q_a C 1)] μ ρ (q_PV fun μ' ρ' => μ' = (q_up (q_up (q_up (q_up (q_up (q_up (q_up (q_up (q_up (q_up (q_up (q_up (q_up (q_up μ 2 0 100) 2 1 100) 2 2 100) 2 3 100) 2 4 100) 2 5 100) 2 6 100) 3 0 6) 3 1 6) 3 2 6) 3 3 6) 3 4 6) 3 5 6) 3 6 6) ∧ ρ' = (q_up (q_up ρ 1 0 (some 2)) 1 1 (some 3))) := by
  refine q_entry rfl (by decide) (Nat.le_of_ble_eq_true rfl) ?_
  refine g_lv [(0, _)] rfl ?_
  refine g_aload_n 1 dX1_init_0 rfl rfl ?_
  refine g_obj 4 dX1_init_1 rfl o_X1_3 o_im o_cd (by decide) (Nat.le_of_ble_eq_true rfl) ?_
  refine g_aload_n 5 dX1_init_4 rfl rfl ?_
  refine g_bipush 7 7 dX1_init_5 rfl (by decide) ?_
  refine g_newI 9 dX1_init_7 rfl k_int rfl (by decide) rfl (by decide) (by decide) (by decide) (k_n (by (repeat (refine k_z ?_ (by decide))); exact fun c j h => hz c j (by omega))) ?_
  refine g_dup 10 dX1_init_9 rfl rfl ?_
  refine g_iconst 11 0 dX1_init_10 rfl (by decide) ?_
  refine g_bipush 13 100 dX1_init_11 rfl (by decide) ?_
  refine g_iast 14 dX1_init_13 rfl (by decide) rfl (vp_in_nI (n := 0) (by decide) (by decide)) ?_
  refine g_dup 15 dX1_init_14 rfl rfl ?_
  refine g_iconst 16 1 dX1_init_15 rfl (by decide) ?_
  refine g_bipush 18 100 dX1_init_16 rfl (by decide) ?_
  refine g_iast 19 dX1_init_18 rfl (by decide) rfl (vp_in_nI (n := 1) (by decide) (by decide)) ?_
  refine g_dup 20 dX1_init_19 rfl rfl ?_
  refine g_iconst 21 2 dX1_init_20 rfl (by decide) ?_
  refine g_bipush 23 100 dX1_init_21 rfl (by decide) ?_
  refine g_iast 24 dX1_init_23 rfl (by decide) rfl (vp_in_nI (n := 2) (by decide) (by decide)) ?_
  refine g_dup 25 dX1_init_24 rfl rfl ?_
  refine g_iconst 26 3 dX1_init_25 rfl (by decide) ?_
  refine g_bipush 28 100 dX1_init_26 rfl (by decide) ?_
  refine g_iast 29 dX1_init_28 rfl (by decide) rfl (vp_in_nI (n := 3) (by decide) (by decide)) ?_
  refine g_dup 30 dX1_init_29 rfl rfl ?_
  refine g_iconst 31 4 dX1_init_30 rfl (by decide) ?_
  refine g_bipush 33 100 dX1_init_31 rfl (by decide) ?_
  refine g_iast 34 dX1_init_33 rfl (by decide) rfl (vp_in_nI (n := 4) (by decide) (by decide)) ?_
  refine g_dup 35 dX1_init_34 rfl rfl ?_
  refine g_iconst 36 5 dX1_init_35 rfl (by decide) ?_
  refine g_bipush 38 100 dX1_init_36 rfl (by decide) ?_
  refine g_iast 39 dX1_init_38 rfl (by decide) rfl (vp_in_nI (n := 5) (by decide) (by decide)) ?_
  refine g_dup 40 dX1_init_39 rfl rfl ?_
  refine g_bipush 42 6 dX1_init_40 rfl (by decide) ?_
  refine g_bipush 44 100 dX1_init_42 rfl (by decide) ?_
  refine g_iast 45 dX1_init_44 rfl (by decide) rfl (vp_in_nI (n := 6) (by decide) (by decide)) ?_
  refine g_putR 48 dX1_init_45 rfl f_X1_9 (by decide) rfl rfl (Or.inr ⟨rfl, rfl⟩) rfl ?_
  refine g_aload_n 49 dX1_init_48 rfl rfl ?_
  refine g_bipush 51 7 dX1_init_49 rfl (by decide) ?_
  refine g_newI 53 dX1_init_51 rfl k_int rfl (by decide) rfl (by decide) (by decide) (by decide) (k_n (by (repeat (refine k_z ?_ (by decide))); exact fun c j h => hz c j (by omega))) ?_
  refine g_dup 54 dX1_init_53 rfl rfl ?_
  refine g_iconst 55 0 dX1_init_54 rfl (by decide) ?_
  refine g_bipush 57 6 dX1_init_55 rfl (by decide) ?_
  refine g_iast 58 dX1_init_57 rfl (by decide) rfl (vp_in_nI (n := 0) (by decide) (by decide)) ?_
  refine g_dup 59 dX1_init_58 rfl rfl ?_
  refine g_iconst 60 1 dX1_init_59 rfl (by decide) ?_
  refine g_bipush 62 6 dX1_init_60 rfl (by decide) ?_
  refine g_iast 63 dX1_init_62 rfl (by decide) rfl (vp_in_nI (n := 1) (by decide) (by decide)) ?_
  refine g_dup 64 dX1_init_63 rfl rfl ?_
  refine g_iconst 65 2 dX1_init_64 rfl (by decide) ?_
  refine g_bipush 67 6 dX1_init_65 rfl (by decide) ?_
  refine g_iast 68 dX1_init_67 rfl (by decide) rfl (vp_in_nI (n := 2) (by decide) (by decide)) ?_
  refine g_dup 69 dX1_init_68 rfl rfl ?_
  refine g_iconst 70 3 dX1_init_69 rfl (by decide) ?_
  refine g_bipush 72 6 dX1_init_70 rfl (by decide) ?_
  refine g_iast 73 dX1_init_72 rfl (by decide) rfl (vp_in_nI (n := 3) (by decide) (by decide)) ?_
  refine g_dup 74 dX1_init_73 rfl rfl ?_
  refine g_iconst 75 4 dX1_init_74 rfl (by decide) ?_
  refine g_bipush 77 6 dX1_init_75 rfl (by decide) ?_
  refine g_iast 78 dX1_init_77 rfl (by decide) rfl (vp_in_nI (n := 4) (by decide) (by decide)) ?_
  refine g_dup 79 dX1_init_78 rfl rfl ?_
  refine g_iconst 80 5 dX1_init_79 rfl (by decide) ?_
  refine g_bipush 82 6 dX1_init_80 rfl (by decide) ?_
  refine g_iast 83 dX1_init_82 rfl (by decide) rfl (vp_in_nI (n := 5) (by decide) (by decide)) ?_
  refine g_dup 84 dX1_init_83 rfl rfl ?_
  refine g_bipush 86 6 dX1_init_84 rfl (by decide) ?_
  refine g_bipush 88 6 dX1_init_86 rfl (by decide) ?_
  refine g_iast 89 dX1_init_88 rfl (by decide) rfl (vp_in_nI (n := 6) (by decide) (by decide)) ?_
  refine g_putR 92 dX1_init_89 rfl f_X1_15 (by decide) rfl rfl (Or.inr ⟨rfl, rfl⟩) rfl ?_
  exact g_rv dX1_init_92 rfl rfl ⟨rfl, rfl⟩
set_option maxRecDepth 100000 in
set_option maxHeartbeats 8000000 in
theorem i_Racers (hz : ∀ c j, 5 ≤ c → μ c j = 0) (hr : ∀ c j, 5 ≤ c → ρ c j = none) : q_Ct C l FX4_init 1 5 8 [.ref (q_a C 4)] μ ρ (q_PV fun μ' ρ' => μ' = μ ∧ ρ' = (q_up (q_up (q_up ρ 4 0 (some 5)) 4 1 (some 6)) 4 2 (some 7))) := by
  refine q_entry rfl (by decide) (Nat.le_of_ble_eq_true rfl) ?_
  refine g_lv [(0, _)] rfl ?_
  refine g_aload_n 1 dX4_init_0 rfl rfl ?_
  refine g_obj 4 dX4_init_1 rfl o_X4_3 o_im o_cd (by decide) (Nat.le_of_ble_eq_true rfl) ?_
  refine g_aload_n 5 dX4_init_4 rfl rfl ?_
  refine g_bipush 7 10 dX4_init_5 rfl (by decide) ?_
  refine g_newI 9 dX4_init_7 rfl k_int rfl (by decide) rfl (by decide) (by decide) (by decide) (k_n (by (repeat (refine k_z ?_ (by decide))); exact fun c j h => hz c j (by omega))) ?_
  refine g_putR 12 dX4_init_9 rfl f_X4_9 (by decide) rfl rfl (Or.inr ⟨rfl, rfl⟩) rfl ?_
  refine g_aload_n 13 dX4_init_12 rfl rfl ?_
  refine g_bipush 15 10 dX4_init_13 rfl (by decide) ?_
  refine g_newI 17 dX4_init_15 rfl k_int rfl (by decide) rfl (by decide) (by decide) (by decide) (k_n (by (repeat (refine k_z ?_ (by decide))); exact fun c j h => hz c j (by omega))) ?_
  refine g_putR 20 dX4_init_17 rfl f_X4_15 (by decide) rfl rfl (Or.inr ⟨rfl, rfl⟩) rfl ?_
  refine g_aload_n 21 dX4_init_20 rfl rfl ?_
  refine g_bipush 23 10 dX4_init_21 rfl (by decide) ?_
  refine g_newI 25 dX4_init_23 rfl k_int rfl (by decide) rfl (by decide) (by decide) (by decide) (k_n (by (repeat (refine k_z ?_ (by decide))); exact fun c j h => hz c j (by omega))) ?_
  refine g_putR 28 dX4_init_25 rfl f_X4_18 (by decide) rfl rfl (Or.inr ⟨rfl, rfl⟩) rfl ?_
  exact g_rv dX4_init_28 rfl rfl ⟨rfl, rfl⟩
set_option maxRecDepth 100000 in
set_option maxHeartbeats 8000000 in
theorem i_Tape (hz : ∀ c j, 9 ≤ c → μ c j = 0) (hr : ∀ c j, 9 ≤ c → ρ c j = none) : q_Ct C l FX6_init 1 9 10 [.ref (q_a C 8)] μ ρ (q_PV fun μ' ρ' => μ' = μ ∧ ρ' = (q_up ρ 8 0 (some 9))) := by
  refine q_entry rfl (by decide) (Nat.le_of_ble_eq_true rfl) ?_
  refine g_lv [(0, _)] rfl ?_
  refine g_aload_n 1 dX6_init_0 rfl rfl ?_
  refine g_obj 4 dX6_init_1 rfl o_X6_3 o_im o_cd (by decide) (Nat.le_of_ble_eq_true rfl) ?_
  refine g_aload_n 5 dX6_init_4 rfl rfl ?_
  refine g_sipush 8 600 dX6_init_5 rfl (by decide) ?_
  refine g_newB 10 dX6_init_8 rfl k_byte rfl (by decide) rfl (by decide) (by decide) (by decide) (k_n (by (repeat (refine k_z ?_ (by decide))); exact fun c j h => hz c j (by omega))) ?_
  refine g_putR 13 dX6_init_10 rfl f_X6_9 (by decide) rfl rfl (Or.inr ⟨rfl, rfl⟩) rfl ?_
  exact g_rv dX6_init_13 rfl rfl ⟨rfl, rfl⟩
set_option maxRecDepth 100000 in
set_option maxHeartbeats 8000000 in
theorem i_Reader (hz : ∀ c j, 11 ≤ c → μ c j = 0) (hr : ∀ c j, 11 ≤ c → ρ c j = none) : q_Ct C l FX0_init 1 11 11 [.ref (q_a C 10)] μ ρ (q_PV fun μ' ρ' => μ' = (q_up μ 10 1 (-1)) ∧ ρ' = ρ) := by
  refine q_entry rfl (by decide) (Nat.le_of_ble_eq_true rfl) ?_
  refine g_lv [(0, _)] rfl ?_
  refine g_aload_n 1 dX0_init_0 rfl rfl ?_
  refine g_obj 4 dX0_init_1 rfl o_X0_3 o_im o_cd (by decide) (Nat.le_of_ble_eq_true rfl) ?_
  refine g_aload_n 5 dX0_init_4 rfl rfl ?_
  refine g_iconst 6 (-1) dX0_init_5 rfl (by decide) ?_
  refine g_putI 9 dX0_init_6 rfl f_X0_9 (by decide) rfl rfl (Or.inl rfl) ?_
  exact g_rv dX0_init_9 rfl rfl ⟨rfl, rfl⟩
set_option maxRecDepth 100000 in
set_option maxHeartbeats 8000000 in
theorem i_Race (hz : ∀ c j, 12 ≤ c → μ c j = 0) (hr : ∀ c j, 12 ≤ c → ρ c j = none) : q_Ct C l FX3_init 1 12 63 [.ref (q_a C 11)] μ ρ (q_PV fun μ' ρ' => μ' = μ ∧ ρ' = (q_up (q_up (q_up (q_up (q_rows (q_up (q_rows (q_up (q_rows (q_up (q_rows (q_up (q_rows (q_up (q_rows ρ 12) 11 0 (some 12)) 20) 11 1 (some 20)) 28) 11 2 (some 28)) 36) 11 3 (some 36)) 44) 11 4 (some 44)) 52) 11 5 (some 52)) 11 6 (some 60)) 11 7 (some 61)) 11 8 (some 62))) := by
  refine q_entry rfl (by decide) (Nat.le_of_ble_eq_true rfl) ?_
  refine g_lv [(0, _)] rfl ?_
  refine g_aload_n 1 dX3_init_0 rfl rfl ?_
  refine g_obj 4 dX3_init_1 rfl o_X3_3 o_im o_cd (by decide) (Nat.le_of_ble_eq_true rfl) ?_
  refine g_aload_n 5 dX3_init_4 rfl rfl ?_
  refine g_bipush 7 7 dX3_init_5 rfl (by decide) ?_
  refine g_bipush 9 10 dX3_init_7 rfl (by decide) ?_
  refine g_mna 13 (N := 7) (K := 10) dX3_init_9 rfl k_X3_9 k_int rfl (by decide) (by decide) (by decide) rfl rfl (by decide) (by decide) (by decide) (by decide +kernel) (by decide) (by (repeat (refine k_z ?_ (by decide))); exact fun c j h => hz c j (by omega)) ?_
  refine g_putR 16 dX3_init_13 rfl f_X3_11 (by decide) rfl rfl (Or.inr ⟨rfl, rfl⟩) rfl ?_
  refine g_aload_n 17 dX3_init_16 rfl rfl ?_
  refine g_bipush 19 7 dX3_init_17 rfl (by decide) ?_
  refine g_bipush 21 10 dX3_init_19 rfl (by decide) ?_
  refine g_mna 25 (N := 7) (K := 10) dX3_init_21 rfl k_X3_9 k_int rfl (by decide) (by decide) (by decide) rfl rfl (by decide) (by decide) (by decide) (by decide +kernel) (by decide) (by (repeat (refine k_z ?_ (by decide))); exact fun c j h => hz c j (by omega)) ?_
  refine g_putR 28 dX3_init_25 rfl f_X3_16 (by decide) rfl rfl (Or.inr ⟨rfl, rfl⟩) rfl ?_
  refine g_aload_n 29 dX3_init_28 rfl rfl ?_
  refine g_bipush 31 7 dX3_init_29 rfl (by decide) ?_
  refine g_bipush 33 10 dX3_init_31 rfl (by decide) ?_
  refine g_mna 37 (N := 7) (K := 10) dX3_init_33 rfl k_X3_9 k_int rfl (by decide) (by decide) (by decide) rfl rfl (by decide) (by decide) (by decide) (by decide +kernel) (by decide) (by (repeat (refine k_z ?_ (by decide))); exact fun c j h => hz c j (by omega)) ?_
  refine g_putR 40 dX3_init_37 rfl f_X3_19 (by decide) rfl rfl (Or.inr ⟨rfl, rfl⟩) rfl ?_
  refine g_aload_n 41 dX3_init_40 rfl rfl ?_
  refine g_bipush 43 7 dX3_init_41 rfl (by decide) ?_
  refine g_bipush 45 10 dX3_init_43 rfl (by decide) ?_
  refine g_mna 49 (N := 7) (K := 10) dX3_init_45 rfl k_X3_9 k_int rfl (by decide) (by decide) (by decide) rfl rfl (by decide) (by decide) (by decide) (by decide +kernel) (by decide) (by (repeat (refine k_z ?_ (by decide))); exact fun c j h => hz c j (by omega)) ?_
  refine g_putR 52 dX3_init_49 rfl f_X3_22 (by decide) rfl rfl (Or.inr ⟨rfl, rfl⟩) rfl ?_
  refine g_aload_n 53 dX3_init_52 rfl rfl ?_
  refine g_bipush 55 7 dX3_init_53 rfl (by decide) ?_
  refine g_bipush 57 10 dX3_init_55 rfl (by decide) ?_
  refine g_mna 61 (N := 7) (K := 10) dX3_init_57 rfl k_X3_9 k_int rfl (by decide) (by decide) (by decide) rfl rfl (by decide) (by decide) (by decide) (by decide +kernel) (by decide) (by (repeat (refine k_z ?_ (by decide))); exact fun c j h => hz c j (by omega)) ?_
  refine g_putR 64 dX3_init_61 rfl f_X3_25 (by decide) rfl rfl (Or.inr ⟨rfl, rfl⟩) rfl ?_
  refine g_aload_n 65 dX3_init_64 rfl rfl ?_
  refine g_bipush 67 7 dX3_init_65 rfl (by decide) ?_
  refine g_bipush 69 10 dX3_init_67 rfl (by decide) ?_
  refine g_mna 73 (N := 7) (K := 10) dX3_init_69 rfl k_X3_9 k_int rfl (by decide) (by decide) (by decide) rfl rfl (by decide) (by decide) (by decide) (by decide +kernel) (by decide) (by (repeat (refine k_z ?_ (by decide))); exact fun c j h => hz c j (by omega)) ?_
  refine g_putR 76 dX3_init_73 rfl f_X3_28 (by decide) rfl rfl (Or.inr ⟨rfl, rfl⟩) rfl ?_
  refine g_aload_n 77 dX3_init_76 rfl rfl ?_
  refine g_bipush 79 7 dX3_init_77 rfl (by decide) ?_
  refine g_newI 81 dX3_init_79 rfl k_int rfl (by decide) rfl (by decide) (by decide) (by decide) (k_n (by (repeat (refine k_z ?_ (by decide))); exact fun c j h => hz c j (by omega))) ?_
  refine g_putR 84 dX3_init_81 rfl f_X3_31 (by decide) rfl rfl (Or.inr ⟨rfl, rfl⟩) rfl ?_
  refine g_aload_n 85 dX3_init_84 rfl rfl ?_
  refine g_bipush 87 7 dX3_init_85 rfl (by decide) ?_
  refine g_newI 89 dX3_init_87 rfl k_int rfl (by decide) rfl (by decide) (by decide) (by decide) (k_n (by (repeat (refine k_z ?_ (by decide))); exact fun c j h => hz c j (by omega))) ?_
  refine g_putR 92 dX3_init_89 rfl f_X3_35 (by decide) rfl rfl (Or.inr ⟨rfl, rfl⟩) rfl ?_
  refine g_aload_n 93 dX3_init_92 rfl rfl ?_
  refine g_bipush 95 7 dX3_init_93 rfl (by decide) ?_
  refine g_newI 97 dX3_init_95 rfl k_int rfl (by decide) rfl (by decide) (by decide) (by decide) (k_n (by (repeat (refine k_z ?_ (by decide))); exact fun c j h => hz c j (by omega))) ?_
  refine g_putR 100 dX3_init_97 rfl f_X3_38 (by decide) rfl rfl (Or.inr ⟨rfl, rfl⟩) rfl ?_
  exact g_rv dX3_init_100 rfl rfl ⟨rfl, rfl⟩
set_option maxRecDepth 100000 in
set_option maxHeartbeats 8000000 in
theorem i_Kitch (hz : ∀ c j, 64 ≤ c → μ c j = 0) (hr : ∀ c j, 64 ≤ c → ρ c j = none) : q_Ct C l FX2_init 1 64 69 [.ref (q_a C 63)] μ ρ (q_PV fun μ' ρ' => μ' = μ ∧ ρ' = (q_up (q_up (q_up (q_up (q_up ρ 63 0 (some 64)) 63 1 (some 65)) 63 2 (some 66)) 63 4 (some 67)) 63 5 (some 68))) := by
  refine q_entry rfl (by decide) (Nat.le_of_ble_eq_true rfl) ?_
  refine g_lv [(0, _)] rfl ?_
  refine g_aload_n 1 dX2_init_0 rfl rfl ?_
  refine g_obj 4 dX2_init_1 rfl o_X2_3 o_im o_cd (by decide) (Nat.le_of_ble_eq_true rfl) ?_
  refine g_aload_n 5 dX2_init_4 rfl rfl ?_
  refine g_bipush 7 8 dX2_init_5 rfl (by decide) ?_
  refine g_newI 9 dX2_init_7 rfl k_int rfl (by decide) rfl (by decide) (by decide) (by decide) (k_n (by (repeat (refine k_z ?_ (by decide))); exact fun c j h => hz c j (by omega))) ?_
  refine g_putR 12 dX2_init_9 rfl f_X2_9 (by decide) rfl rfl (Or.inr ⟨rfl, rfl⟩) rfl ?_
  refine g_aload_n 13 dX2_init_12 rfl rfl ?_
  refine g_bipush 15 8 dX2_init_13 rfl (by decide) ?_
  refine g_newI 17 dX2_init_15 rfl k_int rfl (by decide) rfl (by decide) (by decide) (by decide) (k_n (by (repeat (refine k_z ?_ (by decide))); exact fun c j h => hz c j (by omega))) ?_
  refine g_putR 20 dX2_init_17 rfl f_X2_15 (by decide) rfl rfl (Or.inr ⟨rfl, rfl⟩) rfl ?_
  refine g_aload_n 21 dX2_init_20 rfl rfl ?_
  refine g_bipush 23 8 dX2_init_21 rfl (by decide) ?_
  refine g_newI 25 dX2_init_23 rfl k_int rfl (by decide) rfl (by decide) (by decide) (by decide) (k_n (by (repeat (refine k_z ?_ (by decide))); exact fun c j h => hz c j (by omega))) ?_
  refine g_putR 28 dX2_init_25 rfl f_X2_18 (by decide) rfl rfl (Or.inr ⟨rfl, rfl⟩) rfl ?_
  refine g_aload_n 29 dX2_init_28 rfl rfl ?_
  refine g_bipush 31 8 dX2_init_29 rfl (by decide) ?_
  refine g_newI 33 dX2_init_31 rfl k_int rfl (by decide) rfl (by decide) (by decide) (by decide) (k_n (by (repeat (refine k_z ?_ (by decide))); exact fun c j h => hz c j (by omega))) ?_
  refine g_putR 36 dX2_init_33 rfl f_X2_21 (by decide) rfl rfl (Or.inr ⟨rfl, rfl⟩) rfl ?_
  refine g_aload_n 37 dX2_init_36 rfl rfl ?_
  refine g_bipush 39 7 dX2_init_37 rfl (by decide) ?_
  refine g_newI 41 dX2_init_39 rfl k_int rfl (by decide) rfl (by decide) (by decide) (by decide) (k_n (by (repeat (refine k_z ?_ (by decide))); exact fun c j h => hz c j (by omega))) ?_
  refine g_putR 44 dX2_init_41 rfl f_X2_24 (by decide) rfl rfl (Or.inr ⟨rfl, rfl⟩) rfl ?_
  exact g_rv dX2_init_44 rfl rfl ⟨rfl, rfl⟩
set_option maxRecDepth 100000 in
set_option maxHeartbeats 8000000 in
theorem i_Book70 (hz : ∀ c j, 71 ≤ c → μ c j = 0) (hr : ∀ c j, 71 ≤ c → ρ c j = none) : q_Ct C l FX5_init 1 71 96 [.ref (q_a C 70)] μ ρ (q_PV fun μ' ρ' => μ' = μ ∧ ρ' = (q_up (q_rows (q_up (q_rows (q_up (q_rows (q_up ρ 70 0 (some 71)) 72) 70 1 (some 72)) 80) 70 2 (some 80)) 88) 70 3 (some 88))) := by
  refine q_entry rfl (by decide) (Nat.le_of_ble_eq_true rfl) ?_
  refine g_lv [(0, _)] rfl ?_
  refine g_aload_n 1 dX5_init_0 rfl rfl ?_
  refine g_obj 4 dX5_init_1 rfl o_X5_3 o_im o_cd (by decide) (Nat.le_of_ble_eq_true rfl) ?_
  refine g_aload_n 5 dX5_init_4 rfl rfl ?_
  refine g_bipush 7 7 dX5_init_5 rfl (by decide) ?_
  refine g_newI 9 dX5_init_7 rfl k_int rfl (by decide) rfl (by decide) (by decide) (by decide) (k_n (by (repeat (refine k_z ?_ (by decide))); exact fun c j h => hz c j (by omega))) ?_
  refine g_putR 12 dX5_init_9 rfl f_X5_9 (by decide) rfl rfl (Or.inr ⟨rfl, rfl⟩) rfl ?_
  refine g_aload_n 13 dX5_init_12 rfl rfl ?_
  refine g_bipush 15 7 dX5_init_13 rfl (by decide) ?_
  refine g_iconst 16 4 dX5_init_15 rfl (by decide) ?_
  refine g_mna 20 (N := 7) (K := 4) dX5_init_16 rfl k_X5_15 k_int rfl (by decide) (by decide) (by decide) rfl rfl (by decide) (by decide) (by decide) (by decide +kernel) (by decide) (by (repeat (refine k_z ?_ (by decide))); exact fun c j h => hz c j (by omega)) ?_
  refine g_putR 23 dX5_init_20 rfl f_X5_17 (by decide) rfl rfl (Or.inr ⟨rfl, rfl⟩) rfl ?_
  refine g_aload_n 24 dX5_init_23 rfl rfl ?_
  refine g_bipush 26 7 dX5_init_24 rfl (by decide) ?_
  refine g_iconst 27 4 dX5_init_26 rfl (by decide) ?_
  refine g_mna 31 (N := 7) (K := 4) dX5_init_27 rfl k_X5_15 k_int rfl (by decide) (by decide) (by decide) rfl rfl (by decide) (by decide) (by decide) (by decide +kernel) (by decide) (by (repeat (refine k_z ?_ (by decide))); exact fun c j h => hz c j (by omega)) ?_
  refine g_putR 34 dX5_init_31 rfl f_X5_20 (by decide) rfl rfl (Or.inr ⟨rfl, rfl⟩) rfl ?_
  refine g_aload_n 35 dX5_init_34 rfl rfl ?_
  refine g_bipush 37 7 dX5_init_35 rfl (by decide) ?_
  refine g_iconst 38 4 dX5_init_37 rfl (by decide) ?_
  refine g_mna 42 (N := 7) (K := 4) dX5_init_38 rfl k_X5_15 k_int rfl (by decide) (by decide) (by decide) rfl rfl (by decide) (by decide) (by decide) (by decide +kernel) (by decide) (by (repeat (refine k_z ?_ (by decide))); exact fun c j h => hz c j (by omega)) ?_
  refine g_putR 45 dX5_init_42 rfl f_X5_23 (by decide) rfl rfl (Or.inr ⟨rfl, rfl⟩) rfl ?_
  exact g_rv dX5_init_45 rfl rfl ⟨rfl, rfl⟩
set_option maxRecDepth 100000 in
set_option maxHeartbeats 8000000 in
theorem i_Book96 (hz : ∀ c j, 97 ≤ c → μ c j = 0) (hr : ∀ c j, 97 ≤ c → ρ c j = none) : q_Ct C l FX5_init 1 97 122 [.ref (q_a C 96)] μ ρ (q_PV fun μ' ρ' => μ' = μ ∧ ρ' = (q_up (q_rows (q_up (q_rows (q_up (q_rows (q_up ρ 96 0 (some 97)) 98) 96 1 (some 98)) 106) 96 2 (some 106)) 114) 96 3 (some 114))) := by
  refine q_entry rfl (by decide) (Nat.le_of_ble_eq_true rfl) ?_
  refine g_lv [(0, _)] rfl ?_
  refine g_aload_n 1 dX5_init_0 rfl rfl ?_
  refine g_obj 4 dX5_init_1 rfl o_X5_3 o_im o_cd (by decide) (Nat.le_of_ble_eq_true rfl) ?_
  refine g_aload_n 5 dX5_init_4 rfl rfl ?_
  refine g_bipush 7 7 dX5_init_5 rfl (by decide) ?_
  refine g_newI 9 dX5_init_7 rfl k_int rfl (by decide) rfl (by decide) (by decide) (by decide) (k_n (by (repeat (refine k_z ?_ (by decide))); exact fun c j h => hz c j (by omega))) ?_
  refine g_putR 12 dX5_init_9 rfl f_X5_9 (by decide) rfl rfl (Or.inr ⟨rfl, rfl⟩) rfl ?_
  refine g_aload_n 13 dX5_init_12 rfl rfl ?_
  refine g_bipush 15 7 dX5_init_13 rfl (by decide) ?_
  refine g_iconst 16 4 dX5_init_15 rfl (by decide) ?_
  refine g_mna 20 (N := 7) (K := 4) dX5_init_16 rfl k_X5_15 k_int rfl (by decide) (by decide) (by decide) rfl rfl (by decide) (by decide) (by decide) (by decide +kernel) (by decide) (by (repeat (refine k_z ?_ (by decide))); exact fun c j h => hz c j (by omega)) ?_
  refine g_putR 23 dX5_init_20 rfl f_X5_17 (by decide) rfl rfl (Or.inr ⟨rfl, rfl⟩) rfl ?_
  refine g_aload_n 24 dX5_init_23 rfl rfl ?_
  refine g_bipush 26 7 dX5_init_24 rfl (by decide) ?_
  refine g_iconst 27 4 dX5_init_26 rfl (by decide) ?_
  refine g_mna 31 (N := 7) (K := 4) dX5_init_27 rfl k_X5_15 k_int rfl (by decide) (by decide) (by decide) rfl rfl (by decide) (by decide) (by decide) (by decide +kernel) (by decide) (by (repeat (refine k_z ?_ (by decide))); exact fun c j h => hz c j (by omega)) ?_
  refine g_putR 34 dX5_init_31 rfl f_X5_20 (by decide) rfl rfl (Or.inr ⟨rfl, rfl⟩) rfl ?_
  refine g_aload_n 35 dX5_init_34 rfl rfl ?_
  refine g_bipush 37 7 dX5_init_35 rfl (by decide) ?_
  refine g_iconst 38 4 dX5_init_37 rfl (by decide) ?_
  refine g_mna 42 (N := 7) (K := 4) dX5_init_38 rfl k_X5_15 k_int rfl (by decide) (by decide) (by decide) rfl rfl (by decide) (by decide) (by decide) (by decide +kernel) (by decide) (by (repeat (refine k_z ?_ (by decide))); exact fun c j h => hz c j (by omega)) ?_
  refine g_putR 45 dX5_init_42 rfl f_X5_23 (by decide) rfl rfl (Or.inr ⟨rfl, rfl⟩) rfl ?_
  exact g_rv dX5_init_45 rfl rfl ⟨rfl, rfl⟩
set_option maxRecDepth 100000 in
set_option maxHeartbeats 8000000 in
theorem i_Town (hz : ∀ c j, 1 ≤ c → μ c j = 0) (hr : ∀ c j, 1 ≤ c → ρ c j = none) : q_Ct C l FX7_init 2 1 122 [.ref (q_a C 0)] μ ρ (q_PV fun μ' ρ' => μ' = (q_up (q_up (q_up (q_up (q_up (q_up (q_up (q_up (q_up (q_up (q_up (q_up (q_up (q_up (q_up (q_up (q_up (q_up (q_up (q_up (q_up μ 2 0 100) 2 1 100) 2 2 100) 2 3 100) 2 4 100) 2 5 100) 2 6 100) 3 0 6) 3 1 6) 3 2 6) 3 3 6) 3 4 6) 3 5 6) 3 6 6) 10 1 (-1)) 69 0 60) 69 1 120) 69 2 60) 69 3 100) 69 4 10) 0 9 1) ∧ ρ' = (q_up (q_up (q_rows (q_up (q_rows (q_up (q_rows (q_up (q_up (q_up (q_rows (q_up (q_rows (q_up (q_rows (q_up (q_up (q_up (q_up (q_up (q_up (q_up (q_up (q_up (q_up (q_up (q_up (q_up (q_rows (q_up (q_rows (q_up (q_rows (q_up (q_rows (q_up (q_rows (q_up (q_rows (q_up (q_up (q_up (q_up (q_up (q_up (q_up (q_up (q_up (q_up ρ 1 0 (some 2)) 1 1 (some 3)) 0 0 (some 1)) 4 0 (some 5)) 4 1 (some 6)) 4 2 (some 7)) 0 1 (some 4)) 8 0 (some 9)) 0 2 (some 8)) 0 3 (some 10)) 12) 11 0 (some 12)) 20) 11 1 (some 20)) 28) 11 2 (some 28)) 36) 11 3 (some 36)) 44) 11 4 (some 44)) 52) 11 5 (some 52)) 11 6 (some 60)) 11 7 (some 61)) 11 8 (some 62)) 0 4 (some 11)) 63 0 (some 64)) 63 1 (some 65)) 63 2 (some 66)) 63 4 (some 67)) 63 5 (some 68)) 0 5 (some 63)) 0 6 (some 69)) 70 0 (some 71)) 72) 70 1 (some 72)) 80) 70 2 (some 80)) 88) 70 3 (some 88)) 0 7 (some 70)) 96 0 (some 97)) 98) 96 1 (some 98)) 106) 96 2 (some 106)) 114) 96 3 (some 114)) 0 8 (some 96))) := by
  refine q_entry rfl (by decide) (Nat.le_of_ble_eq_true rfl) ?_
  refine g_lv [(0, _)] rfl ?_
  refine g_aload_n 1 dX7_init_0 rfl rfl ?_
  refine g_obj 4 dX7_init_1 rfl o_X7_3 o_im o_cd (by decide) (Nat.le_of_ble_eq_true rfl) ?_
  refine g_aload_n 5 dX7_init_4 rfl rfl ?_
  refine g_new 8 dX7_init_5 rfl k_X7_9 rfl (by decide) (by decide) (by decide) (k_n (by (repeat (refine k_z ?_ (by decide))); exact fun c j h => hz c j (by omega))) (k_m (by (repeat (first | refine k_r ?_ (by decide) | refine k_q ?_ (by decide))); exact fun c j h => hr c j (by omega))) ?_
  refine g_dup 9 dX7_init_8 rfl rfl ?_
  refine g_callIN 12 [] [_, _] dX7_init_9 rfl m_X1_init l_X7_11 (i_Course (by (repeat (refine k_z ?_ (by decide))); exact fun c j h => hz c j (by omega)) (by (repeat (first | refine k_r ?_ (by decide) | refine k_q ?_ (by decide))); exact fun c j h => hr c j (by omega))) rfl rfl (Nat.le_of_ble_eq_true rfl) (by decide) (by decide) (by decide) (fun r9 μ9 ρ9 hc9 => ?_)
  obtain ⟨rfl, rfl, rfl⟩ := hc9
  refine g_putR 15 dX7_init_12 rfl f_X7_12 (by decide) rfl rfl (Or.inr ⟨rfl, rfl⟩) rfl ?_
  refine g_aload_n 16 dX7_init_15 rfl rfl ?_
  refine g_new 19 dX7_init_16 rfl k_X7_16 rfl (by decide) (by decide) (by decide) (k_n (by (repeat (refine k_z ?_ (by decide))); exact fun c j h => hz c j (by omega))) (k_m (by (repeat (first | refine k_r ?_ (by decide) | refine k_q ?_ (by decide))); exact fun c j h => hr c j (by omega))) ?_
  refine g_dup 20 dX7_init_19 rfl rfl ?_
  refine g_callIN 23 [] [_, _] dX7_init_20 rfl m_X4_init l_X7_18 (i_Racers (by (repeat (refine k_z ?_ (by decide))); exact fun c j h => hz c j (by omega)) (by (repeat (first | refine k_r ?_ (by decide) | refine k_q ?_ (by decide))); exact fun c j h => hr c j (by omega))) rfl rfl (Nat.le_of_ble_eq_true rfl) (by decide) (by decide) (by decide) (fun r20 μ20 ρ20 hc9 => ?_)
  obtain ⟨rfl, rfl, rfl⟩ := hc9
  refine g_putR 26 dX7_init_23 rfl f_X7_19 (by decide) rfl rfl (Or.inr ⟨rfl, rfl⟩) rfl ?_
  refine g_aload_n 27 dX7_init_26 rfl rfl ?_
  refine g_new 30 dX7_init_27 rfl k_X7_23 rfl (by decide) (by decide) (by decide) (k_n (by (repeat (refine k_z ?_ (by decide))); exact fun c j h => hz c j (by omega))) (k_m (by (repeat (first | refine k_r ?_ (by decide) | refine k_q ?_ (by decide))); exact fun c j h => hr c j (by omega))) ?_
  refine g_dup 31 dX7_init_30 rfl rfl ?_
  refine g_callIN 34 [] [_, _] dX7_init_31 rfl m_X6_init l_X7_25 (i_Tape (by (repeat (refine k_z ?_ (by decide))); exact fun c j h => hz c j (by omega)) (by (repeat (first | refine k_r ?_ (by decide) | refine k_q ?_ (by decide))); exact fun c j h => hr c j (by omega))) rfl rfl (Nat.le_of_ble_eq_true rfl) (by decide) (by decide) (by decide) (fun r31 μ31 ρ31 hc9 => ?_)
  obtain ⟨rfl, rfl, rfl⟩ := hc9
  refine g_putR 37 dX7_init_34 rfl f_X7_26 (by decide) rfl rfl (Or.inr ⟨rfl, rfl⟩) rfl ?_
  refine g_aload_n 38 dX7_init_37 rfl rfl ?_
  refine g_new 41 dX7_init_38 rfl k_X7_30 rfl (by decide) (by decide) (by decide) (k_n (by (repeat (refine k_z ?_ (by decide))); exact fun c j h => hz c j (by omega))) (k_m (by (repeat (first | refine k_r ?_ (by decide) | refine k_q ?_ (by decide))); exact fun c j h => hr c j (by omega))) ?_
  refine g_dup 42 dX7_init_41 rfl rfl ?_
  refine g_callIN 45 [] [_, _] dX7_init_42 rfl m_X0_init l_X7_32 (i_Reader (by (repeat (refine k_z ?_ (by decide))); exact fun c j h => hz c j (by omega)) (by (repeat (first | refine k_r ?_ (by decide) | refine k_q ?_ (by decide))); exact fun c j h => hr c j (by omega))) rfl rfl (Nat.le_of_ble_eq_true rfl) (by decide) (by decide) (by decide) (fun r42 μ42 ρ42 hc9 => ?_)
  obtain ⟨rfl, rfl, rfl⟩ := hc9
  refine g_putR 48 dX7_init_45 rfl f_X7_33 (by decide) rfl rfl (Or.inr ⟨rfl, rfl⟩) rfl ?_
  refine g_aload_n 49 dX7_init_48 rfl rfl ?_
  refine g_new 52 dX7_init_49 rfl k_X7_37 rfl (by decide) (by decide) (by decide) (k_n (by (repeat (refine k_z ?_ (by decide))); exact fun c j h => hz c j (by omega))) (k_m (by (repeat (first | refine k_r ?_ (by decide) | refine k_q ?_ (by decide))); exact fun c j h => hr c j (by omega))) ?_
  refine g_dup 53 dX7_init_52 rfl rfl ?_
  refine g_callIN 56 [] [_, _] dX7_init_53 rfl m_X3_init l_X7_39 (i_Race (by (repeat (refine k_z ?_ (by decide))); exact fun c j h => hz c j (by omega)) (by (repeat (first | refine k_r ?_ (by decide) | refine k_q ?_ (by decide))); exact fun c j h => hr c j (by omega))) rfl rfl (Nat.le_of_ble_eq_true rfl) (by decide) (by decide) (by decide) (fun r53 μ53 ρ53 hc9 => ?_)
  obtain ⟨rfl, rfl, rfl⟩ := hc9
  refine g_putR 59 dX7_init_56 rfl f_X7_40 (by decide) rfl rfl (Or.inr ⟨rfl, rfl⟩) rfl ?_
  refine g_aload_n 60 dX7_init_59 rfl rfl ?_
  refine g_new 63 dX7_init_60 rfl k_X7_44 rfl (by decide) (by decide) (by decide) (k_n (by (repeat (refine k_z ?_ (by decide))); exact fun c j h => hz c j (by omega))) (k_m (by (repeat (first | refine k_r ?_ (by decide) | refine k_q ?_ (by decide))); exact fun c j h => hr c j (by omega))) ?_
  refine g_dup 64 dX7_init_63 rfl rfl ?_
  refine g_callIN 67 [] [_, _] dX7_init_64 rfl m_X2_init l_X7_46 (i_Kitch (by (repeat (refine k_z ?_ (by decide))); exact fun c j h => hz c j (by omega)) (by (repeat (first | refine k_r ?_ (by decide) | refine k_q ?_ (by decide))); exact fun c j h => hr c j (by omega))) rfl rfl (Nat.le_of_ble_eq_true rfl) (by decide) (by decide) (by decide) (fun r64 μ64 ρ64 hc9 => ?_)
  obtain ⟨rfl, rfl, rfl⟩ := hc9
  refine g_putR 70 dX7_init_67 rfl f_X7_47 (by decide) rfl rfl (Or.inr ⟨rfl, rfl⟩) rfl ?_
  refine g_aload_n 71 dX7_init_70 rfl rfl ?_
  refine g_iconst 72 5 dX7_init_71 rfl (by decide) ?_
  refine g_newI 74 dX7_init_72 rfl k_int rfl (by decide) rfl (by decide) (by decide) (by decide) (k_n (by (repeat (refine k_z ?_ (by decide))); exact fun c j h => hz c j (by omega))) ?_
  refine g_dup 75 dX7_init_74 rfl rfl ?_
  refine g_iconst 76 0 dX7_init_75 rfl (by decide) ?_
  refine g_bipush 78 60 dX7_init_76 rfl (by decide) ?_
  refine g_iast 79 dX7_init_78 rfl (by decide) rfl (vp_in_nI (n := 0) (by decide) (by decide)) ?_
  refine g_dup 80 dX7_init_79 rfl rfl ?_
  refine g_iconst 81 1 dX7_init_80 rfl (by decide) ?_
  refine g_bipush 83 120 dX7_init_81 rfl (by decide) ?_
  refine g_iast 84 dX7_init_83 rfl (by decide) rfl (vp_in_nI (n := 1) (by decide) (by decide)) ?_
  refine g_dup 85 dX7_init_84 rfl rfl ?_
  refine g_iconst 86 2 dX7_init_85 rfl (by decide) ?_
  refine g_bipush 88 60 dX7_init_86 rfl (by decide) ?_
  refine g_iast 89 dX7_init_88 rfl (by decide) rfl (vp_in_nI (n := 2) (by decide) (by decide)) ?_
  refine g_dup 90 dX7_init_89 rfl rfl ?_
  refine g_iconst 91 3 dX7_init_90 rfl (by decide) ?_
  refine g_bipush 93 100 dX7_init_91 rfl (by decide) ?_
  refine g_iast 94 dX7_init_93 rfl (by decide) rfl (vp_in_nI (n := 3) (by decide) (by decide)) ?_
  refine g_dup 95 dX7_init_94 rfl rfl ?_
  refine g_iconst 96 4 dX7_init_95 rfl (by decide) ?_
  refine g_bipush 98 10 dX7_init_96 rfl (by decide) ?_
  refine g_iast 99 dX7_init_98 rfl (by decide) rfl (vp_in_nI (n := 4) (by decide) (by decide)) ?_
  refine g_putR 102 dX7_init_99 rfl f_X7_51 (by decide) rfl rfl (Or.inr ⟨rfl, rfl⟩) rfl ?_
  refine g_aload_n 103 dX7_init_102 rfl rfl ?_
  refine g_new 106 dX7_init_103 rfl k_X7_55 rfl (by decide) (by decide) (by decide) (k_n (by (repeat (refine k_z ?_ (by decide))); exact fun c j h => hz c j (by omega))) (k_m (by (repeat (first | refine k_r ?_ (by decide) | refine k_q ?_ (by decide))); exact fun c j h => hr c j (by omega))) ?_
  refine g_dup 107 dX7_init_106 rfl rfl ?_
  refine g_callIN 110 [] [_, _] dX7_init_107 rfl m_X5_init l_X7_57 (i_Book70 (by (repeat (refine k_z ?_ (by decide))); exact fun c j h => hz c j (by omega)) (by (repeat (first | refine k_r ?_ (by decide) | refine k_q ?_ (by decide))); exact fun c j h => hr c j (by omega))) rfl rfl (Nat.le_of_ble_eq_true rfl) (by decide) (by decide) (by decide) (fun r107 μ107 ρ107 hc9 => ?_)
  obtain ⟨rfl, rfl, rfl⟩ := hc9
  refine g_putR 113 dX7_init_110 rfl f_X7_58 (by decide) rfl rfl (Or.inl rfl) rfl ?_
  refine g_aload_n 114 dX7_init_113 rfl rfl ?_
  refine g_new 117 dX7_init_114 rfl k_X7_55 rfl (by decide) (by decide) (by decide) (k_n (by (repeat (refine k_z ?_ (by decide))); exact fun c j h => hz c j (by omega))) (k_m (by (repeat (first | refine k_r ?_ (by decide) | refine k_q ?_ (by decide))); exact fun c j h => hr c j (by omega))) ?_
  refine g_dup 118 dX7_init_117 rfl rfl ?_
  refine g_callIN 121 [] [_, _] dX7_init_118 rfl m_X5_init l_X7_57 (i_Book96 (by (repeat (refine k_z ?_ (by decide))); exact fun c j h => hz c j (by omega)) (by (repeat (first | refine k_r ?_ (by decide) | refine k_q ?_ (by decide))); exact fun c j h => hr c j (by omega))) rfl rfl (Nat.le_of_ble_eq_true rfl) (by decide) (by decide) (by decide) (fun r118 μ118 ρ118 hc9 => ?_)
  obtain ⟨rfl, rfl, rfl⟩ := hc9
  refine g_putR 124 dX7_init_121 rfl f_X7_62 (by decide) rfl rfl (Or.inl rfl) rfl ?_
  refine g_aload_n 125 dX7_init_124 rfl rfl ?_
  refine g_iconst 126 1 dX7_init_125 rfl (by decide) ?_
  refine g_putZ 129 dX7_init_126 rfl f_X7_65 (by decide) rfl rfl (by decide) ?_
  exact g_rv dX7_init_129 rfl rfl ⟨rfl, rfl⟩
set_option maxRecDepth 100000 in
set_option maxHeartbeats 8000000 in
theorem i_Model (hz : ∀ c j, 123 ≤ c → μ c j = 0) (hr : ∀ c j, 123 ≤ c → ρ c j = none) : q_Ct C l FX8_init 1 123 142 [.ref (q_a C 122)] μ ρ (q_PV fun μ' ρ' => μ' = (q_up (q_up (q_up (q_up (q_up (q_up (q_up (q_up (q_up (q_up (q_up (q_up (q_up (q_up (q_up (q_up (q_up (q_up (q_up (q_up μ 122 21 (-1)) 123 1 100) 123 2 100) 123 3 100) 123 4 100) 123 5 100) 123 6 100) 123 7 100) 124 0 6) 124 1 6) 124 2 6) 124 3 6) 124 4 6) 124 5 6) 124 6 6) 128 0 60) 128 1 120) 128 2 60) 128 3 100) 128 4 10) ∧ ρ' = (q_up (q_up (q_up (q_up (q_up (q_up (q_up (q_up (q_up (q_up (q_up (q_up (q_up (q_up (q_up (q_up (q_up (q_up (q_up ρ 122 1 (some 123)) 122 2 (some 124)) 122 3 (some 125)) 122 4 (some 126)) 122 5 (some 127)) 122 6 (some 128)) 122 7 (some 129)) 122 8 (some 130)) 122 9 (some 131)) 122 10 (some 132)) 122 11 (some 133)) 122 22 (some 134)) 122 23 (some 135)) 122 24 (some 136)) 122 25 (some 137)) 122 26 (some 138)) 122 27 (some 139)) 122 28 (some 140)) 122 29 (some 141))) := by
  refine q_entry rfl (by decide) (Nat.le_of_ble_eq_true rfl) ?_
  refine g_lv [(0, _)] rfl ?_
  refine g_aload_n 1 dX8_init_0 rfl rfl ?_
  refine g_obj 4 dX8_init_1 rfl o_X8_1 o_im o_cd (by decide) (Nat.le_of_ble_eq_true rfl) ?_
  refine g_aload_n 5 dX8_init_4 rfl rfl ?_
  refine g_bipush 7 8 dX8_init_5 rfl (by decide) ?_
  refine g_newI 9 dX8_init_7 rfl k_int rfl (by decide) rfl (by decide) (by decide) (by decide) (k_n (by (repeat (refine k_z ?_ (by decide))); exact fun c j h => hz c j (by omega))) ?_
  refine g_putR 12 dX8_init_9 rfl f_X8_7 (by decide) rfl rfl (Or.inr ⟨rfl, rfl⟩) rfl ?_
  refine g_aload_n 13 dX8_init_12 rfl rfl ?_
  refine g_bipush 15 7 dX8_init_13 rfl (by decide) ?_
  refine g_newI 17 dX8_init_15 rfl k_int rfl (by decide) rfl (by decide) (by decide) (by decide) (k_n (by (repeat (refine k_z ?_ (by decide))); exact fun c j h => hz c j (by omega))) ?_
  refine g_putR 20 dX8_init_17 rfl f_X8_13 (by decide) rfl rfl (Or.inr ⟨rfl, rfl⟩) rfl ?_
  refine g_aload_n 21 dX8_init_20 rfl rfl ?_
  refine g_bipush 23 10 dX8_init_21 rfl (by decide) ?_
  refine g_newI 25 dX8_init_23 rfl k_int rfl (by decide) rfl (by decide) (by decide) (by decide) (k_n (by (repeat (refine k_z ?_ (by decide))); exact fun c j h => hz c j (by omega))) ?_
  refine g_putR 28 dX8_init_25 rfl f_X8_16 (by decide) rfl rfl (Or.inr ⟨rfl, rfl⟩) rfl ?_
  refine g_aload_n 29 dX8_init_28 rfl rfl ?_
  refine g_bipush 31 10 dX8_init_29 rfl (by decide) ?_
  refine g_newI 33 dX8_init_31 rfl k_int rfl (by decide) rfl (by decide) (by decide) (by decide) (k_n (by (repeat (refine k_z ?_ (by decide))); exact fun c j h => hz c j (by omega))) ?_
  refine g_putR 36 dX8_init_33 rfl f_X8_19 (by decide) rfl rfl (Or.inr ⟨rfl, rfl⟩) rfl ?_
  refine g_aload_n 37 dX8_init_36 rfl rfl ?_
  refine g_bipush 39 10 dX8_init_37 rfl (by decide) ?_
  refine g_newI 41 dX8_init_39 rfl k_int rfl (by decide) rfl (by decide) (by decide) (by decide) (k_n (by (repeat (refine k_z ?_ (by decide))); exact fun c j h => hz c j (by omega))) ?_
  refine g_putR 44 dX8_init_41 rfl f_X8_22 (by decide) rfl rfl (Or.inr ⟨rfl, rfl⟩) rfl ?_
  refine g_aload_n 45 dX8_init_44 rfl rfl ?_
  refine g_iconst 46 5 dX8_init_45 rfl (by decide) ?_
  refine g_newI 48 dX8_init_46 rfl k_int rfl (by decide) rfl (by decide) (by decide) (by decide) (k_n (by (repeat (refine k_z ?_ (by decide))); exact fun c j h => hz c j (by omega))) ?_
  refine g_putR 51 dX8_init_48 rfl f_X8_25 (by decide) rfl rfl (Or.inr ⟨rfl, rfl⟩) rfl ?_
  refine g_aload_n 52 dX8_init_51 rfl rfl ?_
  refine g_bipush 54 7 dX8_init_52 rfl (by decide) ?_
  refine g_newI 56 dX8_init_54 rfl k_int rfl (by decide) rfl (by decide) (by decide) (by decide) (k_n (by (repeat (refine k_z ?_ (by decide))); exact fun c j h => hz c j (by omega))) ?_
  refine g_putR 59 dX8_init_56 rfl f_X8_28 (by decide) rfl rfl (Or.inr ⟨rfl, rfl⟩) rfl ?_
  refine g_aload_n 60 dX8_init_59 rfl rfl ?_
  refine g_bipush 62 84 dX8_init_60 rfl (by decide) ?_
  refine g_newI 64 dX8_init_62 rfl k_int rfl (by decide) rfl (by decide) (by decide) (by decide) (k_n (by (repeat (refine k_z ?_ (by decide))); exact fun c j h => hz c j (by omega))) ?_
  refine g_putR 67 dX8_init_64 rfl f_X8_31 (by decide) rfl rfl (Or.inr ⟨rfl, rfl⟩) rfl ?_
  refine g_aload_n 68 dX8_init_67 rfl rfl ?_
  refine g_bipush 70 7 dX8_init_68 rfl (by decide) ?_
  refine g_newI 72 dX8_init_70 rfl k_int rfl (by decide) rfl (by decide) (by decide) (by decide) (k_n (by (repeat (refine k_z ?_ (by decide))); exact fun c j h => hz c j (by omega))) ?_
  refine g_putR 75 dX8_init_72 rfl f_X8_34 (by decide) rfl rfl (Or.inr ⟨rfl, rfl⟩) rfl ?_
  refine g_aload_n 76 dX8_init_75 rfl rfl ?_
  refine g_bipush 78 84 dX8_init_76 rfl (by decide) ?_
  refine g_newI 80 dX8_init_78 rfl k_int rfl (by decide) rfl (by decide) (by decide) (by decide) (k_n (by (repeat (refine k_z ?_ (by decide))); exact fun c j h => hz c j (by omega))) ?_
  refine g_putR 83 dX8_init_80 rfl f_X8_37 (by decide) rfl rfl (Or.inr ⟨rfl, rfl⟩) rfl ?_
  refine g_aload_n 84 dX8_init_83 rfl rfl ?_
  refine g_sipush 87 600 dX8_init_84 rfl (by decide) ?_
  refine g_newI 89 dX8_init_87 rfl k_int rfl (by decide) rfl (by decide) (by decide) (by decide) (k_n (by (repeat (refine k_z ?_ (by decide))); exact fun c j h => hz c j (by omega))) ?_
  refine g_putR 92 dX8_init_89 rfl f_X8_40 (by decide) rfl rfl (Or.inr ⟨rfl, rfl⟩) rfl ?_
  refine g_aload_n 93 dX8_init_92 rfl rfl ?_
  refine g_iconst 94 (-1) dX8_init_93 rfl (by decide) ?_
  refine g_putI 97 dX8_init_94 rfl f_X8_43 (by decide) rfl rfl (Or.inl rfl) ?_
  refine g_aload_n 98 dX8_init_97 rfl rfl ?_
  refine g_bipush 100 70 dX8_init_98 rfl (by decide) ?_
  refine g_newI 102 dX8_init_100 rfl k_int rfl (by decide) rfl (by decide) (by decide) (by decide) (k_n (by (repeat (refine k_z ?_ (by decide))); exact fun c j h => hz c j (by omega))) ?_
  refine g_putR 105 dX8_init_102 rfl f_X8_47 (by decide) rfl rfl (Or.inr ⟨rfl, rfl⟩) rfl ?_
  refine g_aload_n 106 dX8_init_105 rfl rfl ?_
  refine g_bipush 108 70 dX8_init_106 rfl (by decide) ?_
  refine g_newI 110 dX8_init_108 rfl k_int rfl (by decide) rfl (by decide) (by decide) (by decide) (k_n (by (repeat (refine k_z ?_ (by decide))); exact fun c j h => hz c j (by omega))) ?_
  refine g_putR 113 dX8_init_110 rfl f_X8_50 (by decide) rfl rfl (Or.inr ⟨rfl, rfl⟩) rfl ?_
  refine g_aload_n 114 dX8_init_113 rfl rfl ?_
  refine g_bipush 116 70 dX8_init_114 rfl (by decide) ?_
  refine g_newI 118 dX8_init_116 rfl k_int rfl (by decide) rfl (by decide) (by decide) (by decide) (k_n (by (repeat (refine k_z ?_ (by decide))); exact fun c j h => hz c j (by omega))) ?_
  refine g_putR 121 dX8_init_118 rfl f_X8_53 (by decide) rfl rfl (Or.inr ⟨rfl, rfl⟩) rfl ?_
  refine g_aload_n 122 dX8_init_121 rfl rfl ?_
  refine g_bipush 124 70 dX8_init_122 rfl (by decide) ?_
  refine g_newI 126 dX8_init_124 rfl k_int rfl (by decide) rfl (by decide) (by decide) (by decide) (k_n (by (repeat (refine k_z ?_ (by decide))); exact fun c j h => hz c j (by omega))) ?_
  refine g_putR 129 dX8_init_126 rfl f_X8_56 (by decide) rfl rfl (Or.inr ⟨rfl, rfl⟩) rfl ?_
  refine g_aload_n 130 dX8_init_129 rfl rfl ?_
  refine g_bipush 132 7 dX8_init_130 rfl (by decide) ?_
  refine g_newI 134 dX8_init_132 rfl k_int rfl (by decide) rfl (by decide) (by decide) (by decide) (k_n (by (repeat (refine k_z ?_ (by decide))); exact fun c j h => hz c j (by omega))) ?_
  refine g_putR 137 dX8_init_134 rfl f_X8_59 (by decide) rfl rfl (Or.inr ⟨rfl, rfl⟩) rfl ?_
  refine g_aload_n 138 dX8_init_137 rfl rfl ?_
  refine g_bipush 140 8 dX8_init_138 rfl (by decide) ?_
  refine g_newI 142 dX8_init_140 rfl k_int rfl (by decide) rfl (by decide) (by decide) (by decide) (k_n (by (repeat (refine k_z ?_ (by decide))); exact fun c j h => hz c j (by omega))) ?_
  refine g_putR 145 dX8_init_142 rfl f_X8_62 (by decide) rfl rfl (Or.inr ⟨rfl, rfl⟩) rfl ?_
  refine g_aload_n 146 dX8_init_145 rfl rfl ?_
  refine g_bipush 148 8 dX8_init_146 rfl (by decide) ?_
  refine g_newI 150 dX8_init_148 rfl k_int rfl (by decide) rfl (by decide) (by decide) (by decide) (k_n (by (repeat (refine k_z ?_ (by decide))); exact fun c j h => hz c j (by omega))) ?_
  refine g_putR 153 dX8_init_150 rfl f_X8_65 (by decide) rfl rfl (Or.inr ⟨rfl, rfl⟩) rfl ?_
  refine g_aload_n 154 dX8_init_153 rfl rfl ?_
  refine g_bipush 156 8 dX8_init_154 rfl (by decide) ?_
  refine g_newI 158 dX8_init_156 rfl k_int rfl (by decide) rfl (by decide) (by decide) (by decide) (k_n (by (repeat (refine k_z ?_ (by decide))); exact fun c j h => hz c j (by omega))) ?_
  refine g_putR 161 dX8_init_158 rfl f_X8_68 (by decide) rfl rfl (Or.inr ⟨rfl, rfl⟩) rfl ?_
  refine g_iconst 162 1 dX8_init_161 rfl (by decide) ?_
  refine g_istore_n 163 dX8_init_162 rfl (by decide) ?_
  refine g_iload_n 164 dX8_init_163 rfl rfl ?_
  refine g_bipush 166 8 dX8_init_164 rfl (by decide) ?_
  refine g_icmp_ge 183 169 dX8_init_166 rfl (by decide) (fun h9 => ?_) (fun h9 => ?_)
  · exact absurd h9 (by decide)
  refine g_aload_n 170 dX8_init_169 rfl rfl ?_
  refine g_getR 173 123 dX8_init_170 rfl f_X8_7 (by decide) rfl rfl rfl ?_
  refine g_iload_n 174 dX8_init_173 rfl rfl ?_
  refine g_bipush 176 100 dX8_init_174 rfl (by decide) ?_
  refine g_iast 177 dX8_init_176 rfl (by decide) rfl (vp_in_nI (n := 1) (by decide) (by decide)) ?_
  refine g_iinc 180 2 dX8_init_177 rfl rfl (by decide) (by decide) ?_
  refine g_goto 163 dX8_init_180 (by decide) ?_
  refine g_lv [(0, _), (1, _)] rfl ?_
  refine g_iload_n 164 dX8_init_163 rfl rfl ?_
  refine g_bipush 166 8 dX8_init_164 rfl (by decide) ?_
  refine g_icmp_ge 183 169 dX8_init_166 rfl (by decide) (fun h9 => ?_) (fun h9 => ?_)
  · exact absurd h9 (by decide)
  refine g_aload_n 170 dX8_init_169 rfl rfl ?_
  refine g_getR 173 123 dX8_init_170 rfl f_X8_7 (by decide) rfl rfl rfl ?_
  refine g_iload_n 174 dX8_init_173 rfl rfl ?_
  refine g_bipush 176 100 dX8_init_174 rfl (by decide) ?_
  refine g_iast 177 dX8_init_176 rfl (by decide) rfl (vp_in_nI (n := 2) (by decide) (by decide)) ?_
  refine g_iinc 180 3 dX8_init_177 rfl rfl (by decide) (by decide) ?_
  refine g_goto 163 dX8_init_180 (by decide) ?_
  refine g_lv [(0, _), (1, _)] rfl ?_
  refine g_iload_n 164 dX8_init_163 rfl rfl ?_
  refine g_bipush 166 8 dX8_init_164 rfl (by decide) ?_
  refine g_icmp_ge 183 169 dX8_init_166 rfl (by decide) (fun h9 => ?_) (fun h9 => ?_)
  · exact absurd h9 (by decide)
  refine g_aload_n 170 dX8_init_169 rfl rfl ?_
  refine g_getR 173 123 dX8_init_170 rfl f_X8_7 (by decide) rfl rfl rfl ?_
  refine g_iload_n 174 dX8_init_173 rfl rfl ?_
  refine g_bipush 176 100 dX8_init_174 rfl (by decide) ?_
  refine g_iast 177 dX8_init_176 rfl (by decide) rfl (vp_in_nI (n := 3) (by decide) (by decide)) ?_
  refine g_iinc 180 4 dX8_init_177 rfl rfl (by decide) (by decide) ?_
  refine g_goto 163 dX8_init_180 (by decide) ?_
  refine g_lv [(0, _), (1, _)] rfl ?_
  refine g_iload_n 164 dX8_init_163 rfl rfl ?_
  refine g_bipush 166 8 dX8_init_164 rfl (by decide) ?_
  refine g_icmp_ge 183 169 dX8_init_166 rfl (by decide) (fun h9 => ?_) (fun h9 => ?_)
  · exact absurd h9 (by decide)
  refine g_aload_n 170 dX8_init_169 rfl rfl ?_
  refine g_getR 173 123 dX8_init_170 rfl f_X8_7 (by decide) rfl rfl rfl ?_
  refine g_iload_n 174 dX8_init_173 rfl rfl ?_
  refine g_bipush 176 100 dX8_init_174 rfl (by decide) ?_
  refine g_iast 177 dX8_init_176 rfl (by decide) rfl (vp_in_nI (n := 4) (by decide) (by decide)) ?_
  refine g_iinc 180 5 dX8_init_177 rfl rfl (by decide) (by decide) ?_
  refine g_goto 163 dX8_init_180 (by decide) ?_
  refine g_lv [(0, _), (1, _)] rfl ?_
  refine g_iload_n 164 dX8_init_163 rfl rfl ?_
  refine g_bipush 166 8 dX8_init_164 rfl (by decide) ?_
  refine g_icmp_ge 183 169 dX8_init_166 rfl (by decide) (fun h9 => ?_) (fun h9 => ?_)
  · exact absurd h9 (by decide)
  refine g_aload_n 170 dX8_init_169 rfl rfl ?_
  refine g_getR 173 123 dX8_init_170 rfl f_X8_7 (by decide) rfl rfl rfl ?_
  refine g_iload_n 174 dX8_init_173 rfl rfl ?_
  refine g_bipush 176 100 dX8_init_174 rfl (by decide) ?_
  refine g_iast 177 dX8_init_176 rfl (by decide) rfl (vp_in_nI (n := 5) (by decide) (by decide)) ?_
  refine g_iinc 180 6 dX8_init_177 rfl rfl (by decide) (by decide) ?_
  refine g_goto 163 dX8_init_180 (by decide) ?_
  refine g_lv [(0, _), (1, _)] rfl ?_
  refine g_iload_n 164 dX8_init_163 rfl rfl ?_
  refine g_bipush 166 8 dX8_init_164 rfl (by decide) ?_
  refine g_icmp_ge 183 169 dX8_init_166 rfl (by decide) (fun h9 => ?_) (fun h9 => ?_)
  · exact absurd h9 (by decide)
  refine g_aload_n 170 dX8_init_169 rfl rfl ?_
  refine g_getR 173 123 dX8_init_170 rfl f_X8_7 (by decide) rfl rfl rfl ?_
  refine g_iload_n 174 dX8_init_173 rfl rfl ?_
  refine g_bipush 176 100 dX8_init_174 rfl (by decide) ?_
  refine g_iast 177 dX8_init_176 rfl (by decide) rfl (vp_in_nI (n := 6) (by decide) (by decide)) ?_
  refine g_iinc 180 7 dX8_init_177 rfl rfl (by decide) (by decide) ?_
  refine g_goto 163 dX8_init_180 (by decide) ?_
  refine g_lv [(0, _), (1, _)] rfl ?_
  refine g_iload_n 164 dX8_init_163 rfl rfl ?_
  refine g_bipush 166 8 dX8_init_164 rfl (by decide) ?_
  refine g_icmp_ge 183 169 dX8_init_166 rfl (by decide) (fun h9 => ?_) (fun h9 => ?_)
  · exact absurd h9 (by decide)
  refine g_aload_n 170 dX8_init_169 rfl rfl ?_
  refine g_getR 173 123 dX8_init_170 rfl f_X8_7 (by decide) rfl rfl rfl ?_
  refine g_iload_n 174 dX8_init_173 rfl rfl ?_
  refine g_bipush 176 100 dX8_init_174 rfl (by decide) ?_
  refine g_iast 177 dX8_init_176 rfl (by decide) rfl (vp_in_nI (n := 7) (by decide) (by decide)) ?_
  refine g_iinc 180 8 dX8_init_177 rfl rfl (by decide) (by decide) ?_
  refine g_goto 163 dX8_init_180 (by decide) ?_
  refine g_lv [(0, _), (1, _)] rfl ?_
  refine g_iload_n 164 dX8_init_163 rfl rfl ?_
  refine g_bipush 166 8 dX8_init_164 rfl (by decide) ?_
  refine g_icmp_ge 183 169 dX8_init_166 rfl (by decide) (fun h9 => ?_) (fun h9 => ?_)
  rotate_left
  · exact absurd (by decide) h9
  refine g_iconst 184 0 dX8_init_183 rfl (by decide) ?_
  refine g_istore_n 185 dX8_init_184 rfl (by decide) ?_
  refine g_iload_n 186 dX8_init_185 rfl rfl ?_
  refine g_bipush 188 7 dX8_init_186 rfl (by decide) ?_
  refine g_icmp_ge 205 191 dX8_init_188 rfl (by decide) (fun h9 => ?_) (fun h9 => ?_)
  · exact absurd h9 (by decide)
  refine g_aload_n 192 dX8_init_191 rfl rfl ?_
  refine g_getR 195 124 dX8_init_192 rfl f_X8_13 (by decide) rfl rfl rfl ?_
  refine g_iload_n 196 dX8_init_195 rfl rfl ?_
  refine g_bipush 198 6 dX8_init_196 rfl (by decide) ?_
  refine g_iast 199 dX8_init_198 rfl (by decide) rfl (vp_in_nI (n := 0) (by decide) (by decide)) ?_
  refine g_iinc 202 1 dX8_init_199 rfl rfl (by decide) (by decide) ?_
  refine g_goto 185 dX8_init_202 (by decide) ?_
  refine g_lv [(0, _), (1, _)] rfl ?_
  refine g_iload_n 186 dX8_init_185 rfl rfl ?_
  refine g_bipush 188 7 dX8_init_186 rfl (by decide) ?_
  refine g_icmp_ge 205 191 dX8_init_188 rfl (by decide) (fun h9 => ?_) (fun h9 => ?_)
  · exact absurd h9 (by decide)
  refine g_aload_n 192 dX8_init_191 rfl rfl ?_
  refine g_getR 195 124 dX8_init_192 rfl f_X8_13 (by decide) rfl rfl rfl ?_
  refine g_iload_n 196 dX8_init_195 rfl rfl ?_
  refine g_bipush 198 6 dX8_init_196 rfl (by decide) ?_
  refine g_iast 199 dX8_init_198 rfl (by decide) rfl (vp_in_nI (n := 1) (by decide) (by decide)) ?_
  refine g_iinc 202 2 dX8_init_199 rfl rfl (by decide) (by decide) ?_
  refine g_goto 185 dX8_init_202 (by decide) ?_
  refine g_lv [(0, _), (1, _)] rfl ?_
  refine g_iload_n 186 dX8_init_185 rfl rfl ?_
  refine g_bipush 188 7 dX8_init_186 rfl (by decide) ?_
  refine g_icmp_ge 205 191 dX8_init_188 rfl (by decide) (fun h9 => ?_) (fun h9 => ?_)
  · exact absurd h9 (by decide)
  refine g_aload_n 192 dX8_init_191 rfl rfl ?_
  refine g_getR 195 124 dX8_init_192 rfl f_X8_13 (by decide) rfl rfl rfl ?_
  refine g_iload_n 196 dX8_init_195 rfl rfl ?_
  refine g_bipush 198 6 dX8_init_196 rfl (by decide) ?_
  refine g_iast 199 dX8_init_198 rfl (by decide) rfl (vp_in_nI (n := 2) (by decide) (by decide)) ?_
  refine g_iinc 202 3 dX8_init_199 rfl rfl (by decide) (by decide) ?_
  refine g_goto 185 dX8_init_202 (by decide) ?_
  refine g_lv [(0, _), (1, _)] rfl ?_
  refine g_iload_n 186 dX8_init_185 rfl rfl ?_
  refine g_bipush 188 7 dX8_init_186 rfl (by decide) ?_
  refine g_icmp_ge 205 191 dX8_init_188 rfl (by decide) (fun h9 => ?_) (fun h9 => ?_)
  · exact absurd h9 (by decide)
  refine g_aload_n 192 dX8_init_191 rfl rfl ?_
  refine g_getR 195 124 dX8_init_192 rfl f_X8_13 (by decide) rfl rfl rfl ?_
  refine g_iload_n 196 dX8_init_195 rfl rfl ?_
  refine g_bipush 198 6 dX8_init_196 rfl (by decide) ?_
  refine g_iast 199 dX8_init_198 rfl (by decide) rfl (vp_in_nI (n := 3) (by decide) (by decide)) ?_
  refine g_iinc 202 4 dX8_init_199 rfl rfl (by decide) (by decide) ?_
  refine g_goto 185 dX8_init_202 (by decide) ?_
  refine g_lv [(0, _), (1, _)] rfl ?_
  refine g_iload_n 186 dX8_init_185 rfl rfl ?_
  refine g_bipush 188 7 dX8_init_186 rfl (by decide) ?_
  refine g_icmp_ge 205 191 dX8_init_188 rfl (by decide) (fun h9 => ?_) (fun h9 => ?_)
  · exact absurd h9 (by decide)
  refine g_aload_n 192 dX8_init_191 rfl rfl ?_
  refine g_getR 195 124 dX8_init_192 rfl f_X8_13 (by decide) rfl rfl rfl ?_
  refine g_iload_n 196 dX8_init_195 rfl rfl ?_
  refine g_bipush 198 6 dX8_init_196 rfl (by decide) ?_
  refine g_iast 199 dX8_init_198 rfl (by decide) rfl (vp_in_nI (n := 4) (by decide) (by decide)) ?_
  refine g_iinc 202 5 dX8_init_199 rfl rfl (by decide) (by decide) ?_
  refine g_goto 185 dX8_init_202 (by decide) ?_
  refine g_lv [(0, _), (1, _)] rfl ?_
  refine g_iload_n 186 dX8_init_185 rfl rfl ?_
  refine g_bipush 188 7 dX8_init_186 rfl (by decide) ?_
  refine g_icmp_ge 205 191 dX8_init_188 rfl (by decide) (fun h9 => ?_) (fun h9 => ?_)
  · exact absurd h9 (by decide)
  refine g_aload_n 192 dX8_init_191 rfl rfl ?_
  refine g_getR 195 124 dX8_init_192 rfl f_X8_13 (by decide) rfl rfl rfl ?_
  refine g_iload_n 196 dX8_init_195 rfl rfl ?_
  refine g_bipush 198 6 dX8_init_196 rfl (by decide) ?_
  refine g_iast 199 dX8_init_198 rfl (by decide) rfl (vp_in_nI (n := 5) (by decide) (by decide)) ?_
  refine g_iinc 202 6 dX8_init_199 rfl rfl (by decide) (by decide) ?_
  refine g_goto 185 dX8_init_202 (by decide) ?_
  refine g_lv [(0, _), (1, _)] rfl ?_
  refine g_iload_n 186 dX8_init_185 rfl rfl ?_
  refine g_bipush 188 7 dX8_init_186 rfl (by decide) ?_
  refine g_icmp_ge 205 191 dX8_init_188 rfl (by decide) (fun h9 => ?_) (fun h9 => ?_)
  · exact absurd h9 (by decide)
  refine g_aload_n 192 dX8_init_191 rfl rfl ?_
  refine g_getR 195 124 dX8_init_192 rfl f_X8_13 (by decide) rfl rfl rfl ?_
  refine g_iload_n 196 dX8_init_195 rfl rfl ?_
  refine g_bipush 198 6 dX8_init_196 rfl (by decide) ?_
  refine g_iast 199 dX8_init_198 rfl (by decide) rfl (vp_in_nI (n := 6) (by decide) (by decide)) ?_
  refine g_iinc 202 7 dX8_init_199 rfl rfl (by decide) (by decide) ?_
  refine g_goto 185 dX8_init_202 (by decide) ?_
  refine g_lv [(0, _), (1, _)] rfl ?_
  refine g_iload_n 186 dX8_init_185 rfl rfl ?_
  refine g_bipush 188 7 dX8_init_186 rfl (by decide) ?_
  refine g_icmp_ge 205 191 dX8_init_188 rfl (by decide) (fun h9 => ?_) (fun h9 => ?_)
  rotate_left
  · exact absurd (by decide) h9
  refine g_aload_n 206 dX8_init_205 rfl rfl ?_
  refine g_getR 209 128 dX8_init_206 rfl f_X8_25 (by decide) rfl rfl rfl ?_
  refine g_iconst 210 0 dX8_init_209 rfl (by decide) ?_
  refine g_bipush 212 60 dX8_init_210 rfl (by decide) ?_
  refine g_iast 213 dX8_init_212 rfl (by decide) rfl (vp_in_nI (n := 0) (by decide) (by decide)) ?_
  refine g_aload_n 214 dX8_init_213 rfl rfl ?_
  refine g_getR 217 128 dX8_init_214 rfl f_X8_25 (by decide) rfl rfl rfl ?_
  refine g_iconst 218 1 dX8_init_217 rfl (by decide) ?_
  refine g_bipush 220 120 dX8_init_218 rfl (by decide) ?_
  refine g_iast 221 dX8_init_220 rfl (by decide) rfl (vp_in_nI (n := 1) (by decide) (by decide)) ?_
  refine g_aload_n 222 dX8_init_221 rfl rfl ?_
  refine g_getR 225 128 dX8_init_222 rfl f_X8_25 (by decide) rfl rfl rfl ?_
  refine g_iconst 226 2 dX8_init_225 rfl (by decide) ?_
  refine g_bipush 228 60 dX8_init_226 rfl (by decide) ?_
  refine g_iast 229 dX8_init_228 rfl (by decide) rfl (vp_in_nI (n := 2) (by decide) (by decide)) ?_
  refine g_aload_n 230 dX8_init_229 rfl rfl ?_
  refine g_getR 233 128 dX8_init_230 rfl f_X8_25 (by decide) rfl rfl rfl ?_
  refine g_iconst 234 3 dX8_init_233 rfl (by decide) ?_
  refine g_bipush 236 100 dX8_init_234 rfl (by decide) ?_
  refine g_iast 237 dX8_init_236 rfl (by decide) rfl (vp_in_nI (n := 3) (by decide) (by decide)) ?_
  refine g_aload_n 238 dX8_init_237 rfl rfl ?_
  refine g_getR 241 128 dX8_init_238 rfl f_X8_25 (by decide) rfl rfl rfl ?_
  refine g_iconst 242 4 dX8_init_241 rfl (by decide) ?_
  refine g_bipush 244 10 dX8_init_242 rfl (by decide) ?_
  refine g_iast 245 dX8_init_244 rfl (by decide) rfl (vp_in_nI (n := 4) (by decide) (by decide)) ?_
  exact g_rv dX8_init_245 rfl rfl ⟨rfl, rfl⟩
end IN
