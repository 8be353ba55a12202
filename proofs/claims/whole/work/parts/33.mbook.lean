/-! ===== book of the reference ===== -/
def q_MQ (R : Nat × Nat × q_B) (b : Bool) (μ : q_M) (v : Int32) (μ' : q_M) (ρ' : q_R) : Prop := q_ρ b = ρ' ∧ (if R.1 = 0 then nI (q_tot R.2.2) else -1) = v ∧ μ' 122 12 = 0 ∧ μ' 122 19 = nI R.1 ∧ μ' 122 21 = (if R.1 = 0 then -1 else nI R.2.1) ∧ (R.1 = 0 → q_RZ 129 130 μ' R.2.2) ∧ (R.1 ≠ 0 → ∀ c j, c = 129 ∨ c = 130 → μ' c j = μ c j) ∧ ∀ c j, (c < 129 ∨ 132 < c) → (c = 122 → j < 12 ∨ 21 < j) → μ' c j = μ c j
def q_cp (μ : q_M) (a z k : Nat) : q_M := fun c j => if c = z ∧ j < k then μ a j else μ c j
theorem q_cp_0 {μ : q_M} {a z : Nat} : q_cp μ a z 0 = μ := by funext c j; simp [q_cp]
theorem q_cp_s {μ : q_M} {a z k : Nat} : q_up (q_cp μ a z k) z k (μ a k) = q_cp μ a z (k + 1) := by
  funext c j
  unfold q_up q_cp
  by_cases h : c = z ∧ j = k
  · rw [if_pos h, if_pos ⟨h.1, by omega⟩, h.2]
  · rw [if_neg h]
    by_cases h2 : c = z ∧ j < k
    · rw [if_pos h2, if_pos ⟨h2.1, by omega⟩]
    · rw [if_neg h2, if_neg (by omega)]
theorem q_cp_o {μ : q_M} {a z k c j : Nat} (h : c ≠ z) : q_cp μ a z k c j = μ c j := if_neg (fun q => h q.1)
theorem q_cp_i {μ : q_M} {a z k j : Nat} (h : j < k) : q_cp μ a z k z j = μ a j := if_pos ⟨rfl, h⟩
section MK
variable {C : q_C} {l : Launch} {μ : q_M} {b : Bool} {Y : Nat → Int32} {L : Nat} {R : Nat × Nat × q_B} {μ0 : q_M}
theorem q_s7 {f : Nat → Int32} {B : q_B} (h : ∀ i, i < 7 → f i = nI (B.1 i)) : q_sum f 7 = nI (q_tot B) := by
  show 0 + f 0 + f 1 + f 2 + f 3 + f 4 + f 5 + f 6 = _
  rw [h 0 (by decide), h 1 (by decide), h 2 (by decide), h 3 (by decide), h 4 (by decide), h 5 (by decide), h 6 (by decide), show (0 : Int32) = nI 0 from rfl, nI_add, nI_add, nI_add, nI_add, nI_add, nI_add, nI_add]
  unfold q_tot
  congr 1
  omega
theorem q_MQ_no (h : q_ML R μ0 μ) : q_MQ R b μ0 (-1) (q_up (q_up (q_up μ 122 12 0) 122 19 (μ 122 17)) 122 21 (μ 122 18)) (q_ρ b) := by
  refine ⟨rfl, if_neg h.1, ?_, ?_, ?_, fun q => absurd q h.1, fun _ c j a => ?_, fun c j a1 a2 => ?_⟩
  · rw [q_upo (by decide), q_upo (by decide), q_ups]
  · rw [q_upo (by decide), q_ups]; exact h.2.1
  · rw [q_ups, if_neg h.1]; exact h.2.2.1
  · rw [q_upo (by omega), q_upo (by omega), q_upo (by omega)]; exact h.2.2.2 c j (by omega) (by omega) (by omega)
  · rw [q_upo (by omega), q_upo (by omega), q_upo (by omega)]; exact h.2.2.2 c j (by omega) (by omega) (by omega)
theorem q_MQ_ok {M : q_M} {v : Int32} (hR : R.1 = 0) (hRN : q_RZ 131 132 μ R.2.2) (hW : q_WF R.2.2) (hF : q_MG9 μ0 μ) (hM : M = q_cp (q_cp (q_up (q_up (q_up μ 122 12 0) 122 19 0) 122 21 (-1)) 131 129 7) 132 130 84) (hv : q_sum (M 129) 7 = v) : q_MQ R b μ0 v M (q_ρ b) := by
  have h1 : ∀ i, i < 7 → M 129 i = nI (R.2.2.1 i) := fun i hi => by
    rw [hM, q_cp_o (by decide), q_cp_i hi, q_upo (by omega), q_upo (by omega), q_upo (by omega)]
    exact (hRN i hi).1
  refine ⟨rfl, ?_, ?_, ?_, ?_, fun _ i hi => ⟨h1 i hi, fun j hj => ?_⟩, fun q => absurd hR q, fun c j a1 a2 => ?_⟩
  · rw [if_pos hR, ← hv]; exact (q_s7 h1).symm
  · rw [hM, q_cp_o (by decide), q_cp_o (by decide), q_upo (by decide), q_upo (by decide), q_ups]
  · rw [hM, q_cp_o (by decide), q_cp_o (by decide), q_upo (by decide), q_ups, hR]; rfl
  · rw [hM, q_cp_o (by decide), q_cp_o (by decide), q_ups, if_pos hR]
  · have h4 := (hW i).1
    rw [hM, q_cp_i (by omega), q_cp_i (by omega), q_cp_i (by omega), q_cp_o (by decide), q_cp_o (by decide), q_cp_o (by decide), q_upc (by decide), q_upc (by decide), q_upc (by decide), q_upc (by decide), q_upc (by decide), q_upc (by decide), q_upc (by decide), q_upc (by decide), q_upc (by decide)]
    exact (hRN i hi).2 j hj
  · rw [hM, q_cp_o (by omega), q_cp_o (by omega), q_upo (by omega), q_upo (by omega), q_upo (by omega)]
    exact hF c j (by omega) (by omega) (by omega)
set_option maxRecDepth 100000 in
set_option maxHeartbeats 4000000 in
theorem bk_0 (h : q_ML R μ0 μ) : q_G C l FX8_book 5 142 142 (q_PI (q_MQ R b μ0)) 142 μ (q_ρ b) [(0, .ref (q_a C 122)), (1, .int 0)] [] 37 := by
  refine g_iload_n 38 dX8_book_37 rfl rfl ?_
  refine g_if_eq 56 41 dX8_book_38 rfl (by decide) (fun h38 => ?_) (fun h38 => ?_)
  · refine g_aload_n 57 dX8_book_56 rfl rfl ?_
    refine g_iconst 58 0 dX8_book_57 rfl (by decide) ?_
    refine g_putI 61 dX8_book_58 rfl f_X8_92 (by decide) rfl rfl (Or.inl rfl) ?_
    refine g_aload_n 62 dX8_book_61 rfl rfl ?_
    refine g_aload_n 63 dX8_book_62 rfl rfl ?_
    refine g_getI 66 dX8_book_63 rfl f_X8_128 (by decide) rfl rfl ?_
    rw [q_upo (by decide)]
    refine g_putI 69 dX8_book_66 rfl f_X8_154 (by decide) rfl rfl (Or.inl rfl) ?_
    refine g_aload_n 70 dX8_book_69 rfl rfl ?_
    refine g_iload_n 71 dX8_book_70 rfl rfl ?_
    refine g_if_eq 78 74 dX8_book_71 rfl (by decide) (fun h71 => ?_) (fun h71 => ?_)
    · refine g_aload_n 79 dX8_book_78 rfl rfl ?_
      refine g_getI 82 dX8_book_79 rfl f_X8_131 (by decide) rfl rfl ?_
      rw [q_upo (by decide), q_upo (by decide)]
      refine g_putI 85 dX8_book_82 rfl f_X8_43 (by decide) rfl rfl (Or.inl rfl) ?_
      refine g_iload_n 86 dX8_book_85 rfl rfl ?_
      refine g_if_ne 91 89 dX8_book_86 rfl (by decide) (fun h86 => ?_) (fun h86 => ?_)
      · exact absurd rfl h86
      · refine g_iconst 90 (-1) dX8_book_89 rfl (by decide) ?_
        exact g_ri dX8_book_90 rfl rfl (q_MQ_no h)
    · exact absurd rfl h71
  · exact absurd rfl h38
set_option maxRecDepth 100000 in
set_option maxHeartbeats 4000000 in
theorem lp_cy (hR : R.1 = 0) (hRN : q_RZ 131 132 μ R.2.2) (hW : q_WF R.2.2) (hF : q_MG9 μ0 μ) : ∀ k i, i + k = 84 → q_G C l FX8_book 5 142 142 (q_PI (q_MQ R b μ0)) 142 (q_cp (q_cp (q_up (q_up (q_up μ 122 12 0) 122 19 0) 122 21 (-1)) 131 129 7) 132 130 i) (q_ρ b) [(0, .ref (q_a C 122)), (2, .int (nI i))] [] 119 := by
  intro k
  induction k with
  | zero =>
    intro i hK9
    refine g_iload_n 120 dX8_book_119 rfl rfl ?_
    refine g_bipush 122 84 dX8_book_120 rfl (by decide) ?_
    refine g_icmp_ge 143 125 dX8_book_122 rfl (by decide) (fun h122 => ?_) (fun h122 => ?_)
    · refine g_aload_n 144 dX8_book_143 rfl rfl ?_
      refine g_Vi 147 [] _ dX8_book_144 rfl m_X8_all l_X8_157 rfl rfl rfl (by decide) c_all rfl (Nat.le_of_ble_eq_true rfl) (by decide) (fun v144 μ144 ρ144 hc9 => ?_)
      obtain ⟨rfl, rfl, rfl⟩ := hc9
      exact g_ri dX8_book_147 rfl rfl (q_MQ_ok hR hRN hW hF (by rw [show i = 84 by omega]) rfl)
    · exact absurd (nI_le (a := 84) (b := i) (by omega) (by omega)) h122
  | succ k ih =>
    intro i hK9
    refine g_iload_n 120 dX8_book_119 rfl rfl ?_
    refine g_bipush 122 84 dX8_book_120 rfl (by decide) ?_
    refine g_icmp_ge 143 125 dX8_book_122 rfl (by decide) (fun h122 => ?_) (fun h122 => ?_)
    · exact absurd h122 (nI_ge (a := i) (b := 84) (by omega) (by omega))
    · refine g_aload_n 126 dX8_book_125 rfl rfl ?_
      refine g_getR 129 _ dX8_book_126 rfl f_X8_31 (by decide) rfl rfl rfl ?_
      refine g_iload_n 130 dX8_book_129 rfl rfl ?_
      refine g_aload_n 131 dX8_book_130 rfl rfl ?_
      refine g_getR 134 _ dX8_book_131 rfl f_X8_37 (by decide) rfl rfl rfl ?_
      refine g_iload_n 135 dX8_book_134 rfl rfl ?_
      refine g_iald 136 dX8_book_135 rfl (by decide) rfl (vp_in_nI (show i < 84 by omega) (by omega)) ?_
      rw [nI_clamp (show i < 2 ^ 31 by omega), show (q_cp (q_cp (q_up (q_up (q_up μ 122 12 0) 122 19 0) 122 21 (-1)) 131 129 7) 132 130 i) 132 i = (q_cp (q_up (q_up (q_up μ 122 12 0) 122 19 0) 122 21 (-1)) 131 129 7) 132 i from q_cp_o (by decide)]
      refine g_iast 137 dX8_book_136 rfl (by decide) rfl (vp_in_nI (show i < 84 by omega) (by omega)) ?_
      refine g_iinc 140 (_ + 1) dX8_book_137 rfl rfl rfl (by decide) ?_
      refine g_goto 119 dX8_book_140 (by decide) ?_
      rw [nI_clamp (show i < 2 ^ 31 by omega), nI_1, q_cp_s]
      refine g_lv [(0, _), (2, _)] rfl ?_
      exact ih (i + 1) (by omega)
set_option maxRecDepth 100000 in
set_option maxHeartbeats 4000000 in
theorem lp_cz (hR : R.1 = 0) (hRN : q_RZ 131 132 μ R.2.2) (hW : q_WF R.2.2) (hF : q_MG9 μ0 μ) : ∀ k i, i + k = 7 → q_G C l FX8_book 5 142 142 (q_PI (q_MQ R b μ0)) 142 (q_cp (q_up (q_up (q_up μ 122 12 0) 122 19 0) 122 21 (-1)) 131 129 i) (q_ρ b) [(0, .ref (q_a C 122)), (2, .int (nI i))] [] 93 := by
  intro k
  induction k with
  | zero =>
    intro i hK9
    refine g_iload_n 94 dX8_book_93 rfl rfl ?_
    refine g_bipush 96 7 dX8_book_94 rfl (by decide) ?_
    refine g_icmp_ge 117 99 dX8_book_96 rfl (by decide) (fun h96 => ?_) (fun h96 => ?_)
    · refine g_iconst 118 0 dX8_book_117 rfl (by decide) ?_
      refine g_istore_n 119 dX8_book_118 rfl (by decide) ?_
      rw [show i = 7 by omega]
      refine g_lv [(0, _), (2, .int 0)] rfl ?_
      have h9 := lp_cy (C := C) (l := l) (b := b) hR hRN hW hF 84 0 (by omega)
      rw [q_cp_0] at h9
      exact h9
    · exact absurd (nI_le (a := 7) (b := i) (by omega) (by omega)) h96
  | succ k ih =>
    intro i hK9
    refine g_iload_n 94 dX8_book_93 rfl rfl ?_
    refine g_bipush 96 7 dX8_book_94 rfl (by decide) ?_
    refine g_icmp_ge 117 99 dX8_book_96 rfl (by decide) (fun h96 => ?_) (fun h96 => ?_)
    · exact absurd h96 (nI_ge (a := i) (b := 7) (by omega) (by omega))
    · refine g_aload_n 100 dX8_book_99 rfl rfl ?_
      refine g_getR 103 _ dX8_book_100 rfl f_X8_28 (by decide) rfl rfl rfl ?_
      refine g_iload_n 104 dX8_book_103 rfl rfl ?_
      refine g_aload_n 105 dX8_book_104 rfl rfl ?_
      refine g_getR 108 _ dX8_book_105 rfl f_X8_34 (by decide) rfl rfl rfl ?_
      refine g_iload_n 109 dX8_book_108 rfl rfl ?_
      refine g_iald 110 dX8_book_109 rfl (by decide) rfl (vp_in_nI (show i < 7 by omega) (by omega)) ?_
      rw [nI_clamp (show i < 2 ^ 31 by omega), show (q_cp (q_up (q_up (q_up μ 122 12 0) 122 19 0) 122 21 (-1)) 131 129 i) 131 i = (q_up (q_up (q_up μ 122 12 0) 122 19 0) 122 21 (-1)) 131 i from q_cp_o (by decide)]
      refine g_iast 111 dX8_book_110 rfl (by decide) rfl (vp_in_nI (show i < 7 by omega) (by omega)) ?_
      refine g_iinc 114 (_ + 1) dX8_book_111 rfl rfl rfl (by decide) ?_
      refine g_goto 93 dX8_book_114 (by decide) ?_
      rw [nI_clamp (show i < 2 ^ 31 by omega), nI_1, q_cp_s]
      refine g_lv [(0, _), (2, _)] rfl ?_
      exact ih (i + 1) (by omega)
set_option maxRecDepth 100000 in
set_option maxHeartbeats 4000000 in
theorem bk_56 (hR : R.1 = 0) (hRN : q_RZ 131 132 μ R.2.2) (hW : q_WF R.2.2) (hF : q_MG9 μ0 μ) (h17 : μ 122 17 = 0) : q_G C l FX8_book 5 142 142 (q_PI (q_MQ R b μ0)) 142 μ (q_ρ b) [(0, .ref (q_a C 122)), (1, .int 1)] [] 56 := by
  refine g_aload_n 57 dX8_book_56 rfl rfl ?_
  refine g_iconst 58 0 dX8_book_57 rfl (by decide) ?_
  refine g_putI 61 dX8_book_58 rfl f_X8_92 (by decide) rfl rfl (Or.inl rfl) ?_
  refine g_aload_n 62 dX8_book_61 rfl rfl ?_
  refine g_aload_n 63 dX8_book_62 rfl rfl ?_
  refine g_getI 66 dX8_book_63 rfl f_X8_128 (by decide) rfl rfl ?_
  rw [q_upo (by decide), h17]
  refine g_putI 69 dX8_book_66 rfl f_X8_154 (by decide) rfl rfl (Or.inl rfl) ?_
  refine g_aload_n 70 dX8_book_69 rfl rfl ?_
  refine g_iload_n 71 dX8_book_70 rfl rfl ?_
  refine g_if_eq 78 74 dX8_book_71 rfl (by decide) (fun h71 => ?_) (fun h71 => ?_)
  · exact absurd h71 (by decide)
  · refine g_iconst 75 (-1) dX8_book_74 rfl (by decide) ?_
    refine g_goto 82 dX8_book_75 (by decide) ?_
    refine g_putI 85 dX8_book_82 rfl f_X8_43 (by decide) rfl rfl (Or.inl rfl) ?_
    refine g_iload_n 86 dX8_book_85 rfl rfl ?_
    refine g_if_ne 91 89 dX8_book_86 rfl (by decide) (fun h86 => ?_) (fun h86 => ?_)
    · refine g_iconst 92 0 dX8_book_91 rfl (by decide) ?_
      refine g_istore_n 93 dX8_book_92 rfl (by decide) ?_
      refine g_lv [(0, _), (2, .int 0)] rfl ?_
      have h9 := lp_cz (C := C) (l := l) (b := b) hR hRN hW hF 7 0 (by omega)
      rw [q_cp_0] at h9
      exact h9
    · exact absurd h86 (by decide)
set_option maxRecDepth 100000 in
set_option maxHeartbeats 4000000 in
theorem lp_zs (hY : q_TY Y L) : ∀ k (n : Nat), n = 0 → ∀ (f s : Nat) (w : q_W) (μ : q_M), L ≤ s + k → q_MC Y L R f 0 s w μ0 μ → q_RZ 131 132 μ w.2.2.2.2 → q_G C l FX8_book 5 142 142 (q_PI (q_MQ R b μ0)) 142 μ (q_ρ b) [(0, .ref (q_a C 122)), (1, .int 1)] [] 37 := by
  intro k
  induction k with
  | zero =>
    intro n hK9
    intro f s w μ hLk hC hRN
    refine g_iload_n 38 dX8_book_37 rfl rfl ?_
    refine g_if_eq 56 41 dX8_book_38 rfl (by decide) (fun h38 => ?_) (fun h38 => ?_)
    · exact absurd h38 (by decide)
    · refine g_aload_n 42 dX8_book_41 rfl rfl ?_
      refine g_getI 45 dX8_book_42 rfl f_X8_112 (by decide) rfl rfl ?_
      rw [hC.2.1.2.1]
      refine g_if_eq 56 48 dX8_book_45 rfl (by decide) (fun h45 => ?_) (fun h45 => ?_)
      · have hs9 := q_cd0 h45
        have hR9 : R = (0, 0, w.2.2.2.2) := by have h9 := hC.2.2.2.2.2.1; rw [q_rd_end (by omega), if_pos rfl] at h9; exact h9
        have hW9 := hC.2.2.2.2.1.2.2.2.2
        exact bk_56 (by rw [hR9]) (by rw [hR9]; exact hRN) (by rw [hR9]; exact hW9) hC.2.2.2.2.2.2.1 hC.2.2.2.2.2.2.2
      · exact absurd (by rw [q_cd, if_neg (by omega)]) h45
  | succ k ih =>
    intro n hK9
    intro f s w μ hLk hC hRN
    refine g_iload_n 38 dX8_book_37 rfl rfl ?_
    refine g_if_eq 56 41 dX8_book_38 rfl (by decide) (fun h38 => ?_) (fun h38 => ?_)
    · exact absurd h38 (by decide)
    · refine g_aload_n 42 dX8_book_41 rfl rfl ?_
      refine g_getI 45 dX8_book_42 rfl f_X8_112 (by decide) rfl rfl ?_
      rw [hC.2.1.2.1]
      refine g_if_eq 56 48 dX8_book_45 rfl (by decide) (fun h45 => ?_) (fun h45 => ?_)
      · have hs9 := q_cd0 h45
        have hR9 : R = (0, 0, w.2.2.2.2) := by have h9 := hC.2.2.2.2.2.1; rw [q_rd_end (by omega), if_pos rfl] at h9; exact h9
        have hW9 := hC.2.2.2.2.1.2.2.2.2
        exact bk_56 (by rw [hR9]) (by rw [hR9]; exact hRN) (by rw [hR9]; exact hW9) hC.2.2.2.2.2.2.1 hC.2.2.2.2.2.2.2
      · have hs : s < L := Classical.not_not.mp (fun q => h45 (by rw [q_cd, if_neg q]))
        refine g_aload_n 49 dX8_book_48 rfl rfl ?_
        refine g_Vi 52 [] _ dX8_book_49 rfl m_X8_aZone l_X8_150 rfl rfl rfl (by decide) (c_aZone hY hC hRN hs) rfl (Nat.le_of_ble_eq_true rfl) (by decide) (fun v49 μ49 ρ49 hc9 => ?_)
        obtain ⟨rfl, hv9, hf9, hg9⟩ := hc9
        refine g_istore_n 53 dX8_book_52 rfl (by decide) ?_
        refine g_goto 37 dX8_book_53 (by decide) ?_
        refine g_lv [(0, _), (1, _)] rfl ?_
        rcases hv9 with rfl | rfl
        · exact bk_0 (hf9 rfl)
        · obtain ⟨f2, s2, w2, hC2, hRN2, hl2⟩ := hg9 (by decide)
          exact ih 0 rfl f2 s2 w2 _ (by omega) hC2 hRN2
theorem q_TM_cl (h : q_TM μ Y L) : q_TM (q_cl (q_up (q_up μ 122 17 0) 122 13 0) 130 7) Y L := ⟨by rw [q_cl, if_neg (by omega), q_upo (by decide), q_upo (by decide)]; exact h.1, fun p hp => by rw [q_cl, if_neg (by omega), q_upc (by decide), q_upc (by decide)]; exact h.2 p hp⟩
theorem q_MC_0 {μ' : q_M} (h : q_TM μ Y L) (hn : q_NF (q_cl (q_up (q_up μ 122 17 0) 122 13 0) 130 7) μ') (hK : q_TK μ' Y L (q_sk Y L 0)) (hL : L ≤ 600) : q_MC Y L (q_rd Y L 600 0 (q_sk Y L 0) q_w0) 600 0 (q_sk Y L 0) q_w0 μ μ' ∧ q_RZ 131 132 μ' q_w0.2.2.2.2 := by
  refine ⟨⟨q_TM_nf (q_TM_cl h) hn, hK, (q_sk_ge (Nat.zero_le _)).2, by omega, q_iv0, rfl, fun c j a1 a2 a3 => ?_, ?_⟩, fun i hi => ⟨?_, fun j hj => absurd hj (Nat.not_lt_zero _)⟩⟩
  · rw [hn _ _ (by omega), q_cl, if_neg (by omega), q_upo (by omega), q_upo (by omega)]
  · rw [hn _ _ (by omega), q_cl, if_neg (by omega), q_upo (by decide), q_ups]
  · rw [hn _ _ (by omega), q_cl, if_pos ⟨rfl, hi⟩]; rfl
set_option maxRecDepth 100000 in
set_option maxHeartbeats 4000000 in
theorem lp_fz (hY : q_TY Y L) (hM : q_TM μ Y L) : ∀ k i, i + k = 7 → q_G C l FX8_book 5 142 142 (q_PI (q_MQ (q_rd Y L 600 0 (q_sk Y L 0) q_w0) b μ)) 142 (q_cl (q_up (q_up μ 122 17 0) 122 13 0) 130 i) (q_ρ b) [(0, .ref (q_a C 122)), (1, .int (nI i))] [] 12 := by
  intro k
  induction k with
  | zero =>
    intro i hK9
    refine g_iload_n 13 dX8_book_12 rfl rfl ?_
    refine g_bipush 15 7 dX8_book_13 rfl (by decide) ?_
    refine g_icmp_ge 31 18 dX8_book_15 rfl (by decide) (fun h15 => ?_) (fun h15 => ?_)
    · rw [show i = 7 by omega]
      refine g_aload_n 32 dX8_book_31 rfl rfl ?_
      refine g_Vv 35 [] _ dX8_book_32 rfl m_X8_next0 l_X8_137 rfl rfl rfl (by decide) (c_next0 (p := 0) hY (q_TM_cl hM) (Nat.zero_le _) (by rw [q_cl, if_neg (by omega), q_ups]; rfl)) rfl (Nat.le_of_ble_eq_true rfl) (by decide) (fun μ32 ρ32 hc9 => ?_)
      obtain ⟨rfl, hnf, htk⟩ := hc9
      refine g_iconst 36 1 dX8_book_35 rfl (by decide) ?_
      refine g_istore_n 37 dX8_book_36 rfl (by decide) ?_
      refine g_lv [(0, _), (1, _)] rfl ?_
      have h9 := q_MC_0 hM hnf htk hY.1
      exact lp_zs hY 600 0 rfl _ _ _ _ (by have := hY.1; omega) h9.1 h9.2
    · exact absurd (nI_le (a := 7) (b := i) (by omega) (by omega)) h15
  | succ k ih =>
    intro i hK9
    refine g_iload_n 13 dX8_book_12 rfl rfl ?_
    refine g_bipush 15 7 dX8_book_13 rfl (by decide) ?_
    refine g_icmp_ge 31 18 dX8_book_15 rfl (by decide) (fun h15 => ?_) (fun h15 => ?_)
    · exact absurd h15 (nI_ge (a := i) (b := 7) (by omega) (by omega))
    · refine g_aload_n 19 dX8_book_18 rfl rfl ?_
      refine g_getR 22 _ dX8_book_19 rfl f_X8_34 (by decide) rfl rfl rfl ?_
      refine g_iload_n 23 dX8_book_22 rfl rfl ?_
      refine g_iconst 24 0 dX8_book_23 rfl (by decide) ?_
      refine g_iast 25 dX8_book_24 rfl (by decide) rfl (vp_in_nI (show i < 7 by omega) (by omega)) ?_
      refine g_iinc 28 (_ + 1) dX8_book_25 rfl rfl rfl (by decide) ?_
      refine g_goto 12 dX8_book_28 (by decide) ?_
      rw [nI_clamp (show i < 2 ^ 31 by omega), nI_1]
      refine g_lv [(0, _), (1, _)] rfl ?_
      have h9 := ih (i + 1) (by omega)
      rw [← q_cl_s (k := i)] at h9
      exact h9
set_option maxRecDepth 100000 in
set_option maxHeartbeats 4000000 in
theorem c_Mbook (hY : q_TY Y L) (hM : q_TM μ Y L) : q_Ct C l FX8_book 5 142 142 [.ref (q_a C 122)] μ (q_ρ b) (q_PI (q_MQ (q_rd Y L 600 0 (q_sk Y L 0) q_w0) b μ)) := by
  refine q_entry rfl (by decide) (Nat.le_of_ble_eq_true rfl) ?_
  refine g_lv [(0, _)] rfl ?_
  refine g_aload_n 1 dX8_book_0 rfl rfl ?_
  refine g_iconst 2 0 dX8_book_1 rfl (by decide) ?_
  refine g_putI 5 dX8_book_2 rfl f_X8_128 (by decide) rfl rfl (Or.inl rfl) ?_
  refine g_aload_n 6 dX8_book_5 rfl rfl ?_
  refine g_iconst 7 0 dX8_book_6 rfl (by decide) ?_
  refine g_putI 10 dX8_book_7 rfl f_X8_103 (by decide) rfl rfl (Or.inl rfl) ?_
  refine g_iconst 11 0 dX8_book_10 rfl (by decide) ?_
  refine g_istore_n 12 dX8_book_11 rfl (by decide) ?_
  refine g_lv [(0, _), (1, .int 0)] rfl ?_
  have h9 := lp_fz (C := C) (l := l) (μ := μ) (b := b) hY hM 7 0 (by omega)
  rw [q_cl_0] at h9
  exact h9
end MK
