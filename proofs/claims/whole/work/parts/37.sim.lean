/-! ===== what holds between the class and the reference ===== -/
def s_far (μ : q_M) : Prop := ∀ j, j < 7 → ∃ n, 1 ≤ n ∧ n ≤ 900 ∧ μ 2 j = nI n ∧ μ 123 (j + 1) = nI n
def s_hr (μ : q_M) : Prop := ∀ j, j < 7 → ∃ n, n ≤ 23 ∧ μ 3 j = nI n ∧ μ 124 j = nI n
def s_rc (m : Nat) (μ : q_M) : Prop := m ≤ 10 ∧ μ 4 3 = nI m ∧ μ 122 0 = nI m ∧ (∀ r, r < m → ∃ n, 10 ≤ n ∧ n ≤ 120 ∧ μ 5 r = nI n ∧ μ 125 r = nI n) ∧ ∀ r, r < 10 → μ 6 r = μ 126 r ∧ μ 7 r = μ 127 r
def s_set (μ : q_M) : Prop := ∀ k, k < 5 → q_in (μ 69 k) (q_lo k) (q_hi k) ∧ μ 128 k = μ 69 k
def s_bk (b : Bool) (B : q_B) (μ : q_M) : Prop := q_WF B ∧ q_RB (q_rb b) μ B ∧ q_RZ 129 130 μ B
def s_tp (Y : Nat → Int32) (L : Nat) (μ : q_M) : Prop := q_TY Y L ∧ q_TC μ Y L ∧ q_TM μ Y L
def s_ft (μ : q_M) : Prop := μ 10 0 = μ 122 19 ∧ μ 10 1 = μ 122 21
def s_ok (b : Bool) (μ : q_M) : Prop := μ 0 9 = 1 ∨ (μ 0 9 = 0 ∧ q_OK μ (q_Iof μ (q_rb b)))
def q_Sim (b : Bool) (μ : q_M) : Prop := s_far μ ∧ s_hr μ ∧ (∃ m, s_rc m μ) ∧ s_set μ ∧ (∃ B, s_bk b B μ) ∧ (∃ Y L, s_tp Y L μ) ∧ s_ft μ ∧ s_ok b μ
section SF
variable {μ μ' : q_M} {b : Bool}
theorem s_far.of (h : s_far μ) (h1 : ∀ j, μ' 2 j = μ 2 j) (h2 : ∀ j, μ' 123 j = μ 123 j) : s_far μ' := fun j hj => by
  rw [h1, h2]; exact h j hj
theorem s_hr.of (h : s_hr μ) (h1 : ∀ j, μ' 3 j = μ 3 j) (h2 : ∀ j, μ' 124 j = μ 124 j) : s_hr μ' := fun j hj => by
  rw [h1, h2]; exact h j hj
theorem s_rc.of {m : Nat} (h : s_rc m μ) (h1 : μ' 4 3 = μ 4 3) (h2 : μ' 122 0 = μ 122 0) (h3 : ∀ c j, (c = 5 ∨ c = 6 ∨ c = 7 ∨ c = 125 ∨ c = 126 ∨ c = 127) → μ' c j = μ c j) : s_rc m μ' := by
  obtain ⟨g1, g2, g3, g4, g5⟩ := h
  refine ⟨g1, by rw [h1]; exact g2, by rw [h2]; exact g3, fun r hr => ?_, fun r hr => ?_⟩
  · rw [h3 5 _ (by decide), h3 125 _ (by decide)]; exact g4 r hr
  · rw [h3 6 _ (by decide), h3 126 _ (by decide), h3 7 _ (by decide), h3 127 _ (by decide)]; exact g5 r hr
theorem s_set.of (h : s_set μ) (h1 : ∀ j, μ' 69 j = μ 69 j) (h2 : ∀ j, μ' 128 j = μ 128 j) : s_set μ' := fun j hj => by
  rw [h1, h2]; exact h j hj
theorem s_bk.of {B : q_B} (h : s_bk b B μ) (h1 : ∀ c j, (q_rb b ≤ c ∧ c < q_rb b + 26) ∨ c = 129 ∨ c = 130 → μ' c j = μ c j) : s_bk b B μ' := by
  obtain ⟨g1, ⟨g2, g3, g4⟩, g5⟩ := h
  refine ⟨g1, ⟨fun i hi => ?_, fun i hi j hj => ?_, ?_⟩, fun i hi => ?_⟩
  · rw [h1 _ _ (by omega)]; exact g2 i hi
  · rw [h1 _ _ (by omega), h1 _ _ (by omega), h1 _ _ (by omega)]; exact g3 i hi j hj
  · rw [h1 _ _ (by omega)]; exact g4
  · refine ⟨by rw [h1 _ _ (by omega)]; exact (g5 i hi).1, fun j hj => ?_⟩
    rw [h1 _ _ (by omega), h1 _ _ (by omega), h1 _ _ (by omega)]; exact (g5 i hi).2 j hj
theorem s_tp.of {Y : Nat → Int32} {L : Nat} (h : s_tp Y L μ) (h1 : μ' 8 1 = μ 8 1) (h2 : ∀ j, μ' 9 j = μ 9 j) (h3 : μ' 122 12 = μ 122 12) (h4 : ∀ j, μ' 133 j = μ 133 j) : s_tp Y L μ' := by
  obtain ⟨g1, ⟨g2, g3⟩, g4, g5⟩ := h
  exact ⟨g1, ⟨by rw [h1]; exact g2, fun p hp => by rw [h2]; exact g3 p hp⟩, by rw [h3]; exact g4, fun p hp => by rw [h4]; exact g5 p hp⟩
theorem s_ft.of (h : s_ft μ) (h1 : μ' 10 0 = μ 10 0) (h2 : μ' 10 1 = μ 10 1) (h3 : μ' 122 19 = μ 122 19) (h4 : μ' 122 21 = μ 122 21) : s_ft μ' := by
  unfold s_ft; rw [h1, h2, h3, h4]; exact h
theorem q_OK.of {I : q_I} (h : q_OK μ I) (h1 : ∀ c j, 13 ≤ c → c ≤ 68 → μ' c j = μ c j) : q_OK μ' I := by
  obtain ⟨g1, g2, g3, g4⟩ := h
  refine ⟨fun i hi => ?_, by rw [h1 _ _ (by decide) (by decide)]; exact g2, by rw [h1 _ _ (by decide) (by decide)]; exact g3, fun x h2 h3 => ?_⟩
  · obtain ⟨a1, a2, a3, a4, a5, a6, a7, a8, a9⟩ := g1 i hi
    refine ⟨fun r hr => ?_, fun r hr => ?_, fun r hr => ?_, fun r hr => ?_, fun r hr => ?_, fun j hj => ?_, ?_, ?_, ?_⟩
    · rw [h1 _ _ (by omega) (by omega)]; exact a1 r hr
    · rw [h1 _ _ (by omega) (by omega)]; exact a2 r hr
    · rw [h1 _ _ (by omega) (by omega)]; exact a3 r hr
    · rw [h1 _ _ (by omega) (by omega)]; exact a4 r hr
    · rw [h1 _ _ (by omega) (by omega)]; exact a5 r hr
    · rw [h1 _ _ (by omega) (by omega)]; exact a6 j hj
    · rw [h1 _ _ (by omega) (by omega)]; exact a7
    · rw [h1 _ _ (by omega) (by omega)]; exact a8
    · rw [h1 _ _ (by omega) (by omega)]; exact a9
  · rw [h1 _ _ (by decide) (by decide), h1 _ _ (by decide) (by decide), h1 _ _ (by decide) (by decide)]; exact g4 x h2 h3
/-- two tellings that tell the same as far as it counts -/
def q_EI (I J : q_I) : Prop := i_cnt I = i_cnt J ∧ (∀ i, i < 7 → i_len I i = i_len J i) ∧ (∀ i, i < 7 → i_tm I i = i_tm J i) ∧ (∀ i, i < 7 → i_bg I i = i_bg J i) ∧ i_bk I = i_bk J ∧ i_set I = i_set J
theorem e_S {tm tm' : Nat → Nat → Int32} (h : ∀ i, i < 7 → tm i = tm' i) : ∀ i, i < 7 → q_S tm i = q_S tm' i
  | 0, hi => funext fun r => by rw [q_S, q_S, h 0 hi]
  | i + 1, hi => funext fun r => by rw [q_S, q_S, h (i + 1) hi, e_S h i (by omega)]
theorem e_od {cnt : Nat} {bk : Nat → Int32} {tm tm' : Nat → Nat → Int32} (h : ∀ i, i < 7 → tm i = tm' i) : ∀ i, i ≤ 7 → q_od cnt tm bk i = q_od cnt tm' bk i
  | 0, _ => rfl
  | i + 1, hi => by rw [q_od, q_od, e_od h i (by omega), e_S h i (by omega)]
theorem e_np {cm cm' : Nat → Nat} : ∀ f i, (∀ x, i ≤ x → x < i + f → cm x = cm' x) → q_np cm f i = q_np cm' f i
  | 0, _, _ => rfl
  | f + 1, i, h => by
    rw [q_np, q_np, h i (Nat.le_refl _) (by omega), e_np f (i + 1) (fun x h1 h2 => h x (by omega) (by omega))]
theorem e_sum {f g : Nat → Int32} : ∀ n, (∀ i, i < n → f i = g i) → q_sum f n = q_sum g n
  | 0, _ => rfl
  | n + 1, h => by rw [q_sum, q_sum, e_sum n (fun i hi => h i (by omega)), h n (by omega)]
section EI
variable {I J : q_I}
theorem q_EI.od (h : q_EI I J) {i : Nat} (hi : i ≤ 7) : i_od I i = i_od J i := by
  unfold i_od
  rw [h.1, h.2.2.2.2.1]
  exact e_od h.2.2.1 i hi
theorem q_EI.cm (h : q_EI I J) {i : Nat} (hi : i < 7) : i_cm I i = i_cm J i := by
  unfold i_cm; rw [h.od (by omega)]
theorem q_EI.o (h : q_EI I J) {i : Nat} (hi : i < 7) : i_o I i = i_o J i := by
  unfold i_o; rw [h.od (by omega)]
theorem q_EI.ar (h : q_EI I J) {i : Nat} (hi : i < 7) : i_ar I i = i_ar J i := by
  unfold i_ar; rw [h.od (by omega), h.2.2.2.1 i hi, h.2.2.1 i hi, h.2.2.2.2.1]
theorem q_EI.N (h : q_EI I J) : i_N I = i_N J := by
  unfold i_N; exact e_np 7 0 (fun x _ hx => h.cm (by omega))
theorem q_EI.op (h : q_EI I J) {x : Nat} (hx : x ≤ 7) : i_op I x = i_op J x ∧ i_cl I x = i_cl J x := by
  unfold i_op i_cl
  rw [h.ar (by omega), h.o (by omega), h.cm (by omega), h.2.2.2.2.2]
  exact ⟨rfl, rfl⟩
theorem q_EI.se (h : q_EI I J) : i_se I = i_se J := by
  funext m
  unfold i_se
  rw [h.N]
  have hN := i_N_le J
  refine q_se_congr _ _ _ _ (fun c a h1 h2 h3 h4 => ?_) (fun s hs => absurd hs (Nat.not_lt_zero _)) (Nat.le_refl _)
  unfold i_can q_cn
  rw [(h.op (show a ≤ 7 by omega)).2, (h.op (show c ≤ 7 by omega)).1, h.2.2.2.2.2]
  unfold i_km
  rw [e_sum c (fun i hi => h.2.1 i (by omega)), e_sum a (fun i hi => h.2.1 i (by omega))]
theorem q_EI.n0 (h : q_EI I J) : i_n0 I = i_n0 J := by
  unfold i_n0; rw [h.se, h.N]
theorem q_EI.g (h : q_EI I J) : i_g I = i_g J := by
  unfold i_g; rw [h.se, h.n0]
theorem q_EI.ok (h : q_EI I J) (hk : q_OK μ I) : q_OK μ J := by
  obtain ⟨g1, g2, g3, g4⟩ := hk
  have hN := i_N_le J
  refine ⟨fun i hi => ?_, by rw [← h.n0]; exact g2, by rw [← h.N]; exact g3, fun x h1 h2 => ?_⟩
  · obtain ⟨a1, a2, a3, a4, a5, a6, a7, a8, a9⟩ := g1 i hi
    have e0 : q_od (i_cnt J) (i_tm J) (i_bk J) i = q_od (i_cnt I) (i_tm I) (i_bk I) i := (h.od (show i ≤ 7 by omega)).symm
    have e1 : q_od (i_cnt J) (i_tm J) (i_bk J) (i + 1) = q_od (i_cnt I) (i_tm I) (i_bk I) (i + 1) := (h.od (show i + 1 ≤ 7 by omega)).symm
    unfold q_SG
    rw [e0, e1, ← h.2.2.2.1 i hi, ← h.2.2.1 i hi, ← h.2.2.2.2.1, ← e_S h.2.2.1 i hi, ← h.1]
    exact ⟨a1, a2, a3, a4, a5, a6, a7, a8, a9⟩
  · rw [← (h.op (show x ≤ 7 by omega)).1, ← (h.op (show x ≤ 7 by omega)).2, ← h.g]
    exact g4 x h1 (by rw [h.N]; exact h2)
end EI
theorem q_EI_of {rb : Nat} (h1 : ∀ c j, (c = 2 ∨ c = 3 ∨ c = 5 ∨ c = 6 ∨ c = 69 ∨ (rb ≤ c ∧ c < rb + 26)) → μ' c j = μ c j) (h2 : μ' 4 3 = μ 4 3) : q_EI (q_Iof μ rb) (q_Iof μ' rb) := by
  have e : ∀ c, (c = 2 ∨ c = 3 ∨ c = 5 ∨ c = 6 ∨ c = 69 ∨ (rb ≤ c ∧ c < rb + 26)) → μ c = μ' c := fun c g1 => funext fun j => (h1 c j g1).symm
  refine ⟨?_, fun i hi => ?_, fun i hi => ?_, fun i hi => ?_, ?_, ?_⟩
  · show (μ 4 3).toNatClampNeg = (μ' 4 3).toNatClampNeg
    rw [h2]
  · show μ 2 i = μ' 2 i
    rw [e 2 (by omega)]
  · funext r
    show q_time (μ 5 r) (μ 2 i) (μ (rb + 3 + i)) (μ (rb + 11 + i)) (μ (rb + 19 + i)) ((μ (rb + 1) i).toNatClampNeg) = q_time (μ' 5 r) (μ' 2 i) (μ' (rb + 3 + i)) (μ' (rb + 11 + i)) (μ' (rb + 19 + i)) ((μ' (rb + 1) i).toNatClampNeg)
    rw [e 2 (by omega), e 5 (by omega), e (rb + 3 + i) (by omega), e (rb + 11 + i) (by omega), e (rb + 19 + i) (by omega), e (rb + 1) (by omega)]
  · show nI i * 1440 + μ 3 i * 60 = nI i * 1440 + μ' 3 i * 60
    rw [e 3 (by omega)]
  · exact e 6 (by omega)
  · exact e 69 (by omega)
theorem s_ok.of (h : s_ok b μ) (h1 : ∀ c j, (c = 2 ∨ c = 3 ∨ c = 5 ∨ c = 6 ∨ c = 69 ∨ (q_rb b ≤ c ∧ c < q_rb b + 26)) → μ' c j = μ c j) (h2 : μ' 4 3 = μ 4 3) (h3 : ∀ c j, 13 ≤ c → c ≤ 68 → μ' c j = μ c j) (h4 : μ' 0 9 = μ 0 9) : s_ok b μ' := by
  unfold s_ok
  rw [h4]
  rcases h with h | ⟨g1, g2⟩
  · exact Or.inl h
  · exact Or.inr ⟨g1, (q_EI_of h1 h2).ok (g2.of h3)⟩
/-- all that counts lies below the reference's own reckoning -/
theorem q_Sim.of (h : q_Sim b μ) (hf : ∀ c j, c < 134 → μ' c j = μ c j) : q_Sim b μ' := by
  obtain ⟨h1, h2, ⟨m, h3⟩, h4, ⟨B, h5⟩, ⟨Y, L, h6⟩, h7, h8⟩ := h
  have hb := q_rb_or b
  exact ⟨h1.of (fun j => hf _ _ (by decide)) (fun j => hf _ _ (by decide)), h2.of (fun j => hf _ _ (by decide)) (fun j => hf _ _ (by decide)), ⟨m, h3.of (hf _ _ (by decide)) (hf _ _ (by decide)) (fun c j hc => hf _ _ (by omega))⟩, h4.of (fun j => hf _ _ (by decide)) (fun j => hf _ _ (by decide)), ⟨B, h5.of (fun c j hc => hf _ _ (by omega))⟩, ⟨Y, L, h6.of (hf _ _ (by decide)) (fun j => hf _ _ (by decide)) (hf _ _ (by decide)) (fun j => hf _ _ (by decide))⟩, h7.of (hf _ _ (by decide)) (hf _ _ (by decide)) (hf _ _ (by decide)) (hf _ _ (by decide)), h8.of (fun c j hc => hf _ _ (by omega)) (hf _ _ (by decide)) (fun c j _ hc => hf _ _ (by omega)) (hf _ _ (by decide))⟩
/-- behind a question to the class -/
theorem q_Sim.ask (h : q_Sim b μ) (hk : q_OK μ' (q_Iof μ (q_rb b))) (hz : μ' 0 9 = 0) (hf : ∀ c j, (c < 13 ∨ 68 < c) → ¬ (c = 0 ∧ j = 9) → μ' c j = μ c j) : q_Sim b μ' := by
  obtain ⟨h1, h2, ⟨m, h3⟩, h4, ⟨B, h5⟩, ⟨Y, L, h6⟩, h7, h8⟩ := h
  have hb := q_rb_or b
  exact ⟨h1.of (fun j => hf _ _ (by decide) (by omega)) (fun j => hf _ _ (by decide) (by omega)), h2.of (fun j => hf _ _ (by decide) (by omega)) (fun j => hf _ _ (by decide) (by omega)), ⟨m, h3.of (hf _ _ (by decide) (by omega)) (hf _ _ (by decide) (by omega)) (fun c j hc => hf _ _ (by omega) (by omega))⟩, h4.of (fun j => hf _ _ (by decide) (by omega)) (fun j => hf _ _ (by decide) (by omega)), ⟨B, h5.of (fun c j hc => hf _ _ (by omega) (by omega))⟩, ⟨Y, L, h6.of (hf _ _ (by decide) (by omega)) (fun j => hf _ _ (by decide) (by omega)) (hf _ _ (by decide) (by omega)) (fun j => hf _ _ (by decide) (by omega))⟩, h7.of (hf _ _ (by decide) (by omega)) (hf _ _ (by decide) (by omega)) (hf _ _ (by decide) (by omega)) (hf _ _ (by decide) (by omega)), Or.inr ⟨hz, (q_EI_of (fun c j hc => hf _ _ (by omega) (by omega)) (hf _ _ (by decide) (by omega))).ok hk⟩⟩
theorem q_Sim.iv (h : q_Sim b μ) : q_IV μ b (q_Iof μ (q_rb b)) ∧ (μ 0 9 = 1 ∨ (μ 0 9 = 0 ∧ q_OK μ (q_Iof μ (q_rb b)))) := by
  obtain ⟨h1, h2, ⟨m, h3⟩, h4, ⟨B, h5⟩, ⟨Y, L, h6⟩, h7, h8⟩ := h
  have ec : i_cnt (q_Iof μ (q_rb b)) = m := by
    show (μ 4 3).toNatClampNeg = m
    rw [h3.2.1, nI_clamp (by have := h3.1; omega)]
  refine ⟨⟨rfl, by rw [ec]; exact h3.1, by rw [ec]; exact h3.2.1, fun i hi => ?_⟩, h8⟩
  have e := h5.2.1.1 i hi
  have h9 := (h5.1 i).1
  have ek : i_K (q_Iof μ (q_rb b)) i = B.1 i := by
    show (μ (q_rb b + 1) i).toNatClampNeg = _
    rw [e, nI_clamp (by omega)]
  rw [ek]
  exact ⟨h9, e⟩
theorem s_in {x : Int32} {a c : Nat} (h : q_in x (nI a) (nI c)) (ha : a < 2 ^ 31) (hc : c < 2 ^ 31) : ∃ n, a ≤ n ∧ n ≤ c ∧ x = nI n := by
  have h0 : ¬ x < 0 := fun q => by
    have h2 := Int32.le_iff_toInt_le.mp h.1
    rw [nI_toInt ha] at h2
    have h3 := Int32.lt_iff_toInt_lt.mp q
    have : (0 : Int32).toInt = 0 := rfl
    omega
  obtain ⟨n, n1, rfl⟩ := nI_of h0
  exact ⟨n, (nI_leI ha n1).mp h.1, (nI_leI n1 hc).mp h.2, rfl⟩
theorem q_Sim.bd (h : q_Sim b μ) : q_BD (q_Iof μ (q_rb b)) := by
  have hiv := h.iv.1
  obtain ⟨h1, h2, ⟨m, h3⟩, h4, ⟨B, h5⟩, ⟨Y, L, h6⟩, h7, h8⟩ := h
  have ec : i_cnt (q_Iof μ (q_rb b)) = m := by
    show (μ 4 3).toNatClampNeg = m
    rw [h3.2.1, nI_clamp (by have := h3.1; omega)]
  refine ⟨fun i hi => ?_, fun i hi => ?_, fun r hr => ?_, ?_, ?_, ?_, hiv.2.1, fun i hi => ?_⟩
  · obtain ⟨n, n1, n2, n3, n4⟩ := h1 i hi
    exact ⟨n, n3, n2⟩
  · obtain ⟨n, n1, n2, n3⟩ := h2 i hi
    exact ⟨n, n2, n1⟩
  · obtain ⟨n, n1, n2, n3, n4⟩ := h3.2.2.2.1 r (by rw [← ec]; exact hr)
    exact ⟨n, n3, n1, n2⟩
  · obtain ⟨n, n1, n2, n3⟩ := s_in (a := 10) (c := 120) (h4 2 (by decide)).1 (by decide) (by decide)
    exact ⟨n, n3, n1, n2⟩
  · obtain ⟨n, n1, n2, n3⟩ := s_in (a := 0) (c := 5000) (h4 3 (by decide)).1 (by decide) (by decide)
    exact ⟨n, n3, n2⟩
  · obtain ⟨n, n1, n2, n3⟩ := s_in (a := 0) (c := 50) (h4 4 (by decide)).1 (by decide) (by decide)
    exact ⟨n, n3, n2⟩
  · have e := h5.2.1.1 i hi
    have h9 := (h5.1 i).1
    have ek : i_K (q_Iof μ (q_rb b)) i = B.1 i := by
      show (μ (q_rb b + 1) i).toNatClampNeg = _
      rw [e, nI_clamp (by omega)]
    rw [ek]
    refine ⟨h9, B.2.1 i, B.2.2.1 i, B.2.2.2 i, fun z hz => (h5.1 i).2 z hz, fun z hz => h5.2.1.2.1 i hi z hz⟩
theorem q_Sim.mv (h : q_Sim b μ) : q_MV μ (q_Iof μ (q_rb b)) := by
  have hiv := h.iv.1
  have hbd := h.bd
  obtain ⟨h1, h2, ⟨m, h3⟩, h4, ⟨B, h5⟩, ⟨Y, L, h6⟩, h7, h8⟩ := h
  have ec : i_cnt (q_Iof μ (q_rb b)) = m := by
    show (μ 4 3).toNatClampNeg = m
    rw [h3.2.1, nI_clamp (by have := h3.1; omega)]
  have ek : ∀ i, i < 7 → i_K (q_Iof μ (q_rb b)) i = B.1 i := fun i hi => by
    show (μ (q_rb b + 1) i).toNatClampNeg = _
    rw [h5.2.1.1 i hi, nI_clamp (by have := (h5.1 i).1; omega)]
  refine ⟨⟨hiv.2.1, by rw [ec]; exact h3.2.2.1, fun i hi => ?_, fun i r hi hr => ?_, fun r hr => ?_, fun i hi => ?_⟩, fun j hj => (h4 j hj).2, fun j hj => ?_, ?_⟩
  · rw [ek i hi]
    exact ⟨(h5.1 i).1, (h5.2.2 i hi).1⟩
  · rw [ek i hi]
    obtain ⟨n, n1, n2, n3, n4⟩ := h1 i hi
    obtain ⟨a, a1, a2, a3, a4⟩ := h3.2.2.2.1 r (by rw [← ec]; exact hr)
    obtain ⟨⟨q, q1, q2, q3⟩, q4, q5⟩ := t_both (K := B.1 i) (fr := i_fr (q_Iof μ (q_rb b)) i) (to := i_to (q_Iof μ (q_rb b)) i) (zs := i_zs (q_Iof μ (q_rb b)) i) (fr' := q_zf μ i) (to' := q_zt μ i) (zs' := q_zs μ i) a1 a2 n2 (f := B.2.1 i) (t := B.2.2.1 i) (v := B.2.2.2 i) (fun z hz => (h5.1 i).2 z hz) (h5.1 i).1 (fun z hz => h5.2.1.2.1 i hi z hz) (fun z hz => (h5.2.2 i hi).2 z hz)
    rw [a4, n4]
    refine ⟨q4, q5, ?_⟩
    rw [q3]
    unfold i_tm
    rw [ek i hi]
    show q_time (μ 5 r) (μ 2 i) _ _ _ _ = _
    rw [a3, n3]
    exact q2
  · exact (h3.2.2.2.2 r (by rw [ec] at hr; have := h3.1; omega)).1.symm
  · obtain ⟨_, _, _, g⟩ := p_bg hbd hi
    rw [g]
    obtain ⟨n, n1, n2, n3⟩ := h2 i hi
    show 1440 * nI i + 60 * μ 3 i = _
    rw [n2, n3]
  · obtain ⟨n, n1, n2, n3, n4⟩ := h1 j hj
    show μ 123 (j + 1) = μ 2 j
    rw [n3, n4]
  · obtain ⟨n, n1, n2, n3⟩ := s_in (a := 10) (c := 120) (h4 2 (by decide)).1 (by decide) (by decide)
    show ¬ μ 69 2 = 0
    rw [n3]
    exact nI_ne0 (by omega) (by omega)
end SF
