/-! ===== the built system ===== -/
def k_mu : q_M := (q_up (q_up (q_up (q_up (q_up (q_up (q_up (q_up (q_up (q_up (q_up (q_up (q_up (q_up (q_up (q_up (q_up (q_up (q_up (q_up (q_up (q_up (q_up (q_up (q_up (q_up (q_up (q_up (q_up (q_up (q_up (q_up (q_up (q_up (q_up (q_up (q_up (q_up (q_up (q_up (q_up (fun _ _ => 0) 2 0 100) 2 1 100) 2 2 100) 2 3 100) 2 4 100) 2 5 100) 2 6 100) 3 0 6) 3 1 6) 3 2 6) 3 3 6) 3 4 6) 3 5 6) 3 6 6) 10 1 (-1)) 69 0 60) 69 1 120) 69 2 60) 69 3 100) 69 4 10) 0 9 1) 122 21 (-1)) 123 1 100) 123 2 100) 123 3 100) 123 4 100) 123 5 100) 123 6 100) 123 7 100) 124 0 6) 124 1 6) 124 2 6) 124 3 6) 124 4 6) 124 5 6) 124 6 6) 128 0 60) 128 1 120) 128 2 60) 128 3 100) 128 4 10)
def k_rho : q_R := (q_up (q_up (q_up (q_up (q_up (q_up (q_up (q_up (q_up (q_up (q_up (q_up (q_up (q_up (q_up (q_up (q_up (q_up (q_up (q_up (q_up (q_rows (q_up (q_rows (q_up (q_rows (q_up (q_up (q_up (q_rows (q_up (q_rows (q_up (q_rows (q_up (q_up (q_up (q_up (q_up (q_up (q_up (q_up (q_up (q_up (q_up (q_up (q_up (q_rows (q_up (q_rows (q_up (q_rows (q_up (q_rows (q_up (q_rows (q_up (q_rows (q_up (q_up (q_up (q_up (q_up (q_up (q_up (q_up (q_up (q_up (fun _ _ => none) 1 0 (some 2)) 1 1 (some 3)) 0 0 (some 1)) 4 0 (some 5)) 4 1 (some 6)) 4 2 (some 7)) 0 1 (some 4)) 8 0 (some 9)) 0 2 (some 8)) 0 3 (some 10)) 12) 11 0 (some 12)) 20) 11 1 (some 20)) 28) 11 2 (some 28)) 36) 11 3 (some 36)) 44) 11 4 (some 44)) 52) 11 5 (some 52)) 11 6 (some 60)) 11 7 (some 61)) 11 8 (some 62)) 0 4 (some 11)) 63 0 (some 64)) 63 1 (some 65)) 63 2 (some 66)) 63 4 (some 67)) 63 5 (some 68)) 0 5 (some 63)) 0 6 (some 69)) 70 0 (some 71)) 72) 70 1 (some 72)) 80) 70 2 (some 80)) 88) 70 3 (some 88)) 0 7 (some 70)) 96 0 (some 97)) 98) 96 1 (some 98)) 106) 96 2 (some 106)) 114) 96 3 (some 114)) 0 8 (some 96)) 122 1 (some 123)) 122 2 (some 124)) 122 3 (some 125)) 122 4 (some 126)) 122 5 (some 127)) 122 6 (some 128)) 122 7 (some 129)) 122 8 (some 130)) 122 9 (some 131)) 122 10 (some 132)) 122 11 (some 133)) 122 22 (some 134)) 122 23 (some 135)) 122 24 (some 136)) 122 25 (some 137)) 122 26 (some 138)) 122 27 (some 139)) 122 28 (some 140)) 122 29 (some 141))
set_option maxRecDepth 100000 in
theorem k_rho_ok : ∀ c, c < 142 → ∀ k, k < (q_kd c).2 → q_isr (q_kd c).1 k = true → k_rho c k = q_ρ false c k := by decide +kernel
set_option maxRecDepth 100000 in
theorem k_sim : q_Sim false k_mu := by
  have h1 : ∀ j, j < 7 → k_mu 2 j = 100 ∧ k_mu 123 (j + 1) = 100 ∧ k_mu 3 j = 6 ∧ k_mu 124 j = 6 := by decide +kernel
  have h2 : ∀ r, r < 10 → k_mu 6 r = k_mu 126 r ∧ k_mu 7 r = k_mu 127 r := by decide +kernel
  have h3 : ∀ k, k < 5 → q_in (k_mu 69 k) (q_lo k) (q_hi k) ∧ k_mu 128 k = k_mu 69 k := by decide +kernel
  have h4 : ∀ i, i < 7 → k_mu 71 i = 0 ∧ k_mu 129 i = 0 := by decide +kernel
  refine ⟨fun j hj => ⟨100, by decide, by decide, (h1 j hj).1, (h1 j hj).2.1⟩, fun j hj => ⟨6, by decide, (h1 j hj).2.2.1, (h1 j hj).2.2.2⟩, ⟨0, by decide, by decide +kernel, by decide +kernel, fun r hr => absurd hr (Nat.not_lt_zero _), h2⟩, h3, ⟨q_B0, q_WF0, ⟨fun i hi => (h4 i hi).1, fun i hi j hj => absurd hj (Nat.not_lt_zero _), by decide +kernel⟩, fun i hi => ⟨(h4 i hi).2, fun j hj => absurd hj (Nat.not_lt_zero _)⟩⟩, ⟨fun _ => -1, 0, ⟨by decide, fun _ _ => rfl, fun p hp => absurd hp (Nat.not_lt_zero _)⟩, ⟨by decide +kernel, fun p hp => absurd hp (Nat.not_lt_zero _)⟩, by decide +kernel, fun p hp => absurd hp (Nat.not_lt_zero _)⟩, ⟨by decide +kernel, by decide +kernel⟩, Or.inl (by decide +kernel)⟩
/-! ===== what the law finds at its start ===== -/
theorem u_arr {s : State} {args : Array Value} {ty : FieldType} (h : (Cond.arrayClass ty).before args s = true) (ho : ∀ C, ty ≠ .object C) : ∃ cA, ArrOfT s cA ty ∧ va_RA s cA ty := by
  obtain ⟨c, k, comp, f1, f2, f3⟩ := Cond.arrayClass_spec h
  refine ⟨c, fun N z => ⟨(fun k h => by cases h), k, f2, comp, f3⟩, ?_⟩
  unfold va_RA
  cases ty <;> first | exact f1 | exact absurd rfl (ho _)
theorem u_arr2 {s : State} {args : Array Value} (h : (Cond.arrayOver (.array .int)).before args s = true) : ∃ cA, ArrOfT s cA (.array .int) ∧ va_RA s cA (.array .int) := by
  obtain ⟨comp, c, k, f0, f2, f3, f1⟩ := Cond.arrayOver_specA h
  exact ⟨c, fun N z => ⟨(fun k h => by cases h), k, f2, comp, f3⟩, f1⟩
def u_tm (i : Nat) : Term := .string RX0 (([89, 91, 92, 93] : List Nat).getD i 0)
theorem u_g0 : Cond.arrayOf (.static RX7 "LEAST_SETTING" "[I") .int ∈ flatC (Jvm.Cond.and given_1 narrow_1) ∧ Cond.eq (.length (.static RX7 "LEAST_SETTING" "[I")) (.int (Int32.ofNat 5)) ∈ flatC (Jvm.Cond.and given_1 narrow_1) ∧ ∀ j, j < 5 → Cond.eq (.elem (.static RX7 "LEAST_SETTING" "[I") (.int (Int32.ofNat j))) (.int (q_lo j)) ∈ flatC (Jvm.Cond.and given_1 narrow_1) := by decide +kernel
theorem u_g1 : Cond.arrayOf (.static RX7 "MOST_SETTING" "[I") .int ∈ flatC (Jvm.Cond.and given_1 narrow_1) ∧ Cond.eq (.length (.static RX7 "MOST_SETTING" "[I")) (.int (Int32.ofNat 5)) ∈ flatC (Jvm.Cond.and given_1 narrow_1) ∧ ∀ j, j < 5 → Cond.eq (.elem (.static RX7 "MOST_SETTING" "[I") (.int (Int32.ofNat j))) (.int (q_hi j)) ∈ flatC (Jvm.Cond.and given_1 narrow_1) := by decide +kernel
theorem u_g2 : ∀ i, i < 4 → Cond.exactly (u_tm i) "java/lang/String" ∈ flatC (Jvm.Cond.and given_1 narrow_1) ∧ Cond.eq (.field (u_tm i) "java/lang/String" "coder" "B") (.int 0) ∈ flatC (Jvm.Cond.and given_1 narrow_1) ∧ Cond.arrayOf (.field (u_tm i) "java/lang/String" "value" "[B") .byte ∈ flatC (Jvm.Cond.and given_1 narrow_1) ∧ Cond.eq (.length (.field (u_tm i) "java/lang/String" "value" "[B")) (.int (Int32.ofNat (q_kn.getD i 0))) ∈ flatC (Jvm.Cond.and given_1 narrow_1) ∧ ∀ j, j < q_kn.getD i 0 → Cond.eq (.elem (.field (u_tm i) "java/lang/String" "value" "[B") (.int (Int32.ofNat j))) (.int ((q_kb.getD i []).getD j 0)) ∈ flatC (Jvm.Cond.and given_1 narrow_1) := by decide +kernel
theorem u_g3 : ∀ i, i < 4 → ∀ j, j < 4 → i ≠ j → Cond.not (Cond.eq (u_tm i) (u_tm j)) ∈ flatC (Jvm.Cond.and given_1 narrow_1) ∨ Cond.not (Cond.eq (u_tm j) (u_tm i)) ∈ flatC (Jvm.Cond.and given_1 narrow_1) := by decide +kernel
theorem u_g4 : Cond.eq (.static "java/lang/String" "COMPACT_STRINGS" "Z") (.int 1) ∈ flatC (Jvm.Cond.and given_1 narrow_1) ∧ Cond.isRef (.static "jdk/internal/util/Preconditions" "SIOOBE_FORMATTER" "Ljava/util/function/BiFunction;") ∈ flatC (Jvm.Cond.and given_1 narrow_1) := by decide +kernel
theorem u_w0 : ∀ w ∈ ([.laysStatic RX7 "LEAST_SETTING" "[I", .laysStatic RX7 "MOST_SETTING" "[I", .initialized RX7, .laysStatic "java/lang/String" "COMPACT_STRINGS" "Z", .initialized "java/lang/String", .laysStatic "jdk/internal/util/Preconditions" "SIOOBE_FORMATTER" "Ljava/util/function/BiFunction;", .initialized "jdk/internal/util/Preconditions", .arrayOver (.array .int), .arrayClass .int, .arrayClass .byte, .stringRef RX0 89 "zone", .stringRef RX0 91 "from", .stringRef RX0 92 "to", .stringRef RX0 93 "at", .instantiable RX0 6, .instantiable RX1 2, .instantiable RX2 8, .instantiable RX3 9, .instantiable RX4 4, .instantiable RX5 5, .instantiable RX6 2, .instantiable RX7 10, .instantiable RX8 30] : List Cond), w ∈ lw_tbl := by decide +kernel
theorem u_w1 : ∀ w ∈ q_nest, w ∈ lw_tbl := by decide +kernel
theorem u_start {p : Program} {s : State} {m : MethodId} {meth : Method} {c9 : Code} {b L : Nat} {xs : Nat → Int32} (hA0 : lw_At p s m meth c9 b L xs) : ∃ C : q_C, q_U C s ∧ C.1 = s.heap.size := by
  obtain ⟨hx, hb, hr, hml, hown, hts, hX, hbl, hlocks, hgv⟩ := hA0
  have hg := flat_of_before _ hgv
  have hw : ∀ w ∈ ([.laysStatic RX7 "LEAST_SETTING" "[I", .laysStatic RX7 "MOST_SETTING" "[I", .initialized RX7, .laysStatic "java/lang/String" "COMPACT_STRINGS" "Z", .initialized "java/lang/String", .laysStatic "jdk/internal/util/Preconditions" "SIOOBE_FORMATTER" "Ljava/util/function/BiFunction;", .initialized "jdk/internal/util/Preconditions", .arrayOver (.array .int), .arrayClass .int, .arrayClass .byte, .stringRef RX0 89 "zone", .stringRef RX0 91 "from", .stringRef RX0 92 "to", .stringRef RX0 93 "at", .instantiable RX0 6, .instantiable RX1 2, .instantiable RX2 8, .instantiable RX3 9, .instantiable RX4 4, .instantiable RX5 5, .instantiable RX6 2, .instantiable RX7 10, .instantiable RX8 30] : List Cond), w.before #[Value.ref b] s = true := fun w h => hts w (u_w0 w h)
  simp only [List.forall_mem_cons] at hw
  obtain ⟨z0, z1, zi, z2, z2i, z3, z3i, za, zb, zc, s0, s1, s2, s3, i0, i1, i2, i3, i4, i5, i6, i7, i8, -⟩ := hw
  have hT : ∀ w ∈ q_T, w.before #[Value.ref b] s = true := fun w h => hts w (List.mem_filter.mp h).1
  have hA : ∀ a : Nat, a < s.heap.size → ¬ (fun q : Nat => s.heap.size ≤ q) a := fun a h q => Nat.not_le.mpr h q
  obtain ⟨t0, e0, T0⟩ := va_Tof (f := fun j => .int (q_lo j)) (A := fun q : Nat => s.heap.size ≤ q) (N := 5) (by decide) (hg _ u_g0.1) (va_eqt (hg _ u_g0.2.1)) (fun j hj => va_eqt (hg _ (u_g0.2.2 j hj))) hA
  obtain ⟨t1, e1, T1⟩ := va_Tof (f := fun j => .int (q_hi j)) (A := fun q : Nat => s.heap.size ≤ q) (N := 5) (by decide) (hg _ u_g1.1) (va_eqt (hg _ u_g1.2.1)) (fun j hj => va_eqt (hg _ (u_g1.2.2 j hj))) hA
  obtain ⟨adK, adV, hSt, hEv⟩ := vk_Sof (N := 4) (tm := u_tm) (len := q_kn) (byt := q_kb) (A := fun q : Nat => s.heap.size ≤ q) (by decide) (fun i hi => hg _ (u_g2 i hi).1) (fun i hi => hg _ (u_g2 i hi).2.1) (fun i hi => hg _ (u_g2 i hi).2.2.1) (fun i hi => hg _ (u_g2 i hi).2.2.2.1) (fun i hi j hj => hg _ ((u_g2 i hi).2.2.2.2 j hj)) (fun i j hi hj hij => (u_g3 i hi j hj hij).imp (hg _) (hg _)) hA
  obtain ⟨a0, A0, R0⟩ := u_arr zc (fun C h => by cases h)
  obtain ⟨a1, A1, R1⟩ := u_arr zb (fun C h => by cases h)
  obtain ⟨a2, A2, R2⟩ := u_arr2 za
  obtain ⟨c0, d0, K0⟩ := u_known (C := RX0) (T := TX0) (N := 6) (n := 6) hT wX0 i0
  obtain ⟨c1, d1, K1⟩ := u_known (C := RX1) (T := TX1) (N := 2) (n := 2) hT wX1 i1
  obtain ⟨c2, d2, K2⟩ := u_known (C := RX2) (T := TX2) (N := 8) (n := 8) hT wX2 i2
  obtain ⟨c3, d3, K3⟩ := u_known (C := RX3) (T := TX3) (N := 9) (n := 9) hT wX3 i3
  obtain ⟨c4, d4, K4⟩ := u_known (C := RX4) (T := TX4) (N := 4) (n := 4) hT wX4 i4
  obtain ⟨c5, d5, K5⟩ := u_known (C := RX5) (T := TX5) (N := 5) (n := 5) hT wX5 i5
  obtain ⟨c6, d6, K6⟩ := u_known (C := RX6) (T := TX6) (N := 2) (n := 2) hT wX6 i6
  obtain ⟨c7, d7, K7⟩ := u_known (C := RX7) (T := TX7) (N := 10) (n := 10) hT wX7 i7
  obtain ⟨c8, d8, K8⟩ := u_known (C := RX8) (T := TX8) (N := 30) (n := 30) hT wX8 i8
  refine ⟨(s.heap.size, fun i => if i = 0 then t0 else if i = 1 then t1 else adK (i - 2), adV, fun k => ([c0, c1, c2, c3, c4, c5, c6, c7, c8] : List ClassId).getD k c0, fun k => ([d0, d1, d2, d3, d4, d5, d6, d7, d8] : List (Nat → Nat)).getD k d0, fun k => ([a0, a1, a2] : List ClassId).getD k a0), ⟨⟨?_, ?_⟩, Nat.le_refl _, fun w h => va_Nw.of (q_nestT w h) (hts w (u_w1 w h)), ⟨va_Zref z0 zi e0 hA, T0⟩, ⟨va_Zref z1 zi e1 hA, T1⟩, ?_, ⟨vk_R.of s0 (hEv 0 (by decide)), vk_R.of s1 (hEv 1 (by decide)), vk_R.of s2 (hEv 2 (by decide)), vk_R.of s3 (hEv 3 (by decide))⟩, va_Zof z2 z2i (va_eqi (hg _ u_g4.1)) hA, ?_, va_Zqof z3 z3i (hg _ u_g4.2) hA⟩, rfl⟩
  · intro k q hq
    match k, hq with
    | 0, hq => cases hq; exact K0
    | 1, hq => cases hq; exact K1
    | 2, hq => cases hq; exact K2
    | 3, hq => cases hq; exact K3
    | 4, hq => cases hq; exact K4
    | 5, hq => cases hq; exact K5
    | 6, hq => cases hq; exact K6
    | 7, hq => cases hq; exact K7
    | 8, hq => cases hq; exact K8
    | k + 9, hq => simp at hq
  · intro k q hq
    match k, hq with
    | 0, hq => cases hq; exact ⟨A0, R0⟩
    | 1, hq => cases hq; exact ⟨A1, R1⟩
    | 2, hq => cases hq; exact ⟨A2, R2⟩
    | k + 3, hq => simp at hq
  · have e : (fun i => (if 2 + i = 0 then t0 else if 2 + i = 1 then t1 else adK (2 + i - 2))) = adK := funext fun i => by
      rw [if_neg (by omega), if_neg (by omega), show 2 + i - 2 = i by omega]
    show vk_S 4 q_kn q_kb (fun i => (if 2 + i = 0 then t0 else if 2 + i = 1 then t1 else adK (2 + i - 2))) adV _ s s.heap
    rw [e]
    exact hSt
  · unfold q_AO
    simp only [Cond.before, Cond.holds, Cond.value] at za ⊢
    exact za
set_option maxHeartbeats 4000000 in
set_option maxRecDepth 100000 in
/-- THE LAW, from its entry -/
theorem whole_start {p : Program} {e : Env} {s : State} {m : MethodId} {below : List Frame} {meth : Method} {c : Code} (l : Launch) {b L : Nat} {xs : Nat → Int32} (hL : L ≤ 3072) (C0 : lw_At p s m meth c b L xs) : W p l e room_1 s m #[Value.ref b] below meth c s.heap [] 0 0 (lw_Z below #[Value.ref b] s) (entryFrame m ([Value.ref b] : List Value).toArray 4) := by
  obtain ⟨C, hU, hC⟩ := u_start C0
  have h0 : q_LX C p s m meth c b L xs := ⟨C0, hU, hC⟩
  have key : q_L C p l e s m below meth c b 0 (fun _ _ => 0) (fun _ _ => none) [(0, .ref b)] [] 0 := by
    refine l_new h0 3 dL_law_0 rfl k_L_7 rfl (by decide) (by decide) (fun _ => rfl) (fun _ => rfl) ?_
    refine l_dup h0 4 dL_law_3 rfl rfl ?_
    refine l_I h0 7 [] [_] dL_law_4 rfl m_X7_init l_L_9 (i_Town (fun _ _ _ => rfl) (fun _ _ _ => rfl)) rfl rfl (Nat.le_of_ble_eq_true rfl) (by decide) (by decide) (by decide) (fun r μ1 ρ1 hc9 => ?_)
    obtain ⟨rfl, rfl, rfl⟩ := hc9
    refine l_astore_n h0 8 dL_law_7 rfl (by decide) ?_
    refine l_new h0 11 dL_law_8 rfl k_L_10 rfl (by decide) (by decide) (k_n (by (repeat (refine k_z ?_ (by decide))); exact fun c j h => rfl)) (k_m (by (repeat (first | refine k_r ?_ (by decide) | refine k_q ?_ (by decide))); exact fun c j h => rfl)) ?_
    refine l_dup h0 12 dL_law_11 rfl rfl ?_
    refine l_I h0 15 [] [_] dL_law_12 rfl m_X8_init l_L_12 (i_Model (by (repeat (refine k_z ?_ (by decide))); exact fun c j h => rfl) (by (repeat (first | refine k_r ?_ (by decide) | refine k_q ?_ (by decide))); exact fun c j h => rfl)) rfl rfl (Nat.le_of_ble_eq_true rfl) (by decide) (by decide) (by decide) (fun r μ1 ρ1 hc9 => ?_)
    obtain ⟨rfl, rfl, rfl⟩ := hc9
    refine l_astore_n h0 16 dL_law_15 rfl (by decide) ?_
    refine l_iconst h0 17 0 dL_law_16 rfl (by decide) ?_
    refine l_istore_n h0 18 dL_law_17 rfl (by decide) ?_
    refine l_alike (ρ' := q_ρ false) k_rho_ok ?_
    refine l_lv (q_lv C b 0) rfl ?_
    exact law_loop h0 hL L 0 false k_mu (Nat.zero_le _) (by omega) k_sim
  have hl := lv_entry ([Value.ref b]) (n := 4) (Nat.le_of_ble_eq_true rfl)
  rw [lg_entry_eq]
  exact key s.heap [] _ ⟨hC.symm, fun c hc => absurd hc (Nat.not_lt_zero _)⟩ va_S.rf ⟨hl.1, hl.2.1, fun q hq => hl.2.2 q (q_dd_mem hq)⟩
