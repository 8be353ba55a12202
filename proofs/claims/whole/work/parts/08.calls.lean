/-! ===== rules: making cells ===== -/
section QN
variable {C : q_C} {l : Launch} {F : q_F} {d n0 n1 : Nat} {Po : q_P} {n : Nat} {μ : q_M} {ρ : q_R} {lv : List (Nat × Value)} {st : List Value} {pc : Nat}
theorem q_sl_succ (n : Nat) (h : n < q_kl.length) : q_sl (n + 1) = q_sl n + (q_kd n).2 := by
  unfold q_sl q_kd
  rw [List.take_add_one, List.map_append, List.sum_append]
  simp [h]
theorem arrV_congr {cA : ClassId} {N : Nat} {f g : Nat → Value} (h : ∀ j, j < N → f j = g j) : arrV cA N f = arrV cA N g := by
  unfold arrV
  congr 1
  apply Array.ext
  · simp
  · intro i h1 h2
    simp at h1
    simp [h i h1]
theorem q_H.keep {C : q_C} {n : Nat} {μ : q_M} {ρ : q_R} {H H1 : Heap} (h : q_H C n μ ρ H) (o : ∀ q, q < H.size → H1[q]? = H[q]?) : ∀ c, c < n → q_at C c (q_V C μ ρ c) H1 := fun c hc => (h.2 c hc).kept (o _ (by rw [h.1]; unfold q_a; omega))
theorem g_new (pc' : Nat) {idx ci N : Nat} (hd : decode F.2.1 pc = .ok (.new idx, 3)) (hp : pc + 3 = pc') (hf : q_cls F.1.cls idx ci N) (hk : q_kd n = (ci, N)) (h9 : ci < 9) (hL : n < q_kl.length) (hn1 : n < n1) (hμ : ∀ k, μ n k = 0) (hρ : ∀ k, ρ n k = none) (kk : q_G C l F d n0 n1 Po (n + 1) μ ρ lv (.ref (q_a C n) :: st) pc') : q_G C l F d n0 n1 Po n μ ρ lv st pc := by
  subst hp
  intro p e s m args below meth c9 H locs ls hX hH hS hl hn
  obtain ⟨E, T, tys, e1, e2, e3, e4, e5, e6, e7⟩ := hf
  have hts := hX.2.2.2.2.2.1
  have hK := hX.2.2.2.2.2.2.2.2.1
  have hKn := hK.1 ci _ e1
  have s1 : q_sl (n + 1) = q_sl n + N := by rw [q_sl_succ n hL, hk]
  have s2 := q_sl_mono hn.1
  have s3 : q_sl (n + 1) ≤ q_sl n1 := q_sl_mono hn1
  have hz : H.size = q_a C n := hH.1
  refine W.newcK hX.1 hX.2.1 hX.2.2.2.2.1 (hts _ e4) (hts _ e5) (hts _ e6) rfl hd (by show n - n0 + 1 ≤ n1 - n0; omega) (by show q_sl n - q_sl n0 + N ≤ q_sl n1 - q_sl n0; omega) hKn.2.1 hz fun H1 kC hkC f1 f2 f3 => ?_
  have hH1 : q_H C (n + 1) μ ρ H1 := by
    refine ⟨by rw [f2]; unfold q_a; omega, fun c hc => ?_⟩
    by_cases hcn : c < n
    · exact hH.keep (fun q hq => f3 q (by rw [← hz]; exact hq)) c hcn
    · have hce : c = n := by omega
      subst hce
      unfold q_at
      rw [hk, if_pos h9]
      refine (u_born tys hts e2 hKn hkC f1 e3).to (fun k hk2 => ?_)
      rw [e7 k hk2]
      unfold q_V
      rw [hk, hμ, hρ]
      rfl
  have k2 := kk p e s m args below meth c9 H1 locs ls hX hH1 ⟨Nat.le_trans hS.1 (by rw [f2, hz]; omega), fun x g1 g2 => (f3 x (by rw [← hz]; exact Nat.lt_of_lt_of_le g1 hS.1)).trans (hS.2.1 x g1 g2), hS.2.2⟩ hl ⟨by omega, by omega⟩
  have c1 : n - n0 + 1 = n + 1 - n0 := by omega
  have c2 : q_sl n - q_sl n0 + N = q_sl (n + 1) - q_sl n0 := by omega
  rw [c1, c2]
  exact k2
theorem g_newI (pc' : Nat) {N : Nat} {i : Int32} (hd : decode F.2.1 pc = .ok (.newarray .int, 2)) (hp : pc + 2 = pc') (hw : Cond.arrayClass .int ∈ q_T) (hk : q_kd n = (10, N)) (hi : ¬ i < 0) (hN : i.toNatClampNeg = N) (hb : N * 4 ≤ 536870912) (hL : n < q_kl.length) (hn1 : n < n1) (hμ : ∀ k, μ n k = 0) (kk : q_G C l F d n0 n1 Po (n + 1) μ ρ lv (.ref (q_a C n) :: st) pc') : q_G C l F d n0 n1 Po n μ ρ lv (.int i :: st) pc := by
  subst hp
  intro p e s m args below meth c9 H locs ls hX hH hS hl hn
  have hts := hX.2.2.2.2.2.1
  have hK := hX.2.2.2.2.2.2.2.2.1
  have s1 : q_sl (n + 1) = q_sl n + N := by rw [q_sl_succ n hL, hk]
  have s2 := q_sl_mono hn.1
  have s3 : q_sl (n + 1) ≤ q_sl n1 := q_sl_mono hn1
  have hz : H.size = q_a C n := hH.1
  refine va_newaK hX.1 hX.2.1 (atype := .int) (hts _ hw) rfl hd rfl hi hN hb (by show n - n0 + 1 ≤ n1 - n0; omega) (by show q_sl n - q_sl n0 + N ≤ q_sl n1 - q_sl n0; omega) hz fun H1 cA f1 f2 f3 hAr hNm => ?_
  have hcA : q_cA C 1 = cA := Option.some.inj ((hK.2 1 _ rfl).2.symm.trans hNm)
  have hH1 : q_H C (n + 1) μ ρ H1 := by
    refine ⟨by rw [f2]; unfold q_a; omega, fun c hc => ?_⟩
    by_cases hcn : c < n
    · exact hH.keep (fun q hq => f3 q (by rw [← hz]; exact hq)) c hcn
    · have hce : c = n := by omega
      subst hce
      unfold q_at
      rw [hk, if_neg (show ¬ ((10, N) : Nat × Nat).1 < 9 from by show ¬ 10 < 9; decide), f1]
      show some (arrV cA N _) = some (arrV (q_cA C 1) N _)
      rw [hcA]
      refine congrArg some (arrV_congr (fun j hj => ?_))
      unfold q_V
      rw [hk, hμ]
      rfl
  have k2 := kk p e s m args below meth c9 H1 locs ls hX hH1 ⟨Nat.le_trans hS.1 (by rw [f2, hz]; omega), fun x g1 g2 => (f3 x (by rw [← hz]; exact Nat.lt_of_lt_of_le g1 hS.1)).trans (hS.2.1 x g1 g2), hS.2.2⟩ hl ⟨by omega, by omega⟩
  have c1 : n - n0 + 1 = n + 1 - n0 := by omega
  have c2 : q_sl n - q_sl n0 + N = q_sl (n + 1) - q_sl n0 := by omega
  rw [c1, c2]
  exact k2
theorem g_newB (pc' : Nat) {N : Nat} {i : Int32} (hd : decode F.2.1 pc = .ok (.newarray .byte, 2)) (hp : pc + 2 = pc') (hw : Cond.arrayClass .byte ∈ q_T) (hk : q_kd n = (9, N)) (hi : ¬ i < 0) (hN : i.toNatClampNeg = N) (hb : N * 1 ≤ 536870912) (hL : n < q_kl.length) (hn1 : n < n1) (hμ : ∀ k, μ n k = 0) (kk : q_G C l F d n0 n1 Po (n + 1) μ ρ lv (.ref (q_a C n) :: st) pc') : q_G C l F d n0 n1 Po n μ ρ lv (.int i :: st) pc := by
  subst hp
  intro p e s m args below meth c9 H locs ls hX hH hS hl hn
  have hts := hX.2.2.2.2.2.1
  have hK := hX.2.2.2.2.2.2.2.2.1
  have s1 : q_sl (n + 1) = q_sl n + N := by rw [q_sl_succ n hL, hk]
  have s2 := q_sl_mono hn.1
  have s3 : q_sl (n + 1) ≤ q_sl n1 := q_sl_mono hn1
  have hz : H.size = q_a C n := hH.1
  refine va_newaK hX.1 hX.2.1 (atype := .byte) (hts _ hw) rfl hd rfl hi hN hb (by show n - n0 + 1 ≤ n1 - n0; omega) (by show q_sl n - q_sl n0 + N ≤ q_sl n1 - q_sl n0; omega) hz fun H1 cA f1 f2 f3 hAr hNm => ?_
  have hcA : q_cA C 0 = cA := Option.some.inj ((hK.2 0 _ rfl).2.symm.trans hNm)
  have hH1 : q_H C (n + 1) μ ρ H1 := by
    refine ⟨by rw [f2]; unfold q_a; omega, fun c hc => ?_⟩
    by_cases hcn : c < n
    · exact hH.keep (fun q hq => f3 q (by rw [← hz]; exact hq)) c hcn
    · have hce : c = n := by omega
      subst hce
      unfold q_at
      rw [hk, if_neg (show ¬ ((9, N) : Nat × Nat).1 < 9 from by show ¬ 9 < 9; decide), f1]
      show some (arrV cA N _) = some (arrV (q_cA C 0) N _)
      rw [hcA]
      refine congrArg some (arrV_congr (fun j hj => ?_))
      unfold q_V
      rw [hk, hμ]
      rfl
  have k2 := kk p e s m args below meth c9 H1 locs ls hX hH1 ⟨Nat.le_trans hS.1 (by rw [f2, hz]; omega), fun x g1 g2 => (f3 x (by rw [← hz]; exact Nat.lt_of_lt_of_le g1 hS.1)).trans (hS.2.1 x g1 g2), hS.2.2⟩ hl ⟨by omega, by omega⟩
  have c1 : n - n0 + 1 = n + 1 - n0 := by omega
  have c2 : q_sl n - q_sl n0 + N = q_sl (n + 1) - q_sl n0 := by omega
  rw [c1, c2]
  exact k2
theorem q_outer (c : ClassId) (N h0 : Nat) : ∀ i : Nat, Jvm.Free.Multi.outerC c N h0 i = arrV c N (fun j => va_rf (if j < i then some (h0 + 1 + j) else none))
  | 0 => by
    show ({ cls := c, slots := Array.replicate N .null, vm := .none } : Cell) = _
    rw [arrV_new]
    refine congrArg (arrV c N) (funext fun j => ?_)
    simp [va_rf]
  | i + 1 => by
    show (Jvm.Free.Multi.outerC c N h0 i).setSlot i (.ref (h0 + 1 + i)) = _
    rw [q_outer c N h0 i, arrV_store]
    refine congrArg (arrV c N) (funext fun j => ?_)
    by_cases e : j = i
    · subst e
      simp [updV, va_rf]
    · by_cases h : j < i
      · simp [updV, e, h, Nat.lt_succ_of_lt h]
      · simp [updV, e, h, show ¬ j < i + 1 by omega]
/-- rows of a grid: the outer cell n refers to the rows behind it -/
def q_rows (ρ : q_R) (n : Nat) : q_R := fun c j => if c = n then some (n + 1 + j) else ρ c j
theorem g_mna (pc' : Nat) {idx N K : Nat} {i k : Int32} (hd : decode F.2.1 pc = .ok (.multianewarray idx 2, 4)) (hp : pc + 4 = pc') (hcl : Cond.classLink F.1.cls idx "[[I" ∈ q_T) (hw : Cond.arrayClass .int ∈ q_T) (hk : q_kd n = (11, N)) (hrw : ∀ j, j < N → q_kd (n + 1 + j) = (10, K)) (hi : ¬ i < 0) (hkk : ¬ k < 0) (hN : i.toNatClampNeg = N) (hK1 : k.toNatClampNeg = K) (hb1 : N * 4 ≤ 536870912) (hb2 : K * 4 ≤ 536870912) (hb3 : K ≤ 536870912) (hsl : q_sl (n + 1 + N) = q_sl n + N + N * K) (hn1 : n + 1 + N ≤ n1) (hμ : ∀ c j, n ≤ c → μ c j = 0)
    (kk : q_G C l F d n0 n1 Po (n + 1 + N) μ (q_rows ρ n) lv (.ref (q_a C n) :: st) pc') : q_G C l F d n0 n1 Po n μ ρ lv (.int k :: .int i :: st) pc := by
  subst hp
  intro p e s m args below meth c9 H locs ls hX hH hS hl hn
  have hts := hX.2.2.2.2.2.1
  have hK := hX.2.2.2.2.2.2.2.2.1
  have hAO := hX.2.2.2.2.2.2.2.2.2.2.2.2.2.2.2.2.1
  have s2 := q_sl_mono hn.1
  have s3 : q_sl (n + 1 + N) ≤ q_sl n1 := q_sl_mono hn1
  have hz : H.size = q_a C n := hH.1
  subst hN
  subst hK1
  intro T hT Xs
  obtain ⟨vm₁, cA, comp, -, fA, fC, hO, -, X', step⟩ := Xs.multianewarray2F hX.1 hX.2.2.2.2.1 (ty := .int) (hts _ hcl) hAO (hts _ hw) (g := F0 m pc ls (.int k :: .int i :: st)) rfl (by rw [hX.2.1]; exact hd) rfl hi hkk hb1 hb2 hb3 rfl rfl (by show n - n0 + _ ≤ n1 - n0; omega) (by show q_sl n - q_sl n0 + _ ≤ q_sl n1 - q_sl n0; omega)
  have hc2 : q_cA C 2 = cA := Option.some.inj ((hK.2 2 _ rfl).2.symm.trans fA)
  have hc1 : q_cA C 1 = comp := Option.some.inj ((hK.2 1 _ rfl).2.symm.trans fC)
  subst hc2
  subst hc1
  generalize hF : Jvm.Free.Multi.fill (T.setVm vm₁) (q_cA C 2) (q_cA C 1) i.toNatClampNeg k.toNatClampNeg (defaultValue .int) i.toNatClampNeg = Z at X' step
  have hTh : (T.setVm vm₁).heap = H := hT
  obtain ⟨f1, f2, -, -⟩ := Jvm.Free.Multi.fill_facts (T.setVm vm₁) (q_cA C 2) (q_cA C 1) i.toNatClampNeg k.toNatClampNeg (defaultValue .int) i.toNatClampNeg
  rw [hF, hTh] at f1 f2
  have hold : ∀ x : Nat, x < H.size → Z.heap[x]? = H[x]? := fun x hx => by
    have := Jvm.Free.Multi.fill_old (T.setVm vm₁) (q_cA C 2) (q_cA C 1) i.toNatClampNeg k.toNatClampNeg (defaultValue .int) (a := x) (by rw [hTh]; exact hx) i.toNatClampNeg
    rw [hF, hTh] at this
    exact this
  have hrow : ∀ j : Nat, j < i.toNatClampNeg → Z.heap[H.size + 1 + j]? = some (arrV (q_cA C 1) k.toNatClampNeg (fun _ => .int 0)) := fun j hj => by
    have := Jvm.Free.Multi.fill_inner (T.setVm vm₁) (q_cA C 2) (q_cA C 1) i.toNatClampNeg k.toNatClampNeg (defaultValue .int) i.toNatClampNeg j hj
    rw [hF, hTh] at this
    rw [this]
    show some ({ cls := q_cA C 1, slots := Array.replicate k.toNatClampNeg (.int 0), vm := .none } : Cell) = _
    rw [arrV_new]
  rw [q_outer] at f2
  have hH1 : q_H C (n + 1 + i.toNatClampNeg) μ (q_rows ρ n) Z.heap := by
    refine ⟨by rw [f1, hz]; unfold q_a; omega, fun c hc => ?_⟩
    by_cases hcn : c < n
    · have e2 : q_V C μ (q_rows ρ n) c = q_V C μ ρ c := by
        funext j
        simp [q_V, q_rows, show ¬ c = n by omega]
      rw [e2]
      exact hH.keep hold c hcn
    · by_cases hce : c = n
      · subst hce
        unfold q_at
        rw [hk, if_neg (show ¬ ((11, i.toNatClampNeg) : Nat × Nat).1 < 9 from by show ¬ 11 < 9; decide), ← hz, f2]
        refine congrArg some (arrV_congr (fun j hj => ?_))
        have hq : q_isr (q_kd c).1 j = true := by rw [hk]; rfl
        unfold q_V
        rw [if_pos hq]
        rw [if_pos hj, show q_rows ρ c c j = some (c + 1 + j) from if_pos rfl]
        show Value.ref (H.size + 1 + j) = Value.ref (q_a C (c + 1 + j))
        rw [hz, show q_a C c + 1 + j = q_a C (c + 1 + j) from by unfold q_a; omega]
      · obtain ⟨j, hj, rfl⟩ : ∃ j, j < i.toNatClampNeg ∧ c = n + 1 + j := ⟨c - (n + 1), by omega, by omega⟩
        unfold q_at
        rw [hrw j hj, if_neg (show ¬ ((10, k.toNatClampNeg) : Nat × Nat).1 < 9 from by show ¬ 10 < 9; decide)]
        have ha : q_a C (n + 1 + j) = H.size + 1 + j := by rw [hz]; unfold q_a; omega
        rw [ha, hrow j hj]
        refine congrArg some (arrV_congr (fun j2 hj2 => ?_))
        unfold q_V
        rw [hrw j hj, hμ _ _ (by omega)]
        rfl
  have k2 := kk p e s m args below meth c9 Z.heap locs ls hX hH1 ⟨Nat.le_trans hS.1 (by rw [f1]; omega), fun x g1 g2 => (hold x (Nat.lt_of_lt_of_le g1 hS.1)).trans (hS.2.1 x g1 g2), hS.2.2⟩ hl ⟨by omega, by omega⟩
  have c1 : n + 1 + i.toNatClampNeg - n0 = n - n0 + 1 + i.toNatClampNeg := by omega
  have c2 : q_sl (n + 1 + i.toNatClampNeg) - q_sl n0 = q_sl n - q_sl n0 + i.toNatClampNeg + i.toNatClampNeg * k.toNatClampNeg := by omega
  rw [c1, c2] at k2
  obtain ⟨t, a1, b1⟩ := k2 Z rfl X'
  refine ⟨t, step t ?_, b1⟩
  have e : T.heap.size = q_a C n := by rw [hT]; exact hz
  rw [e]
  exact a1
theorem g_obj (pc' : Nat) {idx a : Nat} (hd : decode F.2.1 pc = .ok (.invokespecial idx, 3)) (hp : pc + 3 = pc') (h1 : Cond.methodLink F.1.cls idx Lib.objectInit ∈ q_T) (h2 : Cond.instanceMethod Lib.objectInit ∈ q_T) (h3 : Cond.code Lib.objectInit ⟨#[0xb1]⟩ 1 none ∈ q_T) (hdd : 1 ≤ d) (hc : (st.map fun v => v.category).sum ≤ 8) (kk : q_G C l F d n0 n1 Po n μ ρ lv st pc') : q_G C l F d n0 n1 Po n μ ρ lv (.ref a :: st) pc := by
  subst hp
  intro p e s m args below meth c9 H locs ls hX hH hS hl hn
  have hts := hX.2.2.2.2.2.1
  exact W.objInit hX.1 hX.2.1 hX.2.2.2.2.1 (hts _ h1) (hts _ h2) (hts _ h3) rfl (by rw [hX.2.2.2.1]; exact hl.1) rfl hd hdd (by show 2 * 0 + _ + 12 ≤ 64 * d; omega) (kk p e s m args below meth c9 H locs ls hX hH hS hl hn)
/-! ===== rules: static fields, String constants ===== -/
theorem g_getL (pc' : Nat) {idx : Nat} (hd : decode F.2.1 pc = .ok (.getstatic idx, 3)) (hp : pc + 3 = pc') (hw : Cond.fieldLink F.1.cls idx "DesertTown" "LEAST_SETTING" "[I" ∈ q_T) (kk : q_G C l F d n0 n1 Po n μ ρ lv (.ref (q_x C 0) :: st) pc') : q_G C l F d n0 n1 Po n μ ρ lv st pc := by
  subst hp
  intro p e s m args below meth c9 H locs ls hX hH hS hl hn
  exact va_gets hX.1 hX.2.1 hX.2.2.2.2.2.2.2.2.2.2.2.1.1 hS hX.2.2.2.2.1 (hX.2.2.2.2.2.1 _ hw) (fun _ h => h) hd (kk p e s m args below meth c9 H locs ls hX hH hS hl hn)
theorem g_getH (pc' : Nat) {idx : Nat} (hd : decode F.2.1 pc = .ok (.getstatic idx, 3)) (hp : pc + 3 = pc') (hw : Cond.fieldLink F.1.cls idx "DesertTown" "MOST_SETTING" "[I" ∈ q_T) (kk : q_G C l F d n0 n1 Po n μ ρ lv (.ref (q_x C 1) :: st) pc') : q_G C l F d n0 n1 Po n μ ρ lv st pc := by
  subst hp
  intro p e s m args below meth c9 H locs ls hX hH hS hl hn
  exact va_gets hX.1 hX.2.1 hX.2.2.2.2.2.2.2.2.2.2.2.2.1.1 hS hX.2.2.2.2.1 (hX.2.2.2.2.2.1 _ hw) (fun _ h => h) hd (kk p e s m args below meth c9 H locs ls hX hH hS hl hn)
theorem g_ldL (pc' : Nat) {i : Int32} (hd : decode F.2.1 pc = .ok (.iaload, 1)) (hp : pc + 1 = pc') (hin : vp_in i 5) (kk : q_G C l F d n0 n1 Po n μ ρ lv (.int (q_lo i.toNatClampNeg) :: st) pc') : q_G C l F d n0 n1 Po n μ ρ lv (.int i :: .ref (q_x C 0) :: st) pc := by
  subst hp
  intro p e s m args below meth c9 H locs ls hX hH hS hl hn
  exact va_ti hX.1 hX.2.1 hX.2.2.2.2.2.2.2.2.2.2.2.1.2 hS hin rfl hd (kk p e s m args below meth c9 H locs ls hX hH hS hl hn)
theorem g_ldH (pc' : Nat) {i : Int32} (hd : decode F.2.1 pc = .ok (.iaload, 1)) (hp : pc + 1 = pc') (hin : vp_in i 5) (kk : q_G C l F d n0 n1 Po n μ ρ lv (.int (q_hi i.toNatClampNeg) :: st) pc') : q_G C l F d n0 n1 Po n μ ρ lv (.int i :: .ref (q_x C 1) :: st) pc := by
  subst hp
  intro p e s m args below meth c9 H locs ls hX hH hS hl hn
  exact va_ti hX.1 hX.2.1 hX.2.2.2.2.2.2.2.2.2.2.2.2.1.2 hS hin rfl hd (kk p e s m args below meth c9 H locs ls hX hH hS hl hn)
/-! ===== rules: calls ===== -/
theorem q_gd {F : q_F} {np : Nat} (hm : q_mt F np) : GoodIn q_T (.code F.1 F.2.1 F.2.2.1 F.2.2.2 :: q_T) := by
  intro w hw
  rcases List.mem_cons.mp hw with rfl | h
  · exact q_good (fun _ h => h) _ hm.1
  · exact q_good (fun _ h => h) _ h
theorem q_call {p : Program} {e : Env} {R : Room} {s : State} {m : MethodId} {args : Array Value} {below : List Frame} {meth : Method} {c : Code} {H : Heap} {locs : List Loc} {cells slots mc ms : Nat} {Q : State → Prop} {ls : Array Slot} {rest st0 : List Value} {a : Array Value} {n' : Nat} {Po' : q_P}
    (hr : va_Run p l e R s m args below meth c H locs cells slots mc ms (F0 m pc ls st0) rest (q_Q C n' Po' a) (q_A C)) (hS : va_S (q_A C) s.heap H locs)
    (kk : ∀ (r : Option Value) (μ' : q_M) (ρ' : q_R) (H1 : Heap) (locs1 : List Loc), Po' r μ' ρ' → q_H C n' μ' ρ' H1 → va_S (q_A C) s.heap H1 locs1 → W p l e R s m args below meth c H1 locs1 (cells + mc) (slots + ms) Q (F0 m (pc + 3) ls (r.toList ++ rest))) : W p l e R s m args below meth c H locs cells slots Q (F0 m pc ls st0) := by
  intro T hT X
  obtain ⟨v, st₀, t, T', L, h0, X', hL, e1, e2, ⟨⟨r, μ', ρ', hv, hp, hb⟩, hz, hk⟩, st⟩ := hr T hT X
  cases hv
  rw [h0] at hz hk
  obtain ⟨t2, a1, b1⟩ := kk v μ' ρ' T'.heap (locs ++ L) hp (by rw [e1]; exact hb)
    ⟨Nat.le_trans hS.1 (by rw [e1]; exact hz), fun q h1 h2 => by rw [e1, hk q (Nat.lt_of_lt_of_le h1 hS.1) h2]; exact hS.2.1 q h1 h2, fun q hq => by
      rcases List.mem_append.mp hq with h | h
      · exact hS.2.2 q h
      · exact hL q h⟩ T' rfl X'
  exact ⟨t2, st t2 a1, b1⟩
theorem q_blind {as : List Value} {n : Nat} {μ : q_M} {ρ : q_R} : FrameBlind (va_Pc as (fun U => q_U C U ∧ q_H C n μ ρ U.heap)) := by
  intro a U g mk q
  obtain ⟨q0, q1, q2⟩ := q
  exact ⟨q0, q_U.moved (U := U.calling g mk a) q1 va_S.rf rfl (State.WarmedH.refl U), q2⟩
theorem q_rooms {n' : Nat} (hn : n0 ≤ n ∧ n ≤ n1) (h1 : n ≤ n') (h2 : n' ≤ n1) : (n - n0) + (n' - n) ≤ n1 - n0 ∧ (q_sl n - q_sl n0) + (q_sl n' - q_sl n) ≤ q_sl n1 - q_sl n0 := by
  have s1 := q_sl_mono hn.1
  have s2 := q_sl_mono h1
  have s3 := q_sl_mono h2
  omega
theorem q_rooms2 {n' : Nat} (hn : n0 ≤ n ∧ n ≤ n1) (h1 : n ≤ n') : (n - n0) + (n' - n) = n' - n0 ∧ (q_sl n - q_sl n0) + (q_sl n' - q_sl n) = q_sl n' - q_sl n0 := by
  have s1 := q_sl_mono hn.1
  have s2 := q_sl_mono h1
  omega
theorem g_callS (pc' : Nat) (as rest : List Value) {idx np d' n' : Nat} {F' : q_F} {Po' : q_P} (hd : decode F.2.1 pc = .ok (.invokestatic idx, 3)) (hp : pc + 3 = pc') (hm : q_mt F' np) (hl1 : Cond.methodLink F.1.cls idx F'.1 ∈ q_T ∧ Cond.static F'.1 ∈ q_T) (hct : q_Ct C l F' d' n n' as μ ρ Po') (hst : st = as.reverse ++ rest) (hnp : as.length = np) (hcat : (rest.map fun v => v.category).sum ≤ 8) (hdd : d' < d) (h1 : n ≤ n') (h2 : n' ≤ n1)
    (kk : ∀ (r : Option Value) (μ' : q_M) (ρ' : q_R), Po' r μ' ρ' → q_G C l F d n0 n1 Po n' μ' ρ' lv (r.toList ++ rest) pc') : q_G C l F d n0 n1 Po n μ ρ lv st pc := by
  subst hp
  subst hst
  intro p e s m args below meth c9 H locs ls hX hH hS hl hn
  have hts := hX.2.2.2.2.2.1
  obtain ⟨m1, m2, m3, m4⟩ := id hm
  refine q_call (va_runS ⟨hX.1, hX.2.1, hX.2.2.2.1, hX.2.2.2.2.1, hts⟩ hct ⟨callB_of np hts (q_gd hm) rfl rfl rfl (hts _ m2) (hts _ hl1.1) m3 ⟨by show d' + 1 ≤ d; omega, by show 8 + (F'.2.2.1 + 11) + 64 * d' ≤ 64 * d; omega⟩, hts _ hl1.2⟩ ⟨q_blind, fun U hU hW => ⟨rfl, hX.2.2.2.2.2.2.2.2.moved hS hU hW, by rw [hU]; exact hH⟩⟩ rfl hnp hl.1 rfl (lv_room hcat) hd (q_rooms hn h1 h2)) hS ?_
  intro r μ' ρ' H1 locs1 hpo hH1 hS1
  have k2 := kk r μ' ρ' hpo p e s m args below meth c9 H1 locs1 ls hX hH1 hS1 hl ⟨by omega, h2⟩
  rw [(q_rooms2 hn h1).1, (q_rooms2 hn h1).2]
  exact k2
theorem g_callSN (pc' : Nat) (as rest : List Value) {idx np d' n' : Nat} {F' : q_F} {Po' : q_P} (hd : decode F.2.1 pc = .ok (.invokestatic idx, 3)) (hp : pc + 3 = pc') (hm : q_mt F' np) (hl1 : Cond.methodLinkNest F.1.cls idx F'.1 "DesertTown" ∈ q_nest ∧ Cond.static F'.1 ∈ q_T) (hct : q_Ct C l F' d' n n' as μ ρ Po') (hst : st = as.reverse ++ rest) (hnp : as.length = np) (hcat : (rest.map fun v => v.category).sum ≤ 8) (hdd : d' < d) (h1 : n ≤ n') (h2 : n' ≤ n1)
    (kk : ∀ (r : Option Value) (μ' : q_M) (ρ' : q_R), Po' r μ' ρ' → q_G C l F d n0 n1 Po n' μ' ρ' lv (r.toList ++ rest) pc') : q_G C l F d n0 n1 Po n μ ρ lv st pc := by
  subst hp
  subst hst
  intro p e s m args below meth c9 H locs ls hX hH hS hl hn
  have hts := hX.2.2.2.2.2.1
  obtain ⟨m1, m2, m3, m4⟩ := id hm
  have hnw := hX.2.2.2.2.2.2.2.2.2.2.1 _ hl1.1
  refine q_call (va_runSN ⟨hX.1, hX.2.1, hX.2.2.2.1, hX.2.2.2.2.1, hts⟩ hct ⟨va_cnB np hts (q_gd hm) rfl rfl rfl hnw (hts _ m2) m3 ⟨by show d' + 1 ≤ d; omega, by show 8 + (F'.2.2.1 + 11) + 64 * d' ≤ 64 * d; omega⟩, hts _ hl1.2, trivial⟩ ⟨q_blind, fun U hU hW => ⟨rfl, hX.2.2.2.2.2.2.2.2.moved hS hU hW, by rw [hU]; exact hH⟩⟩ rfl hnp hl.1 rfl (lv_room hcat) hd (q_rooms hn h1 h2)) hS ?_
  intro r μ' ρ' H1 locs1 hpo hH1 hS1
  have k2 := kk r μ' ρ' hpo p e s m args below meth c9 H1 locs1 ls hX hH1 hS1 hl ⟨by omega, h2⟩
  rw [(q_rooms2 hn h1).1, (q_rooms2 hn h1).2]
  exact k2
theorem g_callIN (pc' : Nat) (as rest : List Value) {b idx np d' n' : Nat} {F' : q_F} {Po' : q_P} (hd : decode F.2.1 pc = .ok (.invokespecial idx, 3)) (hp : pc + 3 = pc') (hm : q_mt F' np) (hl1 : Cond.methodLinkNest F.1.cls idx F'.1 "DesertTown" ∈ q_nest ∧ F'.1.name = "<init>" ∧ Cond.instanceMethod F'.1 ∈ q_T ∧ F'.2.2.2 = none) (hct : q_Ct C l F' d' n n' (.ref b :: as) μ ρ Po') (hst : st = as.reverse ++ .ref b :: rest) (hnp : as.length = np) (hcat : (rest.map fun v => v.category).sum ≤ 8) (hdd : d' < d) (h1 : n ≤ n') (h2 : n' ≤ n1)
    (kk : ∀ (r : Option Value) (μ' : q_M) (ρ' : q_R), Po' r μ' ρ' → q_G C l F d n0 n1 Po n' μ' ρ' lv (r.toList ++ rest) pc') : q_G C l F d n0 n1 Po n μ ρ lv st pc := by
  subst hp
  subst hst
  intro p e s m args below meth c9 H locs ls hX hH hS hl hn
  have hts := hX.2.2.2.2.2.1
  obtain ⟨m1, m2, m3, m4⟩ := id hm
  have hnw := hX.2.2.2.2.2.2.2.2.2.2.1 _ hl1.1
  have hgd := q_gd hm
  unfold q_Ct at hct
  rw [hl1.2.2.2] at hct hgd
  refine q_call (va_runIN ⟨hX.1, hX.2.1, hX.2.2.2.1, hX.2.2.2.2.1, hts⟩ hct ⟨va_cnB np hts hgd rfl rfl rfl hnw (hts _ m2) m3 ⟨by show d' + 1 ≤ d; omega, by show 8 + (F'.2.2.1 + 11) + 64 * d' ≤ 64 * d; omega⟩, hl1.2.1, hts _ hl1.2.2.1⟩ ⟨q_blind, fun U hU hW => ⟨rfl, hX.2.2.2.2.2.2.2.2.moved hS hU hW, by rw [hU]; exact hH⟩⟩ rfl hnp hl.1 rfl (lv_room hcat) hd (q_rooms hn h1 h2)) hS ?_
  intro r μ' ρ' H1 locs1 hpo hH1 hS1
  have k2 := kk r μ' ρ' hpo p e s m args below meth c9 H1 locs1 ls hX hH1 hS1 hl ⟨by omega, h2⟩
  rw [(q_rooms2 hn h1).1, (q_rooms2 hn h1).2]
  exact k2
theorem g_callV (pc' : Nat) (c : Nat) (as rest : List Value) {idx np d' n' ci N : Nat} {F' : q_F} {Po' : q_P} (hd : decode F.2.1 pc = .ok (.invokevirtual idx, 3)) (hp : pc + 3 = pc') (hm : q_mt F' np) (hl1 : Cond.methodLink F.1.cls idx F'.1 ∈ q_T ∧ Cond.instanceMethod F'.1 ∈ q_T ∧ Cond.selects F'.1.cls F'.1 F'.1 ∈ q_T) (hc : c < n) (hk : q_kd c = (ci, N)) (hci : vwCl[ci]?.map (fun q => q.1) = some F'.1.cls) (hct : q_Ct C l F' d' n n' (.ref (q_a C c) :: as) μ ρ Po') (hst : st = as.reverse ++ .ref (q_a C c) :: rest) (hnp : as.length = np) (hcat : (rest.map fun v => v.category).sum ≤ 8) (hdd : d' < d) (h1 : n ≤ n') (h2 : n' ≤ n1)
    (kk : ∀ (r : Option Value) (μ' : q_M) (ρ' : q_R), Po' r μ' ρ' → q_G C l F d n0 n1 Po n' μ' ρ' lv (r.toList ++ rest) pc') : q_G C l F d n0 n1 Po n μ ρ lv st pc := by
  subst hp
  subst hst
  intro p e s m args below meth c9 H locs ls hX hH hS hl hn
  have hts := hX.2.2.2.2.2.1
  obtain ⟨m1, m2, m3, m4⟩ := id hm
  have hK := hX.2.2.2.2.2.2.2.2.1
  have hrecv : ∃ cellB : Cell, H[q_a C c]? = some cellB ∧ cellB.vm.isStatics = false ∧ s.vm.findClass F'.1.cls = some cellB.cls := by
    cases e1 : vwCl[ci]? with
    | none => rw [e1] at hci; cases hci
    | some q =>
      rw [e1] at hci
      have h9 : ci < 9 := (List.getElem?_eq_some_iff.mp e1).1
      have hat := hH.2 c hc
      unfold q_at at hat
      rw [hk, if_pos h9] at hat
      obtain ⟨cell, q1, q2, q3, q4⟩ := hat
      exact ⟨cell, q1, by rw [q3]; rfl, by rw [q2, ← Option.some.inj hci]; exact (hK.1 ci q e1).2.1⟩
  refine q_call (va_runV (C := F'.1.cls) ⟨hX.1, hX.2.1, hX.2.2.2.1, hX.2.2.2.2.1, hts⟩ hct ⟨callB_of np hts (q_gd hm) rfl rfl rfl (hts _ m2) (hts _ hl1.1) m3 ⟨by show d' + 1 ≤ d; omega, by show 8 + (F'.2.2.1 + 11) + 64 * d' ≤ 64 * d; omega⟩, hts _ hl1.2.1, hts _ hl1.2.2⟩ ⟨q_blind, hrecv, fun U hU hW => ⟨rfl, hX.2.2.2.2.2.2.2.2.moved hS hU hW, by rw [hU]; exact hH⟩⟩ rfl hnp hl.1 rfl (lv_room hcat) hd (q_rooms hn h1 h2)) hS ?_
  intro r μ' ρ' H1 locs1 hpo hH1 hS1
  have k2 := kk r μ' ρ' hpo p e s m args below meth c9 H1 locs1 ls hX hH1 hS1 hl ⟨by omega, h2⟩
  rw [(q_rooms2 hn h1).1, (q_rooms2 hn h1).2]
  exact k2
theorem g_max (pc' : Nat) {idx : Nat} {x y : Int32} (hd : decode F.2.1 pc = .ok (.invokestatic idx, 3)) (hp : pc + 3 = pc') (h1 : Cond.methodLink F.1.cls idx Lib.Math.max.name ∈ q_T) (h2 : Cond.static Lib.Math.max.name ∈ q_T) (h3 : Cond.initialized "java/lang/Math" ∈ q_T) (h4 : Cond.code Lib.Math.max.name Lib.Math.max.code 2 (some .int) ∈ q_T) (hdd : 1 ≤ d) (hc : (st.map fun v => v.category).sum ≤ 8) (kk : q_G C l F d n0 n1 Po n μ ρ lv (.int (if x < y then y else x) :: st) pc') : q_G C l F d n0 n1 Po n μ ρ lv (.int y :: .int x :: st) pc := by
  subst hp
  intro p e s m args below meth c9 H locs ls hX hH hS hl hn
  have hts := hX.2.2.2.2.2.1
  have s1 := q_sl_mono hn.1
  have s2 := q_sl_mono hn.2
  exact va_mmax hX.1 hX.2.1 (by rw [hX.2.2.2.1]; exact hl.1.symm) hX.2.2.2.2.1 (hts _ h1) (hts _ h2) (hts _ h3) (hts _ h4) hdd (by show _ + 13 ≤ 64 * d; omega) (by show _ ≤ n1 - n0; omega) (by show _ ≤ q_sl n1 - q_sl n0; omega) hd (kk p e s m args below meth c9 H locs ls hX hH hS hl hn)
theorem g_min (pc' : Nat) {idx : Nat} {x y : Int32} (hd : decode F.2.1 pc = .ok (.invokestatic idx, 3)) (hp : pc + 3 = pc') (h1 : Cond.methodLink F.1.cls idx Lib.Math.min.name ∈ q_T) (h2 : Cond.static Lib.Math.min.name ∈ q_T) (h3 : Cond.initialized "java/lang/Math" ∈ q_T) (h4 : Cond.code Lib.Math.min.name Lib.Math.min.code 2 (some .int) ∈ q_T) (hdd : 1 ≤ d) (hc : (st.map fun v => v.category).sum ≤ 8) (kk : q_G C l F d n0 n1 Po n μ ρ lv (.int (if y < x then y else x) :: st) pc') : q_G C l F d n0 n1 Po n μ ρ lv (.int y :: .int x :: st) pc := by
  subst hp
  intro p e s m args below meth c9 H locs ls hX hH hS hl hn
  have hts := hX.2.2.2.2.2.1
  have s1 := q_sl_mono hn.1
  have s2 := q_sl_mono hn.2
  exact va_mmin hX.1 hX.2.1 (by rw [hX.2.2.2.1]; exact hl.1.symm) hX.2.2.2.2.1 (hts _ h1) (hts _ h2) (hts _ h3) (hts _ h4) hdd (by show _ + 13 ≤ 64 * d; omega) (by show _ ≤ n1 - n0; omega) (by show _ ≤ q_sl n1 - q_sl n0; omega) hd (kk p e s m args below meth c9 H locs ls hX hH hS hl hn)
end QN
