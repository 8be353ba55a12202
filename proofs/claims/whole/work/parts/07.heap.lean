/-! ===== rules: fields and arrays ===== -/
section QH
variable {C : q_C} {l : Launch} {F : q_F} {d n0 n1 : Nat} {Po : q_P} {n : Nat} {μ : q_M} {ρ : q_R} {lv : List (Nat × Value)} {st : List Value} {pc : Nat}
theorem g_getI (pc' : Nat) {c idx ci N k : Nat} {ty : FieldType} {fin : Bool} (hd : decode F.2.1 pc = .ok (.getfield idx, 3)) (hp : pc + 3 = pc') (hf : q_fld F.1.cls idx ci N k ty fin) (hc : c < n) (hk : q_kd c = (ci, N)) (hr : q_isr ci k = false) (kk : q_G C l F d n0 n1 Po n μ ρ lv (.int (μ c k) :: st) pc') : q_G C l F d n0 n1 Po n μ ρ lv (.ref (q_a C c) :: st) pc := by
  subst hp
  intro p e s m args below meth c9 H locs ls hX hH hS hl hn
  obtain ⟨E, T, tys, e1, e2, e3, e4, e5, e6, e7, e8, e9⟩ := hf
  have h9 : ci < 9 := (List.getElem?_eq_some_iff.mp e1).1
  have hat := hH.2 c hc
  unfold q_at at hat
  rw [hk, if_pos h9] at hat
  obtain ⟨cell, q1, q2, q3, q4⟩ := hat
  have hts := hX.2.2.2.2.2.1
  have hK := hX.2.2.2.2.2.2.2.2.1
  obtain ⟨hSl, hfc, kC, hkC, hkind⟩ := hK.1 ci _ e1
  obtain ⟨cf, kf, fi, f, hi, hsl⟩ := hSl k e5
  refine W.getf hX.1 hX.2.1 hX.2.2.2.2.1 (hts _ e6) hi (u_facts hfc hkC (u_lays hts e2 e5) hi).1 q1 (by rw [q3]; exact fun h => by cases h) (v := .int (μ c k)) ?_ rfl rfl hd (kk p e s m args below meth c9 H locs ls hX hH hS hl hn)
  have q5 := q4 k e5
  rw [hsl, q5]
  simp [q_V, hk, hr]
theorem g_getR (pc' : Nat) (r : Nat) {c idx ci N k : Nat} {ty : FieldType} {fin : Bool} (hd : decode F.2.1 pc = .ok (.getfield idx, 3)) (hp : pc + 3 = pc') (hf : q_fld F.1.cls idx ci N k ty fin) (hc : c < n) (hk : q_kd c = (ci, N)) (hr : q_isr ci k = true) (hv : ρ c k = some r) (kk : q_G C l F d n0 n1 Po n μ ρ lv (.ref (q_a C r) :: st) pc') : q_G C l F d n0 n1 Po n μ ρ lv (.ref (q_a C c) :: st) pc := by
  subst hp
  intro p e s m args below meth c9 H locs ls hX hH hS hl hn
  obtain ⟨E, T, tys, e1, e2, e3, e4, e5, e6, e7, e8, e9⟩ := hf
  have h9 : ci < 9 := (List.getElem?_eq_some_iff.mp e1).1
  have hat := hH.2 c hc
  unfold q_at at hat
  rw [hk, if_pos h9] at hat
  obtain ⟨cell, q1, q2, q3, q4⟩ := hat
  have hts := hX.2.2.2.2.2.1
  have hK := hX.2.2.2.2.2.2.2.2.1
  obtain ⟨hSl, hfc, kC, hkC, hkind⟩ := hK.1 ci _ e1
  obtain ⟨cf, kf, fi, f, hi, hsl⟩ := hSl k e5
  refine W.getf hX.1 hX.2.1 hX.2.2.2.2.1 (hts _ e6) hi (u_facts hfc hkC (u_lays hts e2 e5) hi).1 q1 (by rw [q3]; exact fun h => by cases h) (v := .ref (q_a C r)) ?_ rfl rfl hd (kk p e s m args below meth c9 H locs ls hX hH hS hl hn)
  have q5 := q4 k e5
  rw [hsl, q5]
  simp [q_V, hk, hr, hv, va_rf]
theorem q_put {p : Program} {e : Env} {s : State} {m : MethodId} {args : Array Value} {below : List Frame} {meth : Method} {c9 : Code} {H : Heap} {locs : List Loc} {ls : Array Slot} {R : Room} {cells slots : Nat} {Q : State → Prop} {c idx ci N k : Nat} {ty : FieldType} {fin : Bool} {v : Value} (hd : decode F.2.1 pc = .ok (.putfield idx, 3)) (hf : q_fld F.1.cls idx ci N k ty fin) (hc : c < n) (hk : q_kd c = (ci, N)) (hfin : fin = false ∨ (F.1.name = "<init>" ∧ vwCl[ci]?.map (fun q => q.1) = some F.1.cls)) (hnr : narrow ty v = v) (hft : fits ty v = true)
    (hX : q_X C p F s m args meth c9) (hH : q_H C n μ ρ H)
    (kk : ∀ (H1 : Heap) (k9 : Nat), H1.size = H.size → (∀ q, q ≠ q_a C c → H1[q]? = H[q]?) → q_at C c (updV (q_V C μ ρ c) k v) H1 → W p l e R s m args below meth c9 H1 (locs ++ [⟨q_a C c, k9⟩]) cells slots Q (F0 m (pc + 3) ls st)) : W p l e R s m args below meth c9 H locs cells slots Q (F0 m pc ls (v :: .ref (q_a C c) :: st)) := by
  obtain ⟨E, T, tys, e1, e2, e3, e4, e5, e6, e7, e8, e9⟩ := hf
  have h9 : ci < 9 := (List.getElem?_eq_some_iff.mp e1).1
  have hat := hH.2 c hc
  unfold q_at at hat
  rw [hk, if_pos h9] at hat
  obtain ⟨cell, q1, q2, q3, q4⟩ := hat
  have hts := hX.2.2.2.2.2.1
  have hK := hX.2.2.2.2.2.2.2.2.1
  have hap := va_apart (own := "") (s := s) (args := args) hts e2 tys e3 e4 hK e1
  obtain ⟨hSl, hfc, kC, hkC, hkind⟩ := hK.1 ci _ e1
  obtain ⟨cf, kf, fi, f, hi, hsl⟩ := hSl k e5
  have hlay := hts _ (e2 _ (u_in_lay e5))
  unfold u_lay at hlay
  have hst := (u_facts hfc hkC (u_lays hts e2 e5) hi).1
  have hpd : parseFieldDescriptor (T k).2.2.1 = some ty := by rw [e3 k e5, e7]
  have key : ∀ H' : Heap, H'[q_a C c]? = some (cell.setSlot f.slot v) → H'.size = H.size → (∀ q, q ≠ q_a C c → H'[q]? = H[q]?) → W p l e R s m args below meth c9 H' (locs ++ [⟨q_a C c, f.slot⟩]) cells slots Q (F0 m (pc + 3) ls st) := by
    intro H' f1 f2 f3
    refine kk H' f.slot f2 f3 ?_
    unfold q_at
    rw [hk, if_pos h9]
    rw [hsl] at f1
    exact ⟨_, f1, q2, q3, t_set q4 hap e5 v⟩
  cases hfe : fin with
  | false =>
    rw [if_neg (by rw [e8, hfe]; decide)] at hlay
    have h6 := u_store hfc hkC hkind hlay hi hpd hnr hft
    exact W.putK hX.1 hX.2.1 (f := f) ⟨hX.2.2.2.2.1, hts _ e6, ⟨_, _, _, hi⟩, hst⟩ (by rw [q2]; exact h6) q1 q3 (by rw [hsl]; exact k2_hasslot (q4 k e5)) rfl rfl hd key
  | true =>
    rw [if_pos (by rw [e8, hfe])] at hlay
    obtain ⟨hin2, hE⟩ : F.1.name = "<init>" ∧ vwCl[ci]?.map (fun q => q.1) = some F.1.cls := by
      rcases hfin with h | h
      · rw [hfe] at h; cases h
      · exact h
    have hEo : E = F.1.cls := by rw [e1] at hE; exact Option.some.inj hE
    have hcf : m.cls = cf := by
      obtain ⟨_, _, c', _, _, _, -, -, hf', -, -, -, hown2, -⟩ := Cond.laysFinal_spec hlay
      have e1' : c' = cf := by have := hi.symm.trans hf'; simp at this; exact this.1.symm
      rw [e9, hEo] at hown2
      rw [← e1']; exact Option.some.inj (hX.2.2.2.2.1.symm.trans hown2)
    have h6 := u_fits hfc hkC hkind (Or.inr hlay) hi hpd hnr hft
    exact W.putFinK hX.1 hX.2.1 hX.2.2.2.2.1 (hts _ e6) hi hst hcf (hX.2.2.2.2.2.2.2.1.trans hin2) (by rw [q2]; exact h6) q1 q3 (by rw [hsl]; exact k2_hasslot (q4 k e5)) rfl rfl hd key
theorem q_Aa {C : q_C} {c : Nat} : q_A C (q_a C c) := Nat.le_add_right _ _
theorem g_putI (pc' : Nat) {c idx ci N k : Nat} {fin : Bool} {x : Int32} (hd : decode F.2.1 pc = .ok (.putfield idx, 3)) (hp : pc + 3 = pc') (hf : q_fld F.1.cls idx ci N k .int fin) (hc : c < n) (hk : q_kd c = (ci, N)) (hr : q_isr ci k = false) (hfin : fin = false ∨ (F.1.name = "<init>" ∧ vwCl[ci]?.map (fun q => q.1) = some F.1.cls)) (kk : q_G C l F d n0 n1 Po n (q_up μ c k x) ρ lv st pc') : q_G C l F d n0 n1 Po n μ ρ lv (.int x :: .ref (q_a C c) :: st) pc := by
  subst hp
  intro p e s m args below meth c9 H locs ls hX hH hS hl hn
  refine q_put hd hf hc hk hfin rfl rfl hX hH (fun H1 k9 z oq ha => ?_)
  exact kk p e s m args below meth c9 H1 _ ls hX (hH.setI z oq (by rw [hk]; exact hr) ha) (hS.put z oq q_Aa) hl hn
theorem g_putZ (pc' : Nat) {c idx ci N k : Nat} {x : Int32} (hd : decode F.2.1 pc = .ok (.putfield idx, 3)) (hp : pc + 3 = pc') (hf : q_fld F.1.cls idx ci N k .boolean false) (hc : c < n) (hk : q_kd c = (ci, N)) (hr : q_isr ci k = false) (hz : x = 0 ∨ x = 1) (kk : q_G C l F d n0 n1 Po n (q_up μ c k x) ρ lv st pc') : q_G C l F d n0 n1 Po n μ ρ lv (.int x :: .ref (q_a C c) :: st) pc := by
  subst hp
  intro p e s m args below meth c9 H locs ls hX hH hS hl hn
  refine q_put hd hf hc hk (Or.inl rfl) (by rcases hz with rfl | rfl <;> decide) (by rcases hz with rfl | rfl <;> decide) hX hH (fun H1 k9 z oq ha => ?_)
  exact kk p e s m args below meth c9 H1 _ ls hX (hH.setI z oq (by rw [hk]; exact hr) ha) (hS.put z oq q_Aa) hl hn
theorem g_putR (pc' : Nat) {c r idx ci N k : Nat} {ty : FieldType} {fin : Bool} (hd : decode F.2.1 pc = .ok (.putfield idx, 3)) (hp : pc + 3 = pc') (hf : q_fld F.1.cls idx ci N k ty fin) (hc : c < n) (hk : q_kd c = (ci, N)) (hr : q_isr ci k = true) (hfin : fin = false ∨ (F.1.name = "<init>" ∧ vwCl[ci]?.map (fun q => q.1) = some F.1.cls)) (hty : ty.isReference = true) (kk : q_G C l F d n0 n1 Po n μ (q_up ρ c k (some r)) lv st pc') : q_G C l F d n0 n1 Po n μ ρ lv (.ref (q_a C r) :: .ref (q_a C c) :: st) pc := by
  subst hp
  intro p e s m args below meth c9 H locs ls hX hH hS hl hn
  refine q_put hd hf hc hk hfin (by cases ty <;> first | rfl | cases hty) (by cases ty <;> first | rfl | cases hty) hX hH (fun H1 k9 z oq ha => ?_)
  exact kk p e s m args below meth c9 H1 _ ls hX (hH.setR z oq (by rw [hk]; exact hr) ha) (hS.put z oq q_Aa) hl hn
theorem q_arr {C : q_C} {n : Nat} {μ : q_M} {ρ : q_R} {H : Heap} {c kd N : Nat} (hH : q_H C n μ ρ H) (hc : c < n) (hk : q_kd c = (kd, N)) (h9 : ¬ kd < 9) : H[q_a C c]? = some (arrV (q_cA C (kd - 9)) N (q_V C μ ρ c)) := by
  have hat := hH.2 c hc
  unfold q_at at hat
  rw [hk, if_neg h9] at hat
  exact hat
theorem g_iald (pc' : Nat) {c N : Nat} {i : Int32} (hd : decode F.2.1 pc = .ok (.iaload, 1)) (hp : pc + 1 = pc') (hc : c < n) (hk : q_kd c = (10, N)) (hin : vp_in i N) (kk : q_G C l F d n0 n1 Po n μ ρ lv (.int (μ c i.toNatClampNeg) :: st) pc') : q_G C l F d n0 n1 Po n μ ρ lv (.int i :: .ref (q_a C c) :: st) pc := by
  subst hp
  intro p e s m args below meth c9 H locs ls hX hH hS hl hn
  have hlt : i.toNatClampNeg < N := Nat.not_le.mp fun q => hin (Or.inr q)
  have hK := hX.2.2.2.2.2.2.2.2.1
  exact W.iald (v := .int (μ c i.toNatClampNeg)) hX.1 hX.2.1 (q_arr hH hc hk (by decide)) ((hK.2 1 _ rfl).1 N _) (fun q => by cases q) (by rw [arrV_size]; exact hin) (by rw [arrV_read _ _ hlt]; simp [q_V, hk, q_isr, q_rl]) rfl rfl hd (kk p e s m args below meth c9 H locs ls hX hH hS hl hn)
theorem g_bald (pc' : Nat) {c N : Nat} {i : Int32} (hd : decode F.2.1 pc = .ok (.baload, 1)) (hp : pc + 1 = pc') (hc : c < n) (hk : q_kd c = (9, N)) (hin : vp_in i N) (kk : q_G C l F d n0 n1 Po n μ ρ lv (.int (μ c i.toNatClampNeg) :: st) pc') : q_G C l F d n0 n1 Po n μ ρ lv (.int i :: .ref (q_a C c) :: st) pc := by
  subst hp
  intro p e s m args below meth c9 H locs ls hX hH hS hl hn
  have hlt : i.toNatClampNeg < N := Nat.not_le.mp fun q => hin (Or.inr q)
  have hK := hX.2.2.2.2.2.2.2.2.1
  exact W.bald (v := .int (μ c i.toNatClampNeg)) hX.1 hX.2.1 (q_arr hH hc hk (by decide)) ((hK.2 0 _ rfl).1 N _) (fun q => by cases q) (by rw [arrV_size]; exact hin) (by rw [arrV_read _ _ hlt]; simp [q_V, hk, q_isr, q_rl]) rfl rfl hd (kk p e s m args below meth c9 H locs ls hX hH hS hl hn)
theorem g_aald (pc' : Nat) (r : Nat) {c N : Nat} {i : Int32} (hd : decode F.2.1 pc = .ok (.aaload, 1)) (hp : pc + 1 = pc') (hc : c < n) (hk : q_kd c = (11, N)) (hin : vp_in i N) (hv : ρ c i.toNatClampNeg = some r) (kk : q_G C l F d n0 n1 Po n μ ρ lv (.ref (q_a C r) :: st) pc') : q_G C l F d n0 n1 Po n μ ρ lv (.int i :: .ref (q_a C c) :: st) pc := by
  subst hp
  intro p e s m args below meth c9 H locs ls hX hH hS hl hn
  have hlt : i.toNatClampNeg < N := Nat.not_le.mp fun q => hin (Or.inr q)
  have hK := hX.2.2.2.2.2.2.2.2.1
  exact W.aald (v := .ref (q_a C r)) (ty := .array .int) hX.1 hX.2.1 (q_arr hH hc hk (by decide)) ((hK.2 2 _ rfl).1 N _) rfl (fun q => by cases q) (by rw [arrV_size]; exact hin) (by rw [arrV_read _ _ hlt]; simp [q_V, hk, q_isr, hv, va_rf]) rfl rfl hd (kk p e s m args below meth c9 H locs ls hX hH hS hl hn)
theorem g_iast (pc' : Nat) {c N : Nat} {i x : Int32} (hd : decode F.2.1 pc = .ok (.iastore, 1)) (hp : pc + 1 = pc') (hc : c < n) (hk : q_kd c = (10, N)) (hin : vp_in i N) (kk : q_G C l F d n0 n1 Po n (q_up μ c i.toNatClampNeg x) ρ lv st pc') : q_G C l F d n0 n1 Po n μ ρ lv (.int x :: .int i :: .ref (q_a C c) :: st) pc := by
  subst hp
  intro p e s m args below meth c9 H locs ls hX hH hS hl hn
  have hK := hX.2.2.2.2.2.2.2.2.1
  refine W.iast hX.1 hX.2.1 (q_arr hH hc hk (by decide)) ((hK.2 1 _ rfl).1 N _) (fun q => by cases q) (by rw [arrV_size]; exact hin) rfl rfl hd fun H1 e z oq => ?_
  refine kk p _ s m args below meth c9 H1 _ ls hX (hH.setI z oq (by rw [hk]; rfl) ?_) (hS.put z oq q_Aa) hl hn
  unfold q_at
  rw [hk, if_neg (show ¬ ((10, N) : Nat × Nat).1 < 9 from by show ¬ 10 < 9; decide), e, arrV_store]
theorem g_bast (pc' : Nat) {c N : Nat} {i x : Int32} (hd : decode F.2.1 pc = .ok (.bastore, 1)) (hp : pc + 1 = pc') (hc : c < n) (hk : q_kd c = (9, N)) (hin : vp_in i N) (kk : q_G C l F d n0 n1 Po n (q_up μ c i.toNatClampNeg x.toInt8.toInt32) ρ lv st pc') : q_G C l F d n0 n1 Po n μ ρ lv (.int x :: .int i :: .ref (q_a C c) :: st) pc := by
  subst hp
  intro p e s m args below meth c9 H locs ls hX hH hS hl hn
  have hK := hX.2.2.2.2.2.2.2.2.1
  refine W.bast hX.1 hX.2.1 (q_arr hH hc hk (by decide)) ((hK.2 0 _ rfl).1 N _) (fun q => by cases q) (by rw [arrV_size]; exact hin) rfl rfl hd fun H1 e z oq => ?_
  refine kk p _ s m args below meth c9 H1 _ ls hX (hH.setI z oq (by rw [hk]; rfl) ?_) (hS.put z oq q_Aa) hl hn
  unfold q_at
  rw [hk, if_neg (show ¬ ((9, N) : Nat × Nat).1 < 9 from by show ¬ 9 < 9; decide), e, arrV_store]
  rfl
end QH
