def q_lo (j : Nat) : Int32 := ([0, 0, 10, 0, 0] : List Int32).getD j 0
def q_hi (j : Nat) : Int32 := ([600, 600, 120, 5000, 50] : List Int32).getD j 0
def q_kn : List Nat := [4, 4, 2, 2]
def q_kb : List (List Int32) := [[122, 111, 110, 101], [102, 114, 111, 109], [116, 111], [97, 116]]
def q_AO (U : State) : Prop := (Cond.arrayOver (.array .int)).before #[] U = true
theorem q_AO.moved {u U : State} (hvm : u.vm.Alike U.vm) (h : q_AO u) : q_AO U := by
  unfold q_AO Cond.before at h
  simp only [Cond.holds, Cond.value, beq_iff_eq] at h
  cases hc : u.vm.findClass (FieldType.array FieldType.int).toString with
  | none => simp [hc] at h
  | some comp =>
    simp only [hc, Option.bind_some, Option.bind_eq_some_iff, Option.map_eq_some_iff] at h
    obtain ⟨c, hi, k, hk, hb⟩ := h
    obtain ⟨k', hk', he⟩ := hvm.2.2 _ _ hk
    have hi2 : (U.vm.classes.findIdx? fun (x : Class) => match x.kind with | .array component _ => component == comp | _ => false) = some c := by
      have b1 := va_idx_bare U.vm comp
      have b2 := va_idx_bare u.vm comp
      rw [hvm.bare_eq] at b1
      exact b1.symm.trans (b2.trans hi)
    have f1 : U.vm.findClass (FieldType.array FieldType.int).toString = some comp := by rw [hvm.findClass]; exact hc
    have hkk : k'.kind = k.kind := by rw [he]
    unfold q_AO Cond.before
    simp only [Cond.holds, Cond.value, beq_iff_eq]
    rw [f1, Option.bind_some]
    refine Option.bind_eq_some_iff.mpr ⟨c, hi2, ?_⟩
    refine Option.map_eq_some_iff.mpr ⟨k', hk', ?_⟩
    rw [hkk]
    rw [← hb]
    cases k.kind <;> simp [hvm.findClass]
/-- what every method of the system finds at its start, besides the cells -/
def q_U (C : q_C) (U : State) : Prop :=
  va_K (q_D C) vwCl (q_tys C) U ∧ C.1 ≤ U.heap.size ∧ (∀ w ∈ q_nest, va_Nw w U) ∧
  (va_Z "DesertTown" "LEAST_SETTING" "[I" (.ref (q_x C 0)) (q_A C) U U.heap ∧ va_T .int (q_x C 0) 5 (fun j => .int (q_lo j)) (q_A C) U U.heap) ∧
  (va_Z "DesertTown" "MOST_SETTING" "[I" (.ref (q_x C 1)) (q_A C) U U.heap ∧ va_T .int (q_x C 1) 5 (fun j => .int (q_hi j)) (q_A C) U U.heap) ∧
  vk_S 4 q_kn q_kb (fun i => q_x C (2 + i)) C.2.2.1 (q_A C) U U.heap ∧
  (vk_R RX0 89 "zone" (q_x C 2) U ∧ vk_R RX0 91 "from" (q_x C 3) U ∧ vk_R RX0 92 "to" (q_x C 4) U ∧ vk_R RX0 93 "at" (q_x C 5) U) ∧
  va_Z "java/lang/String" "COMPACT_STRINGS" "Z" (.int 1) (q_A C) U U.heap ∧ q_AO U ∧ va_Zq "jdk/internal/util/Preconditions" "SIOOBE_FORMATTER" "Ljava/util/function/BiFunction;" (q_A C) U U.heap
theorem q_U.moved {C : q_C} {s U : State} {H : Heap} {locs : List Loc} (h : q_U C s) (hS : va_S (q_A C) s.heap H locs) (hH : U.heap = H) (hW : s.WarmedH U.vm) : q_U C U := by
  obtain ⟨h1, h2, h3, ⟨h4, h5⟩, ⟨h6, h7⟩, h8, ⟨r1, r2, r3, r4⟩, h9, h10, h11⟩ := h
  have ha := hW.alike
  subst hH
  exact ⟨va_K.moved ha h1, Nat.le_trans h2 hS.1, fun w hw => q_nestM w hw s U hW (h3 w hw), ⟨(h4.moved ha).kept hS.2.1, (h5.moved ha).kept hS.2.1⟩, ⟨(h6.moved ha).kept hS.2.1, (h7.moved ha).kept hS.2.1⟩, (h8.moved ha).kept hS.2.1, ⟨r1.warm hW, r2.warm hW, r3.warm hW, r4.warm hW⟩, (h9.moved ha).kept hS.2.1, q_AO.moved ha h10, (h11.moved ha).kept hS.2.1⟩
/-! ===== locals: the newest first; what it hides doesn't count ===== -/
def q_dd : List (Nat × Value) → List (Nat × Value)
  | [] => []
  | (i, v) :: t => (i, v) :: (q_dd t).filter (fun q => !(q.1 == i) && ((v.category == 1 || !(q.1 == i + 1)) && !(q.1 + 1 == i && q.2.category == 2)))
def q_chk (i j : Nat) : Option Value → Option Value
  | none => none
  | some v => bif (Nat.beq v.category 2 && Nat.beq (i + 1) j) then none else some v
def q_get (i : Nat) : List (Nat × Value) → Option Value
  | [] => none
  | (j, w) :: t => bif Nat.beq j i then some w else bif (Nat.beq w.category 2 && Nat.beq i (j + 1)) then none else q_chk i j (q_get i t)
theorem q_get_mem {i : Nat} {v : Value} : ∀ {lv : List (Nat × Value)}, q_get i lv = some v → (i, v) ∈ q_dd lv
  | [], h => by cases h
  | (j, w) :: t, h => by
    unfold q_get at h
    unfold q_dd
    cases e : Nat.beq j i with
    | true =>
      rw [e] at h
      have e2 : j = i := Nat.eq_of_beq_eq_true e
      subst e2
      cases h
      exact List.mem_cons_self
    | false =>
      rw [e] at h
      have ne : j ≠ i := Nat.ne_of_beq_eq_false e
      cases e3 : (Nat.beq w.category 2 && Nat.beq i (j + 1)) with
      | true => rw [e3] at h; cases h
      | false =>
        rw [e3] at h
        simp only [cond_false] at h
        cases e4 : q_get i t with
        | none => rw [e4] at h; cases h
        | some v' =>
          rw [e4] at h
          unfold q_chk at h
          cases e5 : (Nat.beq v'.category 2 && Nat.beq (i + 1) j) with
          | true => simp only [e5, cond_true] at h; cases h
          | false =>
            simp only [e5, cond_false] at h
            cases h
            refine List.mem_cons_of_mem _ (List.mem_filter.mpr ⟨q_get_mem e4, ?_⟩)
            have c12 : w.category = 1 ∨ w.category = 2 := by cases w <;> simp [Value.category]
            simp only [Bool.and_eq_false_iff] at e3 e5
            have h5 : v.category ≠ 2 ∨ i + 1 ≠ j := e5.imp Nat.ne_of_beq_eq_false Nat.ne_of_beq_eq_false
            have h3 : w.category ≠ 2 ∨ i ≠ j + 1 := e3.imp Nat.ne_of_beq_eq_false Nat.ne_of_beq_eq_false
            rcases c12 with hc | hc
            · simp [hc]
              omega
            · simp [hc]
              omega
theorem q_dd_mem : ∀ {lv : List (Nat × Value)} {q : Nat × Value}, q ∈ q_dd lv → q ∈ lv
  | [], _, h => by cases h
  | (j, w) :: t, q, h => by
    unfold q_dd at h
    rcases List.mem_cons.mp h with rfl | h
    · exact List.mem_cons_self
    · exact List.mem_cons_of_mem _ (q_dd_mem (List.mem_filter.mp h).1)
theorem q_dd1 {lv : List (Nat × Value)} {i : Nat} {v : Value} (hv : v.category = 1) : (i, v) :: (q_dd lv).filter (fun q => !(q.1 == i) && !(q.1 + 1 == i && q.2.category == 2)) = q_dd ((i, v) :: lv) := by
  simp [q_dd, hv]
theorem q_dd2 {lv : List (Nat × Value)} {i : Nat} {v : Value} (hv : v.category = 2) : (i, v) :: (q_dd lv).filter (fun q => !(q.1 == i) && (!(q.1 == i + 1) && !(q.1 + 1 == i && q.2.category == 2))) = q_dd ((i, v) :: lv) := by
  simp [q_dd, hv]
theorem q_hat {ls : Array Slot} {nL i : Nat} {lv : List (Nat × Value)} {v : Value} (hl : lv_has ls nL (q_dd lv)) (h : q_get i lv = some v) : ls[i]? = some (.val v) := hl.2.2 (i, v) (q_get_mem h)
/-! ===== the judgement: a frame goes on to an end with Po ===== -/
def q_X (C : q_C) (p : Program) (F : q_F) (s : State) (m : MethodId) (args : Array Value) (meth : Method) (c : Code) : Prop :=
  p.tables.exec = Jvm.exec ∧ c.code = F.2.1 ∧ meth.sig.returnType = F.2.2.2 ∧ c.maxLocals = F.2.2.1 ∧ s.vm.findClass F.1.cls = some m.cls ∧ (∀ w ∈ q_T, w.before args s = true) ∧ meth.locks = false ∧ meth.name = F.1.name ∧ q_U C s
def q_rm (d n0 n1 : Nat) : Room := { frames := d, cells := n1 - n0, slots := q_sl n1 - q_sl n0, locals := 64 * d }
abbrev q_P : Type := Option Value → q_M → q_R → Prop
def q_Q (C : q_C) (n1 : Nat) (Po : q_P) : Array Value → State → Outcome → State → Prop := fun _ st o t => (∃ (r : Option Value) (μ : q_M) (ρ : q_R), o = .returned r ∧ Po r μ ρ ∧ q_H C n1 μ ρ t.heap) ∧ va_F (q_A C) st t
def q_G (C : q_C) (l : Launch) (F : q_F) (d n0 n1 : Nat) (Po : q_P) (n : Nat) (μ : q_M) (ρ : q_R) (lv : List (Nat × Value)) (st : List Value) (pc : Nat) : Prop :=
  ∀ (p : Program) (e : Env) (s : State) (m : MethodId) (args : Array Value) (below : List Frame) (meth : Method) (c : Code) (H : Heap) (locs : List Loc) (ls : Array Slot), q_X C p F s m args meth c → q_H C n μ ρ H → va_S (q_A C) s.heap H locs → lv_has ls F.2.2.1 (q_dd lv) → n0 ≤ n ∧ n ≤ n1 →
    W p l e (q_rm d n0 n1) s m args below meth c H locs (n - n0) (q_sl n - q_sl n0) (MQ below (q_Q C n1 Po) args s (n1 - n0) (q_sl n1 - q_sl n0) (q_A C)) (F0 m pc ls st)
/-- a method's contract -/
def q_Ct (C : q_C) (l : Launch) (F : q_F) (d n0 n1 : Nat) (as : List Value) (μ : q_M) (ρ : q_R) (Po : q_P) : Prop :=
  Met l F.1 (.code F.1 F.2.1 F.2.2.1 F.2.2.2 :: q_T) (q_rm d n0 n1) (va_Pc as (fun U => q_U C U ∧ q_H C n0 μ ρ U.heap)) (q_Q C n1 Po) (n1 - n0) (q_sl n1 - q_sl n0) (q_A C)
section QG
variable {C : q_C} {l : Launch} {F : q_F} {d n0 n1 : Nat} {Po : q_P} {n : Nat} {μ : q_M} {ρ : q_R} {lv : List (Nat × Value)} {st : List Value} {pc : Nat}
theorem q_entry {as : List Value} (hF : plainName F.1.cls = true) (hn : n0 ≤ n1) (ha : (lg_sl as).length ≤ F.2.2.1) (h : q_G C l F d n0 n1 Po n0 μ ρ (lv_args 0 as) [] 0) : q_Ct C l F d n0 n1 as μ ρ Po := by
  refine Met.ofW (cc := F.2.1) (maxL := F.2.2.1) (ret := F.2.2.2) hF rfl ?_
  intro p e s m args below meth c s₁ B hml hv
  obtain ⟨rfl, hU, hH⟩ := hv
  have hts := atoms_spec (ws := .code F.1 F.2.1 F.2.2.1 F.2.2.2 :: q_T) B.pre
  have hX : q_X C p F s m as.toArray meth c := ⟨B.exec, B.bytes, B.returns, hml, findClass_of_methodNamed B.named, fun w hw => hts w (List.mem_cons_of_mem _ hw), B.notSynchronized, (name_of_methodNamed B.named B.method).1, hU⟩
  have hl := lv_entry as (n := F.2.2.1) ha
  rw [lg_entry_eq]
  have k := h p e s m as.toArray below meth c s.heap [] _ hX hH va_S.rf ⟨hl.1, hl.2.1, fun q hq => hl.2.2 q (q_dd_mem hq)⟩ ⟨Nat.le_refl _, hn⟩
  rw [Nat.sub_self, Nat.sub_self] at k
  exact k
theorem g_lv (lv' : List (Nat × Value)) (h : lv'.map (fun q => q_get q.1 lv) = lv'.map (fun q => some q.2)) (k : q_G C l F d n0 n1 Po n μ ρ lv' st pc) : q_G C l F d n0 n1 Po n μ ρ lv st pc := by
  intro p e s m args below meth c H locs ls hX hH hS hl hn
  refine k p e s m args below meth c H locs ls hX hH hS ⟨hl.1, hl.2.1, fun q hq => ?_⟩ hn
  have hq := q_dd_mem hq
  obtain ⟨j, hj⟩ := List.getElem?_of_mem hq
  have h1 : (lv'.map (fun q => q_get q.1 lv))[j]? = some (some q.2) := by rw [h, List.getElem?_map, hj]; rfl
  rw [List.getElem?_map, hj] at h1
  exact q_hat hl (Option.some.inj h1)
theorem g_iadd (pc' : Nat) {x y : Int32} (hd : decode F.2.1 pc = .ok (.iadd, 1)) (hp : pc + 1 = pc') (k : q_G C l F d n0 n1 Po n μ ρ lv (.int (x + y) :: st) pc') : q_G C l F d n0 n1 Po n μ ρ lv (.int y :: .int x :: st) pc := by
  subst hp
  intro p e s m args below meth c H locs ls hX hH hS hl hn
  exact lv_iadd hX.1 hX.2.1 hd (k p e s m args below meth c H locs ls hX hH hS hl hn)
theorem g_isub (pc' : Nat) {x y : Int32} (hd : decode F.2.1 pc = .ok (.isub, 1)) (hp : pc + 1 = pc') (k : q_G C l F d n0 n1 Po n μ ρ lv (.int (x - y) :: st) pc') : q_G C l F d n0 n1 Po n μ ρ lv (.int y :: .int x :: st) pc := by
  subst hp
  intro p e s m args below meth c H locs ls hX hH hS hl hn
  exact lv_isub hX.1 hX.2.1 hd (k p e s m args below meth c H locs ls hX hH hS hl hn)
theorem g_imul (pc' : Nat) {x y : Int32} (hd : decode F.2.1 pc = .ok (.imul, 1)) (hp : pc + 1 = pc') (k : q_G C l F d n0 n1 Po n μ ρ lv (.int (x * y) :: st) pc') : q_G C l F d n0 n1 Po n μ ρ lv (.int y :: .int x :: st) pc := by
  subst hp
  intro p e s m args below meth c H locs ls hX hH hS hl hn
  exact lv_imul hX.1 hX.2.1 hd (k p e s m args below meth c H locs ls hX hH hS hl hn)
theorem g_iand (pc' : Nat) {x y : Int32} (hd : decode F.2.1 pc = .ok (.iand, 1)) (hp : pc + 1 = pc') (k : q_G C l F d n0 n1 Po n μ ρ lv (.int (x &&& y) :: st) pc') : q_G C l F d n0 n1 Po n μ ρ lv (.int y :: .int x :: st) pc := by
  subst hp
  intro p e s m args below meth c H locs ls hX hH hS hl hn
  exact lv_iand hX.1 hX.2.1 hd (k p e s m args below meth c H locs ls hX hH hS hl hn)
theorem g_ior (pc' : Nat) {x y : Int32} (hd : decode F.2.1 pc = .ok (.ior, 1)) (hp : pc + 1 = pc') (k : q_G C l F d n0 n1 Po n μ ρ lv (.int (x ||| y) :: st) pc') : q_G C l F d n0 n1 Po n μ ρ lv (.int y :: .int x :: st) pc := by
  subst hp
  intro p e s m args below meth c H locs ls hX hH hS hl hn
  exact lv_ior hX.1 hX.2.1 hd (k p e s m args below meth c H locs ls hX hH hS hl hn)
theorem g_ishl (pc' : Nat) {x y : Int32} (hd : decode F.2.1 pc = .ok (.ishl, 1)) (hp : pc + 1 = pc') (k : q_G C l F d n0 n1 Po n μ ρ lv (.int (x <<< (y &&& 31)) :: st) pc') : q_G C l F d n0 n1 Po n μ ρ lv (.int y :: .int x :: st) pc := by
  subst hp
  intro p e s m args below meth c H locs ls hX hH hS hl hn
  exact lv_ishl hX.1 hX.2.1 hd (k p e s m args below meth c H locs ls hX hH hS hl hn)
theorem g_ishr (pc' : Nat) {x y : Int32} (hd : decode F.2.1 pc = .ok (.ishr, 1)) (hp : pc + 1 = pc') (k : q_G C l F d n0 n1 Po n μ ρ lv (.int (x >>> (y &&& 31)) :: st) pc') : q_G C l F d n0 n1 Po n μ ρ lv (.int y :: .int x :: st) pc := by
  subst hp
  intro p e s m args below meth c H locs ls hX hH hS hl hn
  exact lv_ishr hX.1 hX.2.1 hd (k p e s m args below meth c H locs ls hX hH hS hl hn)
theorem g_idiv (pc' : Nat) {x y : Int32} (hd : decode F.2.1 pc = .ok (.idiv, 1)) (hp : pc + 1 = pc') (hne : ¬ y = 0) (k : q_G C l F d n0 n1 Po n μ ρ lv (.int (x / y) :: st) pc') : q_G C l F d n0 n1 Po n μ ρ lv (.int y :: .int x :: st) pc := by
  subst hp
  intro p e s m args below meth c H locs ls hX hH hS hl hn
  exact lv_idiv hX.1 hX.2.1 hd hne (k p e s m args below meth c H locs ls hX hH hS hl hn)
theorem g_irem (pc' : Nat) {x y : Int32} (hd : decode F.2.1 pc = .ok (.irem, 1)) (hp : pc + 1 = pc') (hne : ¬ y = 0) (k : q_G C l F d n0 n1 Po n μ ρ lv (.int (x - x / y * y) :: st) pc') : q_G C l F d n0 n1 Po n μ ρ lv (.int y :: .int x :: st) pc := by
  subst hp
  intro p e s m args below meth c H locs ls hX hH hS hl hn
  exact lv_irem hX.1 hX.2.1 hd hne (k p e s m args below meth c H locs ls hX hH hS hl hn)
theorem g_iushr (pc' : Nat) {x y : Int32} (hd : decode F.2.1 pc = .ok (.iushr, 1)) (hp : pc + 1 = pc') (k : q_G C l F d n0 n1 Po n μ ρ lv (.int ((x.toUInt32 >>> (y.toUInt32 &&& Int32.toUInt32 31)).toInt32) :: st) pc') : q_G C l F d n0 n1 Po n μ ρ lv (.int y :: .int x :: st) pc := by
  subst hp
  intro p e s m args below meth c H locs ls hX hH hS hl hn
  exact lv_iushr hX.1 hX.2.1 hd rfl (k p e s m args below meth c H locs ls hX hH hS hl hn)
theorem g_ladd (pc' : Nat) {x y : Int64} (hd : decode F.2.1 pc = .ok (.ladd, 1)) (hp : pc + 1 = pc') (k : q_G C l F d n0 n1 Po n μ ρ lv (.long (x + y) :: st) pc') : q_G C l F d n0 n1 Po n μ ρ lv (.long y :: .long x :: st) pc := by
  subst hp
  intro p e s m args below meth c H locs ls hX hH hS hl hn
  exact lv_ladd hX.1 hX.2.1 hd (k p e s m args below meth c H locs ls hX hH hS hl hn)
theorem g_lsub (pc' : Nat) {x y : Int64} (hd : decode F.2.1 pc = .ok (.lsub, 1)) (hp : pc + 1 = pc') (k : q_G C l F d n0 n1 Po n μ ρ lv (.long (x - y) :: st) pc') : q_G C l F d n0 n1 Po n μ ρ lv (.long y :: .long x :: st) pc := by
  subst hp
  intro p e s m args below meth c H locs ls hX hH hS hl hn
  exact lv_lsub hX.1 hX.2.1 hd (k p e s m args below meth c H locs ls hX hH hS hl hn)
theorem g_lmul (pc' : Nat) {x y : Int64} (hd : decode F.2.1 pc = .ok (.lmul, 1)) (hp : pc + 1 = pc') (k : q_G C l F d n0 n1 Po n μ ρ lv (.long (x * y) :: st) pc') : q_G C l F d n0 n1 Po n μ ρ lv (.long y :: .long x :: st) pc := by
  subst hp
  intro p e s m args below meth c H locs ls hX hH hS hl hn
  exact lv_lmul hX.1 hX.2.1 hd (k p e s m args below meth c H locs ls hX hH hS hl hn)
theorem g_lor (pc' : Nat) {x y : Int64} (hd : decode F.2.1 pc = .ok (.lor, 1)) (hp : pc + 1 = pc') (k : q_G C l F d n0 n1 Po n μ ρ lv (.long (x ||| y) :: st) pc') : q_G C l F d n0 n1 Po n μ ρ lv (.long y :: .long x :: st) pc := by
  subst hp
  intro p e s m args below meth c H locs ls hX hH hS hl hn
  exact lv_lor hX.1 hX.2.1 hd (k p e s m args below meth c H locs ls hX hH hS hl hn)
theorem g_ldiv (pc' : Nat) {x y : Int64} (hd : decode F.2.1 pc = .ok (.ldiv, 1)) (hp : pc + 1 = pc') (hne : ¬ y = 0) (k : q_G C l F d n0 n1 Po n μ ρ lv (.long (x / y) :: st) pc') : q_G C l F d n0 n1 Po n μ ρ lv (.long y :: .long x :: st) pc := by
  subst hp
  intro p e s m args below meth c H locs ls hX hH hS hl hn
  exact lv_ldiv hX.1 hX.2.1 hd hne (k p e s m args below meth c H locs ls hX hH hS hl hn)
theorem g_lshl (pc' : Nat) {x : Int64} {y : Int32} (hd : decode F.2.1 pc = .ok (.lshl, 1)) (hp : pc + 1 = pc') (k : q_G C l F d n0 n1 Po n μ ρ lv (.long (x <<< (y.toInt64 &&& 63)) :: st) pc') : q_G C l F d n0 n1 Po n μ ρ lv (.int y :: .long x :: st) pc := by
  subst hp
  intro p e s m args below meth c H locs ls hX hH hS hl hn
  exact lv_lshl hX.1 hX.2.1 hd rfl (k p e s m args below meth c H locs ls hX hH hS hl hn)
theorem g_i2l (pc' : Nat) {x : Int32} (hd : decode F.2.1 pc = .ok (.i2l, 1)) (hp : pc + 1 = pc') (k : q_G C l F d n0 n1 Po n μ ρ lv (.long x.toInt64 :: st) pc') : q_G C l F d n0 n1 Po n μ ρ lv (.int x :: st) pc := by
  subst hp
  intro p e s m args below meth c H locs ls hX hH hS hl hn
  exact lv_i2l hX.1 hX.2.1 hd rfl (k p e s m args below meth c H locs ls hX hH hS hl hn)
theorem g_l2i (pc' : Nat) {x : Int64} (hd : decode F.2.1 pc = .ok (.l2i, 1)) (hp : pc + 1 = pc') (k : q_G C l F d n0 n1 Po n μ ρ lv (.int x.toInt32 :: st) pc') : q_G C l F d n0 n1 Po n μ ρ lv (.long x :: st) pc := by
  subst hp
  intro p e s m args below meth c H locs ls hX hH hS hl hn
  exact lv_l2i hX.1 hX.2.1 hd rfl (k p e s m args below meth c H locs ls hX hH hS hl hn)
theorem g_i2b (pc' : Nat) {x : Int32} (hd : decode F.2.1 pc = .ok (.i2b, 1)) (hp : pc + 1 = pc') (k : q_G C l F d n0 n1 Po n μ ρ lv (.int x.toInt8.toInt32 :: st) pc') : q_G C l F d n0 n1 Po n μ ρ lv (.int x :: st) pc := by
  subst hp
  intro p e s m args below meth c H locs ls hX hH hS hl hn
  exact lv_i2b hX.1 hX.2.1 hd rfl (k p e s m args below meth c H locs ls hX hH hS hl hn)
theorem g_i2c (pc' : Nat) {x : Int32} (hd : decode F.2.1 pc = .ok (.i2c, 1)) (hp : pc + 1 = pc') (k : q_G C l F d n0 n1 Po n μ ρ lv (.int ((x.toUInt32 % 65536).toInt32) :: st) pc') : q_G C l F d n0 n1 Po n μ ρ lv (.int x :: st) pc := by
  subst hp
  intro p e s m args below meth c H locs ls hX hH hS hl hn
  exact lv_i2c hX.1 hX.2.1 hd rfl (k p e s m args below meth c H locs ls hX hH hS hl hn)
theorem g_lcmp (pc' : Nat) {x y : Int64} (hd : decode F.2.1 pc = .ok (.lcmp, 1)) (hp : pc + 1 = pc') (k : q_G C l F d n0 n1 Po n μ ρ lv (.int (lg_cmp x y) :: st) pc') : q_G C l F d n0 n1 Po n μ ρ lv (.long y :: .long x :: st) pc := by
  subst hp
  intro p e s m args below meth c H locs ls hX hH hS hl hn
  exact W.lcmp hX.1 hX.2.1 hd (k p e s m args below meth c H locs ls hX hH hS hl hn)
theorem g_iconst (pc' : Nat) (v : Int32) {i : Int} (hd : decode F.2.1 pc = .ok (.iconst i, 1)) (hp : pc + 1 = pc') (hv : Int32.ofInt i = v) (k : q_G C l F d n0 n1 Po n μ ρ lv (.int v :: st) pc') : q_G C l F d n0 n1 Po n μ ρ lv st pc := by
  subst hp
  intro p e s m args below meth c H locs ls hX hH hS hl hn
  exact lv_iconst hX.1 hX.2.1 hd hv (k p e s m args below meth c H locs ls hX hH hS hl hn)
theorem g_bipush (pc' : Nat) (v : Int32) {i : Int} (hd : decode F.2.1 pc = .ok (.bipush i, 2)) (hp : pc + 2 = pc') (hv : (Int8.ofInt i).toInt32 = v) (k : q_G C l F d n0 n1 Po n μ ρ lv (.int v :: st) pc') : q_G C l F d n0 n1 Po n μ ρ lv st pc := by
  subst hp
  intro p e s m args below meth c H locs ls hX hH hS hl hn
  exact lv_bipush hX.1 hX.2.1 hd hv (k p e s m args below meth c H locs ls hX hH hS hl hn)
theorem g_sipush (pc' : Nat) (v : Int32) {i : Int} (hd : decode F.2.1 pc = .ok (.sipush i, 3)) (hp : pc + 3 = pc') (hv : (Int16.ofInt i).toInt32 = v) (k : q_G C l F d n0 n1 Po n μ ρ lv (.int v :: st) pc') : q_G C l F d n0 n1 Po n μ ρ lv st pc := by
  subst hp
  intro p e s m args below meth c H locs ls hX hH hS hl hn
  exact lv_sipush hX.1 hX.2.1 hd hv (k p e s m args below meth c H locs ls hX hH hS hl hn)
theorem g_lconst (pc' : Nat) (v : Int64) {i : Fin 2} (hd : decode F.2.1 pc = .ok (.lconst i, 1)) (hp : pc + 1 = pc') (hv : Int64.ofNat (i : Nat) = v) (k : q_G C l F d n0 n1 Po n μ ρ lv (.long v :: st) pc') : q_G C l F d n0 n1 Po n μ ρ lv st pc := by
  subst hp
  intro p e s m args below meth c H locs ls hX hH hS hl hn
  exact lv_lconst hX.1 hX.2.1 hd hv (k p e s m args below meth c H locs ls hX hH hS hl hn)
theorem g_dup (pc' : Nat) {va : Value} (hd : decode F.2.1 pc = .ok (.dup, 1)) (hp : pc + 1 = pc') (hva : va.category = 1) (k : q_G C l F d n0 n1 Po n μ ρ lv (va :: va :: st) pc') : q_G C l F d n0 n1 Po n μ ρ lv (va :: st) pc := by
  subst hp
  intro p e s m args below meth c H locs ls hX hH hS hl hn
  exact lv_dup hX.1 hX.2.1 hd hva (k p e s m args below meth c H locs ls hX hH hS hl hn)
theorem g_pop (pc' : Nat) {va : Value} (hd : decode F.2.1 pc = .ok (.pop, 1)) (hp : pc + 1 = pc') (hva : va.category = 1) (k : q_G C l F d n0 n1 Po n μ ρ lv st pc') : q_G C l F d n0 n1 Po n μ ρ lv (va :: st) pc := by
  subst hp
  intro p e s m args below meth c H locs ls hX hH hS hl hn
  exact lv_pop hX.1 hX.2.1 hd hva (k p e s m args below meth c H locs ls hX hH hS hl hn)
theorem g_dup2 (pc' : Nat) {va vb : Value} (hd : decode F.2.1 pc = .ok (.dup2, 1)) (hp : pc + 1 = pc') (hva : va.category = 1) (hvb : vb.category = 1) (k : q_G C l F d n0 n1 Po n μ ρ lv (va :: vb :: va :: vb :: st) pc') : q_G C l F d n0 n1 Po n μ ρ lv (va :: vb :: st) pc := by
  subst hp
  intro p e s m args below meth c H locs ls hX hH hS hl hn
  exact lv_dup2_11 hX.1 hX.2.1 hd hva hvb (k p e s m args below meth c H locs ls hX hH hS hl hn)
theorem g_ldc2 (pc' : Nat) (v : Int64) {i : Nat} (hd : decode F.2.1 pc = .ok (.ldc2_w i, 3)) (hp : pc + 3 = pc') (hc : Cond.constantLong F.1.cls i v ∈ q_T) (k : q_G C l F d n0 n1 Po n μ ρ lv (.long v :: st) pc') : q_G C l F d n0 n1 Po n μ ρ lv st pc := by
  subst hp
  intro p e s m args below meth c H locs ls hX hH hS hl hn
  exact lv_ldc2 hX.1 hX.2.1 hX.2.2.2.2.1 (hX.2.2.2.2.2.1 _ hc) hd (k p e s m args below meth c H locs ls hX hH hS hl hn)
theorem g_ldcw (pc' : Nat) (v : Int32) {i : Nat} (hd : decode F.2.1 pc = .ok (.ldc_w i, 3)) (hp : pc + 3 = pc') (hc : Cond.constant F.1.cls i v ∈ q_T) (k : q_G C l F d n0 n1 Po n μ ρ lv (.int v :: st) pc') : q_G C l F d n0 n1 Po n μ ρ lv st pc := by
  subst hp
  intro p e s m args below meth c H locs ls hX hH hS hl hn
  exact lv_ldcw hX.1 hX.2.1 hX.2.2.2.2.1 (hX.2.2.2.2.2.1 _ hc) hd (k p e s m args below meth c H locs ls hX hH hS hl hn)
theorem g_iload_n (pc' : Nat) {i : Fin 4} {x : Int32} (hd : decode F.2.1 pc = .ok (.iload_n i, 1)) (hp : pc + 1 = pc') (hk : q_get (i : Nat) lv = some (.int x)) (k : q_G C l F d n0 n1 Po n μ ρ lv (.int x :: st) pc') : q_G C l F d n0 n1 Po n μ ρ lv st pc := by
  subst hp
  intro p e s m args below meth c H locs ls hX hH hS hl hn
  exact lv_iload_n hX.1 hX.2.1 hd rfl (q_hat hl hk) (k p e s m args below meth c H locs ls hX hH hS hl hn)
theorem g_iload (pc' : Nat) {i : Nat} {x : Int32} (hd : decode F.2.1 pc = .ok (.iload i, 2)) (hp : pc + 2 = pc') (hk : q_get i lv = some (.int x)) (k : q_G C l F d n0 n1 Po n μ ρ lv (.int x :: st) pc') : q_G C l F d n0 n1 Po n μ ρ lv st pc := by
  subst hp
  intro p e s m args below meth c H locs ls hX hH hS hl hn
  exact lv_iload hX.1 hX.2.1 hd (q_hat hl hk) (k p e s m args below meth c H locs ls hX hH hS hl hn)
theorem g_istore_n (pc' : Nat) {i : Fin 4} {x : Int32} (hd : decode F.2.1 pc = .ok (.istore_n i, 1)) (hp : pc + 1 = pc') (hi : (i : Nat) < F.2.2.1) (k : q_G C l F d n0 n1 Po n μ ρ (((i : Nat), .int x) :: lv) st pc') : q_G C l F d n0 n1 Po n μ ρ lv (.int x :: st) pc := by
  subst hp
  intro p e s m args below meth c H locs ls hX hH hS hl hn
  exact lv_istore_n hX.1 hX.2.1 hd rfl hl hi (q_dd1 rfl) (fun ls hl => k p e s m args below meth c H locs ls hX hH hS hl hn)
theorem g_istore (pc' : Nat) {i : Nat} {x : Int32} (hd : decode F.2.1 pc = .ok (.istore i, 2)) (hp : pc + 2 = pc') (hi : i < F.2.2.1) (k : q_G C l F d n0 n1 Po n μ ρ ((i, .int x) :: lv) st pc') : q_G C l F d n0 n1 Po n μ ρ lv (.int x :: st) pc := by
  subst hp
  intro p e s m args below meth c H locs ls hX hH hS hl hn
  exact lv_istore hX.1 hX.2.1 hd hl hi (q_dd1 rfl) (fun ls hl => k p e s m args below meth c H locs ls hX hH hS hl hn)
theorem g_lload_n (pc' : Nat) {i : Fin 4} {x : Int64} (hd : decode F.2.1 pc = .ok (.lload_n i, 1)) (hp : pc + 1 = pc') (hk : q_get (i : Nat) lv = some (.long x)) (k : q_G C l F d n0 n1 Po n μ ρ lv (.long x :: st) pc') : q_G C l F d n0 n1 Po n μ ρ lv st pc := by
  subst hp
  intro p e s m args below meth c H locs ls hX hH hS hl hn
  exact lv_lload_n hX.1 hX.2.1 hd rfl (q_hat hl hk) (k p e s m args below meth c H locs ls hX hH hS hl hn)
theorem g_lload (pc' : Nat) {i : Nat} {x : Int64} (hd : decode F.2.1 pc = .ok (.lload i, 2)) (hp : pc + 2 = pc') (hk : q_get i lv = some (.long x)) (k : q_G C l F d n0 n1 Po n μ ρ lv (.long x :: st) pc') : q_G C l F d n0 n1 Po n μ ρ lv st pc := by
  subst hp
  intro p e s m args below meth c H locs ls hX hH hS hl hn
  exact lv_lload hX.1 hX.2.1 hd (q_hat hl hk) (k p e s m args below meth c H locs ls hX hH hS hl hn)
theorem g_lstore_n (pc' : Nat) {i : Fin 4} {x : Int64} (hd : decode F.2.1 pc = .ok (.lstore_n i, 1)) (hp : pc + 1 = pc') (hi : (i : Nat) + 1 < F.2.2.1) (k : q_G C l F d n0 n1 Po n μ ρ (((i : Nat), .long x) :: lv) st pc') : q_G C l F d n0 n1 Po n μ ρ lv (.long x :: st) pc := by
  subst hp
  intro p e s m args below meth c H locs ls hX hH hS hl hn
  exact lv_lstore_n hX.1 hX.2.1 hd rfl hl hi (q_dd2 rfl) (fun ls hl => k p e s m args below meth c H locs ls hX hH hS hl hn)
theorem g_lstore (pc' : Nat) {i : Nat} {x : Int64} (hd : decode F.2.1 pc = .ok (.lstore i, 2)) (hp : pc + 2 = pc') (hi : i + 1 < F.2.2.1) (k : q_G C l F d n0 n1 Po n μ ρ ((i, .long x) :: lv) st pc') : q_G C l F d n0 n1 Po n μ ρ lv (.long x :: st) pc := by
  subst hp
  intro p e s m args below meth c H locs ls hX hH hS hl hn
  exact lv_lstore hX.1 hX.2.1 hd hl hi (q_dd2 rfl) (fun ls hl => k p e s m args below meth c H locs ls hX hH hS hl hn)
theorem g_aload_n (pc' : Nat) {i : Fin 4} {x : Nat} (hd : decode F.2.1 pc = .ok (.aload_n i, 1)) (hp : pc + 1 = pc') (hk : q_get (i : Nat) lv = some (.ref x)) (k : q_G C l F d n0 n1 Po n μ ρ lv (.ref x :: st) pc') : q_G C l F d n0 n1 Po n μ ρ lv st pc := by
  subst hp
  intro p e s m args below meth c H locs ls hX hH hS hl hn
  exact lv_aload_n hX.1 hX.2.1 hd rfl (q_hat hl hk) (k p e s m args below meth c H locs ls hX hH hS hl hn)
theorem g_aload (pc' : Nat) {i : Nat} {x : Nat} (hd : decode F.2.1 pc = .ok (.aload i, 2)) (hp : pc + 2 = pc') (hk : q_get i lv = some (.ref x)) (k : q_G C l F d n0 n1 Po n μ ρ lv (.ref x :: st) pc') : q_G C l F d n0 n1 Po n μ ρ lv st pc := by
  subst hp
  intro p e s m args below meth c H locs ls hX hH hS hl hn
  exact lv_aload hX.1 hX.2.1 hd (q_hat hl hk) (k p e s m args below meth c H locs ls hX hH hS hl hn)
theorem g_astore_n (pc' : Nat) {i : Fin 4} {x : Nat} (hd : decode F.2.1 pc = .ok (.astore_n i, 1)) (hp : pc + 1 = pc') (hi : (i : Nat) < F.2.2.1) (k : q_G C l F d n0 n1 Po n μ ρ (((i : Nat), .ref x) :: lv) st pc') : q_G C l F d n0 n1 Po n μ ρ lv (.ref x :: st) pc := by
  subst hp
  intro p e s m args below meth c H locs ls hX hH hS hl hn
  exact lv_astore_n hX.1 hX.2.1 hd rfl hl hi (q_dd1 rfl) (fun ls hl => k p e s m args below meth c H locs ls hX hH hS hl hn)
theorem g_astore (pc' : Nat) {i : Nat} {x : Nat} (hd : decode F.2.1 pc = .ok (.astore i, 2)) (hp : pc + 2 = pc') (hi : i < F.2.2.1) (k : q_G C l F d n0 n1 Po n μ ρ ((i, .ref x) :: lv) st pc') : q_G C l F d n0 n1 Po n μ ρ lv (.ref x :: st) pc := by
  subst hp
  intro p e s m args below meth c H locs ls hX hH hS hl hn
  exact lv_astore hX.1 hX.2.1 hd hl hi (q_dd1 rfl) (fun ls hl => k p e s m args below meth c H locs ls hX hH hS hl hn)
theorem g_iinc (pc' : Nat) (v : Int32) {i : Nat} {z : Int} {x : Int32} (hd : decode F.2.1 pc = .ok (.iinc i z, 3)) (hp : pc + 3 = pc') (hk : q_get i lv = some (.int x)) (hv : x + Int32.ofInt z = v) (hi : i < F.2.2.1) (k : q_G C l F d n0 n1 Po n μ ρ ((i, .int v) :: lv) st pc') : q_G C l F d n0 n1 Po n μ ρ lv st pc := by
  subst hp
  intro p e s m args below meth c H locs ls hX hH hS hl hn
  obtain ⟨kk, hkk⟩ := List.getElem?_of_mem (q_get_mem hk)
  exact lv_iinc hX.1 hX.2.1 hd hl hkk hv hi (q_dd1 rfl) (fun ls hl => k p e s m args below meth c H locs ls hX hH hS hl hn)
theorem g_icmp_eq (pt pc' : Nat) {off : Int} {x y : Int32} (hd : decode F.2.1 pc = .ok (.if_icmp .eq off, 3)) (hp : pc + 3 = pc') (ht : (pc : Int) + off = (pt : Int)) (kt : x = y → q_G C l F d n0 n1 Po n μ ρ lv st pt) (kf : ¬ x = y → q_G C l F d n0 n1 Po n μ ρ lv st pc') : q_G C l F d n0 n1 Po n μ ρ lv (.int y :: .int x :: st) pc := by
  subst hp
  intro p e s m args below meth c H locs ls hX hH hS hl hn
  exact lv_icmp_eq hX.1 hX.2.1 hd ht (fun c9 => kt c9 p e s m args below meth c H locs ls hX hH hS hl hn) (fun c9 => kf c9 p e s m args below meth c H locs ls hX hH hS hl hn)
theorem g_if_eq (pt pc' : Nat) {off : Int} {x : Int32} (hd : decode F.2.1 pc = .ok (.ifCond .eq off, 3)) (hp : pc + 3 = pc') (ht : (pc : Int) + off = (pt : Int)) (kt : x = 0 → q_G C l F d n0 n1 Po n μ ρ lv st pt) (kf : ¬ x = 0 → q_G C l F d n0 n1 Po n μ ρ lv st pc') : q_G C l F d n0 n1 Po n μ ρ lv (.int x :: st) pc := by
  subst hp
  intro p e s m args below meth c H locs ls hX hH hS hl hn
  exact lv_if_eq hX.1 hX.2.1 hd ht (fun c9 => kt c9 p e s m args below meth c H locs ls hX hH hS hl hn) (fun c9 => kf c9 p e s m args below meth c H locs ls hX hH hS hl hn)
theorem g_icmp_ne (pt pc' : Nat) {off : Int} {x y : Int32} (hd : decode F.2.1 pc = .ok (.if_icmp .ne off, 3)) (hp : pc + 3 = pc') (ht : (pc : Int) + off = (pt : Int)) (kt : ¬ x = y → q_G C l F d n0 n1 Po n μ ρ lv st pt) (kf : x = y → q_G C l F d n0 n1 Po n μ ρ lv st pc') : q_G C l F d n0 n1 Po n μ ρ lv (.int y :: .int x :: st) pc := by
  subst hp
  intro p e s m args below meth c H locs ls hX hH hS hl hn
  exact lv_icmp_ne hX.1 hX.2.1 hd ht (fun c9 => kt c9 p e s m args below meth c H locs ls hX hH hS hl hn) (fun c9 => kf c9 p e s m args below meth c H locs ls hX hH hS hl hn)
theorem g_if_ne (pt pc' : Nat) {off : Int} {x : Int32} (hd : decode F.2.1 pc = .ok (.ifCond .ne off, 3)) (hp : pc + 3 = pc') (ht : (pc : Int) + off = (pt : Int)) (kt : ¬ x = 0 → q_G C l F d n0 n1 Po n μ ρ lv st pt) (kf : x = 0 → q_G C l F d n0 n1 Po n μ ρ lv st pc') : q_G C l F d n0 n1 Po n μ ρ lv (.int x :: st) pc := by
  subst hp
  intro p e s m args below meth c H locs ls hX hH hS hl hn
  exact lv_if_ne hX.1 hX.2.1 hd ht (fun c9 => kt c9 p e s m args below meth c H locs ls hX hH hS hl hn) (fun c9 => kf c9 p e s m args below meth c H locs ls hX hH hS hl hn)
theorem g_icmp_lt (pt pc' : Nat) {off : Int} {x y : Int32} (hd : decode F.2.1 pc = .ok (.if_icmp .lt off, 3)) (hp : pc + 3 = pc') (ht : (pc : Int) + off = (pt : Int)) (kt : x < y → q_G C l F d n0 n1 Po n μ ρ lv st pt) (kf : ¬ x < y → q_G C l F d n0 n1 Po n μ ρ lv st pc') : q_G C l F d n0 n1 Po n μ ρ lv (.int y :: .int x :: st) pc := by
  subst hp
  intro p e s m args below meth c H locs ls hX hH hS hl hn
  exact lv_icmp_lt hX.1 hX.2.1 hd ht (fun c9 => kt c9 p e s m args below meth c H locs ls hX hH hS hl hn) (fun c9 => kf c9 p e s m args below meth c H locs ls hX hH hS hl hn)
theorem g_if_lt (pt pc' : Nat) {off : Int} {x : Int32} (hd : decode F.2.1 pc = .ok (.ifCond .lt off, 3)) (hp : pc + 3 = pc') (ht : (pc : Int) + off = (pt : Int)) (kt : x < 0 → q_G C l F d n0 n1 Po n μ ρ lv st pt) (kf : ¬ x < 0 → q_G C l F d n0 n1 Po n μ ρ lv st pc') : q_G C l F d n0 n1 Po n μ ρ lv (.int x :: st) pc := by
  subst hp
  intro p e s m args below meth c H locs ls hX hH hS hl hn
  exact lv_if_lt hX.1 hX.2.1 hd ht (fun c9 => kt c9 p e s m args below meth c H locs ls hX hH hS hl hn) (fun c9 => kf c9 p e s m args below meth c H locs ls hX hH hS hl hn)
theorem g_icmp_ge (pt pc' : Nat) {off : Int} {x y : Int32} (hd : decode F.2.1 pc = .ok (.if_icmp .ge off, 3)) (hp : pc + 3 = pc') (ht : (pc : Int) + off = (pt : Int)) (kt : y ≤ x → q_G C l F d n0 n1 Po n μ ρ lv st pt) (kf : ¬ y ≤ x → q_G C l F d n0 n1 Po n μ ρ lv st pc') : q_G C l F d n0 n1 Po n μ ρ lv (.int y :: .int x :: st) pc := by
  subst hp
  intro p e s m args below meth c H locs ls hX hH hS hl hn
  exact lv_icmp_ge hX.1 hX.2.1 hd ht (fun c9 => kt c9 p e s m args below meth c H locs ls hX hH hS hl hn) (fun c9 => kf c9 p e s m args below meth c H locs ls hX hH hS hl hn)
theorem g_if_ge (pt pc' : Nat) {off : Int} {x : Int32} (hd : decode F.2.1 pc = .ok (.ifCond .ge off, 3)) (hp : pc + 3 = pc') (ht : (pc : Int) + off = (pt : Int)) (kt : 0 ≤ x → q_G C l F d n0 n1 Po n μ ρ lv st pt) (kf : ¬ 0 ≤ x → q_G C l F d n0 n1 Po n μ ρ lv st pc') : q_G C l F d n0 n1 Po n μ ρ lv (.int x :: st) pc := by
  subst hp
  intro p e s m args below meth c H locs ls hX hH hS hl hn
  exact lv_if_ge hX.1 hX.2.1 hd ht (fun c9 => kt c9 p e s m args below meth c H locs ls hX hH hS hl hn) (fun c9 => kf c9 p e s m args below meth c H locs ls hX hH hS hl hn)
theorem g_icmp_gt (pt pc' : Nat) {off : Int} {x y : Int32} (hd : decode F.2.1 pc = .ok (.if_icmp .gt off, 3)) (hp : pc + 3 = pc') (ht : (pc : Int) + off = (pt : Int)) (kt : y < x → q_G C l F d n0 n1 Po n μ ρ lv st pt) (kf : ¬ y < x → q_G C l F d n0 n1 Po n μ ρ lv st pc') : q_G C l F d n0 n1 Po n μ ρ lv (.int y :: .int x :: st) pc := by
  subst hp
  intro p e s m args below meth c H locs ls hX hH hS hl hn
  exact lv_icmp_gt hX.1 hX.2.1 hd ht (fun c9 => kt c9 p e s m args below meth c H locs ls hX hH hS hl hn) (fun c9 => kf c9 p e s m args below meth c H locs ls hX hH hS hl hn)
theorem g_if_gt (pt pc' : Nat) {off : Int} {x : Int32} (hd : decode F.2.1 pc = .ok (.ifCond .gt off, 3)) (hp : pc + 3 = pc') (ht : (pc : Int) + off = (pt : Int)) (kt : 0 < x → q_G C l F d n0 n1 Po n μ ρ lv st pt) (kf : ¬ 0 < x → q_G C l F d n0 n1 Po n μ ρ lv st pc') : q_G C l F d n0 n1 Po n μ ρ lv (.int x :: st) pc := by
  subst hp
  intro p e s m args below meth c H locs ls hX hH hS hl hn
  exact lv_if_gt hX.1 hX.2.1 hd ht (fun c9 => kt c9 p e s m args below meth c H locs ls hX hH hS hl hn) (fun c9 => kf c9 p e s m args below meth c H locs ls hX hH hS hl hn)
theorem g_icmp_le (pt pc' : Nat) {off : Int} {x y : Int32} (hd : decode F.2.1 pc = .ok (.if_icmp .le off, 3)) (hp : pc + 3 = pc') (ht : (pc : Int) + off = (pt : Int)) (kt : x ≤ y → q_G C l F d n0 n1 Po n μ ρ lv st pt) (kf : ¬ x ≤ y → q_G C l F d n0 n1 Po n μ ρ lv st pc') : q_G C l F d n0 n1 Po n μ ρ lv (.int y :: .int x :: st) pc := by
  subst hp
  intro p e s m args below meth c H locs ls hX hH hS hl hn
  exact lv_icmp_le hX.1 hX.2.1 hd ht (fun c9 => kt c9 p e s m args below meth c H locs ls hX hH hS hl hn) (fun c9 => kf c9 p e s m args below meth c H locs ls hX hH hS hl hn)
theorem g_if_le (pt pc' : Nat) {off : Int} {x : Int32} (hd : decode F.2.1 pc = .ok (.ifCond .le off, 3)) (hp : pc + 3 = pc') (ht : (pc : Int) + off = (pt : Int)) (kt : x ≤ 0 → q_G C l F d n0 n1 Po n μ ρ lv st pt) (kf : ¬ x ≤ 0 → q_G C l F d n0 n1 Po n μ ρ lv st pc') : q_G C l F d n0 n1 Po n μ ρ lv (.int x :: st) pc := by
  subst hp
  intro p e s m args below meth c H locs ls hX hH hS hl hn
  exact lv_if_le hX.1 hX.2.1 hd ht (fun c9 => kt c9 p e s m args below meth c H locs ls hX hH hS hl hn) (fun c9 => kf c9 p e s m args below meth c H locs ls hX hH hS hl hn)
theorem g_goto (pt : Nat) {off : Int} (hd : decode F.2.1 pc = .ok (.goto off, 3)) (ht : (pc : Int) + off = (pt : Int)) (k : q_G C l F d n0 n1 Po n μ ρ lv st pt) : q_G C l F d n0 n1 Po n μ ρ lv st pc := by
  intro p e s m args below meth c H locs ls hX hH hS hl hn
  exact lv_goto hX.1 hX.2.1 hd ht (k p e s m args below meth c H locs ls hX hH hS hl hn)
theorem g_tabIn (pt : Nat) {dflt lo hi : Int} {offs : Array Int} {len : Nat} {x : Int32} {off : Int} (hd : decode F.2.1 pc = .ok (.tableswitch dflt lo hi offs, len)) (h1 : ¬ x.toInt < lo) (h2 : ¬ hi < x.toInt) (ho : offs[(x.toInt - lo).toNat]? = some off) (ht : (pc : Int) + off = (pt : Int)) (k : q_G C l F d n0 n1 Po n μ ρ lv st pt) : q_G C l F d n0 n1 Po n μ ρ lv (.int x :: st) pc := by
  intro p e s m args below meth c H locs ls hX hH hS hl hn
  exact lv_tableIn hX.1 hX.2.1 hd h1 h2 ho ht (k p e s m args below meth c H locs ls hX hH hS hl hn)
theorem g_tabOut (pt : Nat) {dflt lo hi : Int} {offs : Array Int} {len : Nat} {x : Int32} (hd : decode F.2.1 pc = .ok (.tableswitch dflt lo hi offs, len)) (h : x.toInt < lo ∨ hi < x.toInt) (ht : (pc : Int) + dflt = (pt : Int)) (k : q_G C l F d n0 n1 Po n μ ρ lv st pt) : q_G C l F d n0 n1 Po n μ ρ lv (.int x :: st) pc := by
  intro p e s m args below meth c H locs ls hX hH hS hl hn
  exact lv_tableOut hX.1 hX.2.1 hd h ht (k p e s m args below meth c H locs ls hX hH hS hl hn)
theorem g_look (pt : Nat) {dflt : Int} {ps : Array (Int × Int)} {len : Nat} {x : Int32} {off : Int} (hd : decode F.2.1 pc = .ok (.lookupswitch dflt ps, len)) (hs : (ps.toList.zip (ps.toList.drop 1)).all (fun (a, next) => a.1 < next.1) = true) (ho : Op.lookupswitch.offset ps.toList dflt x.toInt = off) (ht : (pc : Int) + off = (pt : Int)) (k : q_G C l F d n0 n1 Po n μ ρ lv st pt) : q_G C l F d n0 n1 Po n μ ρ lv (.int x :: st) pc := by
  intro p e s m args below meth c H locs ls hX hH hS hl hn
  exact lv_lookup hX.1 hX.2.1 hd hs ho ht (k p e s m args below meth c H locs ls hX hH hS hl hn)
theorem g_iret {v : Int32} (hd : decode F.2.1 pc = .ok (.ireturn, 1)) (hr : F.2.2.2 = some .int) (he : n = n1) (hPo : Po (some (.int v)) μ ρ) : q_G C l F d n0 n1 Po n μ ρ lv [.int v] pc := by
  intro p e s m args below meth c H locs ls hX hH hS hl hn
  subst he
  have hlk := hX.2.2.2.2.2.2.1
  exact W.iret hX.1 hX.2.1 (hX.2.2.1.trans hr) (fun t ht hW => ⟨⟨_, μ, ρ, rfl, hPo, by rw [ht]; exact hH⟩, hS.F ht⟩) hS.2.2 hd hlk
theorem g_zret {v : Int32} (hd : decode F.2.1 pc = .ok (.ireturn, 1)) (hr : F.2.2.2 = some .boolean) (hz : v = 0 ∨ v = 1) (he : n = n1) (hPo : Po (some (.int v)) μ ρ) : q_G C l F d n0 n1 Po n μ ρ lv [.int v] pc := by
  intro p e s m args below meth c H locs ls hX hH hS hl hn
  subst he
  have hlk := hX.2.2.2.2.2.2.1
  exact W.zret (ty := .boolean) hX.1 hX.2.1 (hX.2.2.1.trans hr) (by rcases hz with rfl | rfl <;> decide) (fun t ht hW => ⟨⟨_, μ, ρ, rfl, hPo, by rw [ht]; exact hH⟩, hS.F ht⟩) hS.2.2 hd hlk
theorem g_vret (hd : decode F.2.1 pc = .ok (.return_, 1)) (hr : F.2.2.2 = none) (he : n = n1) (hPo : Po none μ ρ) : q_G C l F d n0 n1 Po n μ ρ lv [] pc := by
  intro p e s m args below meth c H locs ls hX hH hS hl hn
  subst he
  have hlk := hX.2.2.2.2.2.2.1
  exact W.vret hX.1 hX.2.1 (hX.2.2.1.trans hr) (fun t ht hW => ⟨⟨_, μ, ρ, rfl, hPo, by rw [ht]; exact hH⟩, hS.F ht⟩) hS.2.2 hd hlk
end QG
