/-! THE CLAIM OUT OF ONE WALK OF THE LAW'S BODY. Your part is whole_start (and what it stands on); all else here is the same for every law, but numbers. -/
def R_law : String := "DesertTownLaw"
def lw_P (b : Addr) (xs : List Int32) (args : Array Value) (s : State) : Prop := args = #[.ref b] ∧ s.IntsAt b xs ∧ xs.length ≤ 3072 ∧ (Jvm.Cond.and given_1 narrow_1).before args s = true
def lw_Q (_ : Array Value) (s : State) (o : Outcome) (t : State) : Prop := o = .returned (some (.int 1)) ∧ Framed s o t [] 600000 7302250
def lw_Z (below : List Frame) (a : Array Value) (s : State) : State → Prop := fun t => ∃ o, t.status = .running ∧ Ended t below o ∧ lw_Q a s o t
/-- the law's own end, with 1 on the stack, nothing written that was there before, its room as the claim has it -/
theorem lw_ret {p : Program} {l : Launch} {e : Env} {s : State} {m : MethodId} {below : List Frame} {meth : Method} {c : Code} {b : Nat} (hx : p.tables.exec = Jvm.exec) (hb : c.code = code) (hr : meth.sig.returnType = ret) (hlocks : meth.locks = false) {pc : Nat} {H : Heap} {ls : Array Slot} (hdg : decode code pc = .ok (.ireturn, 1)) : W p l e room_1 s m #[Value.ref b] below meth c H [] 600000 7302250 (lw_Z below #[Value.ref b] s) (F0 m pc ls [.int 1]) := by
  intro T hT X
  obtain ⟨fs, hret, hrun, hended, hW, hframe⟩ := X.leave (v := some (.int 1)) (hlocks := hlocks) (fun h => by rw [hr] at h; cases h)
  have hmeth' : T.vm.method? m = some meth := X.method'
  refine ⟨T.setFrames fs, ?_, .returned (some (.int 1)), hrun, hended, rfl, ⟨_, rfl⟩, hW, hframe⟩
  jvm_step X.here [X.here.top, hx, hb, hdg, hmeth', hr, ret, narrow_b1]
  (try refine ⟨rfl, ?_⟩); (try refine ⟨rfl, ?_⟩)
  first | (intro acts; rw [hret _ acts rfl rfl rfl]) | rw [hret _ _ rfl rfl rfl]
  exact Steps.refl _
/-- what holds at the law's entry: the machine, the code, the tables' words (any of lw_tbl by 'hts w (by decide +kernel)'), the script of L ints xs at the cell b, what the Statement gives of the start (any of its parts by flat_of_before) -/
def lw_At (p : Program) (s : State) (m : MethodId) (meth : Method) (c : Code) (b L : Nat) (xs : Nat → Int32) : Prop :=
  p.tables.exec = Jvm.exec ∧ c.code = code ∧ meth.sig.returnType = ret ∧ c.maxLocals = 4 ∧ s.vm.findClass R_law = some m.cls ∧ (∀ w ∈ lw_tbl, w.before #[Value.ref b] s = true) ∧ va_X b L xs s s.heap ∧ b < s.heap.size ∧ meth.locks = false ∧ (Jvm.Cond.and given_1 narrow_1).before #[Value.ref b] s = true
/-! ===== the law: its frame, its rules ===== -/
def q_LX (C : q_C) (p : Program) (s : State) (m : MethodId) (meth : Method) (c9 : Code) (b L : Nat) (xs : Nat → Int32) : Prop := lw_At p s m meth c9 b L xs ∧ q_U C s ∧ C.1 = s.heap.size
def q_L (C : q_C) (p : Program) (l : Launch) (e : Env) (s : State) (m : MethodId) (below : List Frame) (meth : Method) (c9 : Code) (b : Nat) (n : Nat) (μ : q_M) (ρ : q_R) (lv : List (Nat × Value)) (st : List Value) (pc : Nat) : Prop :=
  ∀ (H : Heap) (locs : List Loc) (ls : Array Slot), q_H C n μ ρ H → va_S (q_A C) s.heap H locs → lv_has ls 4 (q_dd lv) → W p l e room_1 s m #[Value.ref b] below meth c9 H locs n (q_sl n) (lw_Z below #[Value.ref b] s) (F0 m pc ls st)
section LR
variable {C : q_C} {p : Program} {l : Launch} {e : Env} {s : State} {m : MethodId} {below : List Frame} {meth : Method} {c9 : Code} {b L : Nat} {xs : Nat → Int32} {n : Nat} {μ : q_M} {ρ : q_R} {lv : List (Nat × Value)} {st : List Value} {pc : Nat}
theorem l_iadd (h0 : q_LX C p s m meth c9 b L xs) (pc' : Nat) {x y : Int32} (hd : decode code pc = .ok (.iadd, 1)) (hp : pc + 1 = pc') (k : q_L C p l e s m below meth c9 b n μ ρ lv (.int (x + y) :: st) pc') : q_L C p l e s m below meth c9 b n μ ρ lv (.int y :: .int x :: st) pc := by
  subst hp
  intro H locs ls hH hS hl
  exact lv_iadd h0.1.1 h0.1.2.1 hd (k H locs ls hH hS hl)
theorem l_isub (h0 : q_LX C p s m meth c9 b L xs) (pc' : Nat) {x y : Int32} (hd : decode code pc = .ok (.isub, 1)) (hp : pc + 1 = pc') (k : q_L C p l e s m below meth c9 b n μ ρ lv (.int (x - y) :: st) pc') : q_L C p l e s m below meth c9 b n μ ρ lv (.int y :: .int x :: st) pc := by
  subst hp
  intro H locs ls hH hS hl
  exact lv_isub h0.1.1 h0.1.2.1 hd (k H locs ls hH hS hl)
theorem l_iand (h0 : q_LX C p s m meth c9 b L xs) (pc' : Nat) {x y : Int32} (hd : decode code pc = .ok (.iand, 1)) (hp : pc + 1 = pc') (k : q_L C p l e s m below meth c9 b n μ ρ lv (.int (x &&& y) :: st) pc') : q_L C p l e s m below meth c9 b n μ ρ lv (.int y :: .int x :: st) pc := by
  subst hp
  intro H locs ls hH hS hl
  exact lv_iand h0.1.1 h0.1.2.1 hd (k H locs ls hH hS hl)
theorem l_iconst (h0 : q_LX C p s m meth c9 b L xs) (pc' : Nat) (v : Int32) {i : Int} (hd : decode code pc = .ok (.iconst i, 1)) (hp : pc + 1 = pc') (hv : Int32.ofInt i = v) (k : q_L C p l e s m below meth c9 b n μ ρ lv (.int v :: st) pc') : q_L C p l e s m below meth c9 b n μ ρ lv st pc := by
  subst hp
  intro H locs ls hH hS hl
  exact lv_iconst h0.1.1 h0.1.2.1 hd hv (k H locs ls hH hS hl)
theorem l_bipush (h0 : q_LX C p s m meth c9 b L xs) (pc' : Nat) (v : Int32) {i : Int} (hd : decode code pc = .ok (.bipush i, 2)) (hp : pc + 2 = pc') (hv : (Int8.ofInt i).toInt32 = v) (k : q_L C p l e s m below meth c9 b n μ ρ lv (.int v :: st) pc') : q_L C p l e s m below meth c9 b n μ ρ lv st pc := by
  subst hp
  intro H locs ls hH hS hl
  exact lv_bipush h0.1.1 h0.1.2.1 hd hv (k H locs ls hH hS hl)
theorem l_dup (h0 : q_LX C p s m meth c9 b L xs) (pc' : Nat) {va : Value} (hd : decode code pc = .ok (.dup, 1)) (hp : pc + 1 = pc') (hva : va.category = 1) (k : q_L C p l e s m below meth c9 b n μ ρ lv (va :: va :: st) pc') : q_L C p l e s m below meth c9 b n μ ρ lv (va :: st) pc := by
  subst hp
  intro H locs ls hH hS hl
  exact lv_dup h0.1.1 h0.1.2.1 hd hva (k H locs ls hH hS hl)
theorem l_iload_n (h0 : q_LX C p s m meth c9 b L xs) (pc' : Nat) {i : Fin 4} {x : Int32} (hd : decode code pc = .ok (.iload_n i, 1)) (hp : pc + 1 = pc') (hk : q_get (i : Nat) lv = some (.int x)) (k : q_L C p l e s m below meth c9 b n μ ρ lv (.int x :: st) pc') : q_L C p l e s m below meth c9 b n μ ρ lv st pc := by
  subst hp
  intro H locs ls hH hS hl
  exact lv_iload_n h0.1.1 h0.1.2.1 hd rfl (q_hat hl hk) (k H locs ls hH hS hl)
theorem l_aload_n (h0 : q_LX C p s m meth c9 b L xs) (pc' : Nat) {i : Fin 4} {x : Nat} (hd : decode code pc = .ok (.aload_n i, 1)) (hp : pc + 1 = pc') (hk : q_get (i : Nat) lv = some (.ref x)) (k : q_L C p l e s m below meth c9 b n μ ρ lv (.ref x :: st) pc') : q_L C p l e s m below meth c9 b n μ ρ lv st pc := by
  subst hp
  intro H locs ls hH hS hl
  exact lv_aload_n h0.1.1 h0.1.2.1 hd rfl (q_hat hl hk) (k H locs ls hH hS hl)
theorem l_istore_n (h0 : q_LX C p s m meth c9 b L xs) (pc' : Nat) {i : Fin 4} {x : Int32} (hd : decode code pc = .ok (.istore_n i, 1)) (hp : pc + 1 = pc') (hi : (i : Nat) < 4) (k : q_L C p l e s m below meth c9 b n μ ρ (((i : Nat), .int x) :: lv) st pc') : q_L C p l e s m below meth c9 b n μ ρ lv (.int x :: st) pc := by
  subst hp
  intro H locs ls hH hS hl
  exact lv_istore_n h0.1.1 h0.1.2.1 hd rfl hl hi (q_dd1 rfl) (fun ls hl => k H locs ls hH hS hl)
theorem l_astore_n (h0 : q_LX C p s m meth c9 b L xs) (pc' : Nat) {i : Fin 4} {x : Nat} (hd : decode code pc = .ok (.astore_n i, 1)) (hp : pc + 1 = pc') (hi : (i : Nat) < 4) (k : q_L C p l e s m below meth c9 b n μ ρ (((i : Nat), .ref x) :: lv) st pc') : q_L C p l e s m below meth c9 b n μ ρ lv (.ref x :: st) pc := by
  subst hp
  intro H locs ls hH hS hl
  exact lv_astore_n h0.1.1 h0.1.2.1 hd rfl hl hi (q_dd1 rfl) (fun ls hl => k H locs ls hH hS hl)
theorem l_iinc (h0 : q_LX C p s m meth c9 b L xs) (pc' : Nat) (v : Int32) {i : Nat} {z : Int} {x : Int32} (hd : decode code pc = .ok (.iinc i z, 3)) (hp : pc + 3 = pc') (hk : q_get i lv = some (.int x)) (hv : x + Int32.ofInt z = v) (hi : i < 4) (k : q_L C p l e s m below meth c9 b n μ ρ ((i, .int v) :: lv) st pc') : q_L C p l e s m below meth c9 b n μ ρ lv st pc := by
  subst hp
  intro H locs ls hH hS hl
  obtain ⟨kk, hkk⟩ := List.getElem?_of_mem (q_get_mem hk)
  exact lv_iinc h0.1.1 h0.1.2.1 hd hl hkk hv hi (q_dd1 rfl) (fun ls hl => k H locs ls hH hS hl)
theorem l_len (h0 : q_LX C p s m meth c9 b L xs) (pc' : Nat) (hd : decode code pc = .ok (.arraylength, 1)) (hp : pc + 1 = pc') (k : q_L C p l e s m below meth c9 b n μ ρ lv (.int (nI L) :: st) pc') : q_L C p l e s m below meth c9 b n μ ρ lv (.ref b :: st) pc := by
  subst hp
  intro H locs ls hH hS hl
  exact va_slen h0.1.1 h0.1.2.1 h0.1.2.2.2.2.2.2.1 h0.1.2.2.2.2.2.2.2.1 (fun q => Nat.not_le.mpr h0.1.2.2.2.2.2.2.2.1 (by rw [← h0.2.2]; exact q)) hS hd (k H locs ls hH hS hl)
theorem l_sld (h0 : q_LX C p s m meth c9 b L xs) (pc' : Nat) {i : Int32} (hd : decode code pc = .ok (.iaload, 1)) (hp : pc + 1 = pc') (hin : vp_in i L) (k : q_L C p l e s m below meth c9 b n μ ρ lv (.int (xs i.toNatClampNeg) :: st) pc') : q_L C p l e s m below meth c9 b n μ ρ lv (.int i :: .ref b :: st) pc := by
  subst hp
  intro H locs ls hH hS hl
  exact va_sld h0.1.1 h0.1.2.1 h0.1.2.2.2.2.2.2.1 h0.1.2.2.2.2.2.2.2.1 (fun q => Nat.not_le.mpr h0.1.2.2.2.2.2.2.2.1 (by rw [← h0.2.2]; exact q)) hS hin hd (k H locs ls hH hS hl)
theorem l_goto (h0 : q_LX C p s m meth c9 b L xs) (pt : Nat) {off : Int} (hd : decode code pc = .ok (.goto off, 3)) (ht : (pc : Int) + off = (pt : Int)) (k : q_L C p l e s m below meth c9 b n μ ρ lv st pt) : q_L C p l e s m below meth c9 b n μ ρ lv st pc := by
  intro H locs ls hH hS hl
  exact lv_goto h0.1.1 h0.1.2.1 hd ht (k H locs ls hH hS hl)
theorem l_icmp_eq (h0 : q_LX C p s m meth c9 b L xs) (pt pc' : Nat) {off : Int} {x y : Int32} (hd : decode code pc = .ok (.if_icmp .eq off, 3)) (hp : pc + 3 = pc') (ht : (pc : Int) + off = (pt : Int)) (kt : x = y → q_L C p l e s m below meth c9 b n μ ρ lv st pt) (kf : ¬ x = y → q_L C p l e s m below meth c9 b n μ ρ lv st pc') : q_L C p l e s m below meth c9 b n μ ρ lv (.int y :: .int x :: st) pc := by
  subst hp
  intro H locs ls hH hS hl
  exact lv_icmp_eq h0.1.1 h0.1.2.1 hd ht (fun c => kt c H locs ls hH hS hl) (fun c => kf c H locs ls hH hS hl)
theorem l_icmp_gt (h0 : q_LX C p s m meth c9 b L xs) (pt pc' : Nat) {off : Int} {x y : Int32} (hd : decode code pc = .ok (.if_icmp .gt off, 3)) (hp : pc + 3 = pc') (ht : (pc : Int) + off = (pt : Int)) (kt : y < x → q_L C p l e s m below meth c9 b n μ ρ lv st pt) (kf : ¬ y < x → q_L C p l e s m below meth c9 b n μ ρ lv st pc') : q_L C p l e s m below meth c9 b n μ ρ lv (.int y :: .int x :: st) pc := by
  subst hp
  intro H locs ls hH hS hl
  exact lv_icmp_gt h0.1.1 h0.1.2.1 hd ht (fun c => kt c H locs ls hH hS hl) (fun c => kf c H locs ls hH hS hl)
theorem l_tabIn (h0 : q_LX C p s m meth c9 b L xs) (pt : Nat) {dflt lo hi : Int} {offs : Array Int} {len : Nat} {x : Int32} {off : Int} (hd : decode code pc = .ok (.tableswitch dflt lo hi offs, len)) (h1 : ¬ x.toInt < lo) (h2 : ¬ hi < x.toInt) (ho : offs[(x.toInt - lo).toNat]? = some off) (ht : (pc : Int) + off = (pt : Int)) (k : q_L C p l e s m below meth c9 b n μ ρ lv st pt) : q_L C p l e s m below meth c9 b n μ ρ lv (.int x :: st) pc := by
  intro H locs ls hH hS hl
  exact lv_tableIn h0.1.1 h0.1.2.1 hd h1 h2 ho ht (k H locs ls hH hS hl)
theorem l_tabOut (h0 : q_LX C p s m meth c9 b L xs) (pt : Nat) {dflt lo hi : Int} {offs : Array Int} {len : Nat} {x : Int32} (hd : decode code pc = .ok (.tableswitch dflt lo hi offs, len)) (h : x.toInt < lo ∨ hi < x.toInt) (ht : (pc : Int) + dflt = (pt : Int)) (k : q_L C p l e s m below meth c9 b n μ ρ lv st pt) : q_L C p l e s m below meth c9 b n μ ρ lv (.int x :: st) pc := by
  intro H locs ls hH hS hl
  exact lv_tableOut h0.1.1 h0.1.2.1 hd h ht (k H locs ls hH hS hl)
theorem l_lv (lv' : List (Nat × Value)) (h : lv'.map (fun q => q_get q.1 lv) = lv'.map (fun q => some q.2)) (k : q_L C p l e s m below meth c9 b n μ ρ lv' st pc) : q_L C p l e s m below meth c9 b n μ ρ lv st pc := by
  intro H locs ls hH hS hl
  refine k H locs ls hH hS ⟨hl.1, hl.2.1, fun q hq => ?_⟩
  have hq := q_dd_mem hq
  obtain ⟨j, hj⟩ := List.getElem?_of_mem hq
  have h1 : (lv'.map (fun q => q_get q.1 lv))[j]? = some (some q.2) := by rw [h, List.getElem?_map, hj]; rfl
  rw [List.getElem?_map, hj] at h1
  exact q_hat hl (Option.some.inj h1)
theorem l_sl : q_sl 142 ≤ 7302250 := by decide +kernel
theorem l_ret (h0 : q_LX C p s m meth c9 b L xs) (hn : n ≤ 142) (hd : decode code pc = .ok (.ireturn, 1)) : q_L C p l e s m below meth c9 b n μ ρ lv [.int 1] pc := by
  intro H locs ls hH hS hl
  refine va_forget (fun q hq => by have h9 := hS.2.2 q hq; unfold q_A at h9; rw [h0.2.2] at h9; exact h9) ?_
  have h8 := q_sl_mono hn
  have h7 := l_sl
  refine W.widen (k := 600000) (n := 7302250) (by omega) (by omega) ?_
  exact lw_ret h0.1.1 h0.1.2.1 h0.1.2.2.1 h0.1.2.2.2.2.2.2.2.2.1 hd
theorem l_ts (h0 : q_LX C p s m meth c9 b L xs) : ∀ w ∈ q_T, w.before #[Value.ref b] s = true := fun w hw => h0.1.2.2.2.2.2.1 w (List.mem_filter.mp hw).1
theorem l_V (h0 : q_LX C p s m meth c9 b L xs) (pc' : Nat) (c : Nat) (as rest : List Value) {idx np d' ci N : Nat} {F' : q_F} {Po' : q_P} (hd : decode code pc = .ok (.invokevirtual idx, 3)) (hp : pc + 3 = pc') (hm : q_mt F' np) (hl1 : Cond.methodLink RL idx F'.1 ∈ q_T ∧ Cond.instanceMethod F'.1 ∈ q_T ∧ Cond.selects F'.1.cls F'.1 F'.1 ∈ q_T) (hc : c < 142) (hk : q_kd c = (ci, N)) (hci : vwCl[ci]?.map (fun q => q.1) = some F'.1.cls) (hct : q_Ct C l F' d' 142 142 (.ref (q_a C c) :: as) μ ρ Po') (hst : st = as.reverse ++ .ref (q_a C c) :: rest) (hnp : as.length = np) (hcat : (rest.map fun v => v.category).sum ≤ 8) (hdd : d' ≤ 100)
    (kk : ∀ (r : Option Value) (μ' : q_M) (ρ' : q_R), Po' r μ' ρ' → q_L C p l e s m below meth c9 b 142 μ' ρ' lv (r.toList ++ rest) pc') : q_L C p l e s m below meth c9 b 142 μ ρ lv st pc := by
  subst hp
  subst hst
  intro H locs ls hH hS hl
  have hts := l_ts h0
  obtain ⟨m1, m2, m3, m4⟩ := id hm
  have hK := h0.2.1.1
  have hrecv : ∃ cellB : Cell, H[q_a C c]? = some cellB ∧ cellB.vm.isStatics = false ∧ s.vm.findClass F'.1.cls = some cellB.cls := by
    cases e1 : vwCl[ci]? with
    | none => rw [e1] at hci; cases hci
    | some q =>
      rw [e1] at hci
      have h9 : ci < 9 := (List.getElem?_eq_some_iff.mp e1).1
      have hat := hH.2 c hc
      unfold q_at at hat
      rw [hk, if_pos h9] at hat
      obtain ⟨cell, q1, q2, q3, q4⟩ := hat
      exact ⟨cell, q1, by rw [q3]; rfl, by rw [q2, ← Option.some.inj hci]; exact (hK.1 ci q e1).2.1⟩
  refine q_call (va_runV (C := F'.1.cls) ⟨h0.1.1, h0.1.2.1, h0.1.2.2.2.1, h0.1.2.2.2.2.1, hts⟩ hct ⟨callB_of np hts (q_gd hm) rfl rfl rfl (hts _ m2) (hts _ hl1.1) m3 ⟨by show d' + 1 ≤ 2048; omega, by show 8 + (F'.2.2.1 + 11) + 64 * d' ≤ 84000; omega⟩, hts _ hl1.2.1, hts _ hl1.2.2⟩ ⟨q_blind, hrecv, fun U hU hW => ⟨rfl, h0.2.1.moved hS hU hW, by rw [hU]; exact hH⟩⟩ rfl hnp hl.1 rfl (lv_room hcat) hd ⟨by show 142 + (142 - 142) ≤ 600000; decide, by show q_sl 142 + (q_sl 142 - q_sl 142) ≤ 7302250; have := l_sl; omega⟩) hS ?_
  intro r μ' ρ' H1 locs1 hpo hH1 hS1
  rw [show 142 + (142 - 142) = 142 by decide, Nat.sub_self, Nat.add_zero]
  exact kk r μ' ρ' hpo H1 locs1 ls hH1 hS1 hl
theorem l_Vi (h0 : q_LX C p s m meth c9 b L xs) (pc' : Nat) (c : Nat) (as rest : List Value) {idx np d' ci N : Nat} {F' : q_F} {P : Int32 → q_M → q_R → Prop} (hd : decode code pc = .ok (.invokevirtual idx, 3)) (hp : pc + 3 = pc') (hm : q_mt F' np) (hl1 : Cond.methodLink RL idx F'.1 ∈ q_T ∧ Cond.instanceMethod F'.1 ∈ q_T ∧ Cond.selects F'.1.cls F'.1 F'.1 ∈ q_T) (hc : c < 142) (hk : q_kd c = (ci, N)) (hci : vwCl[ci]?.map (fun q => q.1) = some F'.1.cls) (hct : q_Ct C l F' d' 142 142 (.ref (q_a C c) :: as) μ ρ (q_PI P)) (hst : st = as.reverse ++ .ref (q_a C c) :: rest) (hnp : as.length = np) (hcat : (rest.map fun v => v.category).sum ≤ 8) (hdd : d' ≤ 100)
    (kk : ∀ (v : Int32) (μ' : q_M) (ρ' : q_R), P v μ' ρ' → q_L C p l e s m below meth c9 b 142 μ' ρ' lv (.int v :: rest) pc') : q_L C p l e s m below meth c9 b 142 μ ρ lv st pc :=
  l_V h0 pc' c as rest hd hp hm hl1 hc hk hci hct hst hnp hcat hdd (fun r μ' ρ' h => by obtain ⟨v, rfl, h⟩ := h; exact kk v μ' ρ' h)
theorem l_I (h0 : q_LX C p s m meth c9 b L xs) (pc' : Nat) (as rest : List Value) {a idx np d' n' : Nat} {F' : q_F} {Po' : q_P} (hd : decode code pc = .ok (.invokespecial idx, 3)) (hp : pc + 3 = pc') (hm : q_mt F' np) (hl1 : Cond.methodLink RL idx F'.1 ∈ q_T ∧ F'.1.name = "<init>" ∧ Cond.instanceMethod F'.1 ∈ q_T ∧ F'.2.2.2 = none) (hct : q_Ct C l F' d' n n' (.ref a :: as) μ ρ Po') (hst : st = as.reverse ++ .ref a :: rest) (hnp : as.length = np) (hcat : (rest.map fun v => v.category).sum ≤ 8) (hdd : d' ≤ 100) (h1 : n ≤ n') (h2 : n' ≤ 142)
    (kk : ∀ (r : Option Value) (μ' : q_M) (ρ' : q_R), Po' r μ' ρ' → q_L C p l e s m below meth c9 b n' μ' ρ' lv (r.toList ++ rest) pc') : q_L C p l e s m below meth c9 b n μ ρ lv st pc := by
  subst hp
  subst hst
  intro H locs ls hH hS hl
  have hts := l_ts h0
  obtain ⟨m1, m2, m3, m4⟩ := id hm
  have hgd := q_gd hm
  have s1 := q_sl_mono h1
  have s2 := q_sl_mono h2
  have s3 := l_sl
  unfold q_Ct at hct
  rw [hl1.2.2.2] at hct hgd
  refine q_call (va_runI ⟨h0.1.1, h0.1.2.1, h0.1.2.2.2.1, h0.1.2.2.2.2.1, hts⟩ hct ⟨callB_of np hts hgd rfl rfl rfl (hts _ m2) (hts _ hl1.1) m3 ⟨by show d' + 1 ≤ 2048; omega, by show 8 + (F'.2.2.1 + 11) + 64 * d' ≤ 84000; omega⟩, hl1.2.1, hts _ hl1.2.2.1⟩ ⟨q_blind, fun U hU hW => ⟨rfl, h0.2.1.moved hS hU hW, by rw [hU]; exact hH⟩⟩ rfl hnp hl.1 rfl (lv_room hcat) hd ⟨by show n + (n' - n) ≤ 600000; omega, by show q_sl n + (q_sl n' - q_sl n) ≤ 7302250; omega⟩) hS ?_
  intro r μ' ρ' H1 locs1 hpo hH1 hS1
  rw [show n + (n' - n) = n' by omega, show q_sl n + (q_sl n' - q_sl n) = q_sl n' by omega]
  exact kk r μ' ρ' hpo H1 locs1 ls hH1 hS1 hl
theorem l_new (h0 : q_LX C p s m meth c9 b L xs) (pc' : Nat) {idx ci N : Nat} (hd : decode code pc = .ok (.new idx, 3)) (hp : pc + 3 = pc') (hf : q_cls RL idx ci N) (hk : q_kd n = (ci, N)) (h9 : ci < 9) (hL : n < 142) (hμ : ∀ k, μ n k = 0) (hρ : ∀ k, ρ n k = none) (kk : q_L C p l e s m below meth c9 b (n + 1) μ ρ lv (.ref (q_a C n) :: st) pc') : q_L C p l e s m below meth c9 b n μ ρ lv st pc := by
  subst hp
  intro H locs ls hH hS hl
  obtain ⟨E, T, tys, e1, e2, e3, e4, e5, e6, e7⟩ := hf
  have hts := l_ts h0
  have hK := h0.2.1.1
  have hKn := hK.1 ci _ e1
  have s1 : q_sl (n + 1) = q_sl n + N := by rw [q_sl_succ n (Nat.lt_of_lt_of_le hL (show 142 ≤ q_kl.length by decide +kernel)), hk]
  have s2 : q_sl (n + 1) ≤ q_sl 142 := q_sl_mono hL
  have s3 := l_sl
  have hz : H.size = q_a C n := hH.1
  refine W.newcK h0.1.1 h0.1.2.1 h0.1.2.2.2.2.1 (hts _ e4) (hts _ e5) (hts _ e6) rfl hd (by show n + 1 ≤ 600000; omega) (by show q_sl n + N ≤ 7302250; omega) hKn.2.1 hz fun H1 kC hkC f1 f2 f3 => ?_
  have hH1 : q_H C (n + 1) μ ρ H1 := by
    refine ⟨by rw [f2]; unfold q_a; omega, fun c hc => ?_⟩
    by_cases hcn : c < n
    · exact hH.keep (fun q hq => f3 q (by rw [← hz]; exact hq)) c hcn
    · have hce : c = n := by omega
      subst hce
      unfold q_at
      rw [hk, if_pos h9]
      refine (u_born tys hts e2 hKn hkC f1 e3).to (fun k hk2 => ?_)
      rw [e7 k hk2]
      unfold q_V
      rw [hk, hμ, hρ]
      rfl
  have k2 := kk H1 locs ls hH1 ⟨Nat.le_trans hS.1 (by rw [f2, hz]; omega), fun x g1 g2 => (f3 x (by rw [← hz]; exact Nat.lt_of_lt_of_le g1 hS.1)).trans (hS.2.1 x g1 g2), hS.2.2⟩ hl
  rw [← s1]
  exact k2
/-- the same cells, told otherwise -/
theorem q_H.alike {μ' : q_M} {ρ' : q_R} {H : Heap} (h : q_H C n μ ρ H) (e1 : ∀ c, c < n → ∀ k, k < (q_kd c).2 → q_isr (q_kd c).1 k = true → ρ c k = ρ' c k) (e2 : ∀ c, c < n → ∀ k, μ c k = μ' c k) : q_H C n μ' ρ' H := by
  refine ⟨h.1, fun c hc => ?_⟩
  have hV : ∀ k, k < (q_kd c).2 → q_V C μ ρ c k = q_V C μ' ρ' c k := fun k hk => by
    unfold q_V
    by_cases q : q_isr (q_kd c).1 k = true
    · rw [if_pos q, if_pos q, e1 c hc k hk q]
    · rw [if_neg q, if_neg q, e2 c hc k]
  have ha := h.2 c hc
  unfold q_at at ha ⊢
  by_cases q : (q_kd c).1 < 9
  · rw [if_pos q] at ha ⊢
    exact ha.to (fun k hk => (hV k hk))
  · rw [if_neg q] at ha ⊢
    rw [ha]
    exact congrArg some (arrV_congr hV)
theorem l_alike {ρ' : q_R} (e1 : ∀ c, c < n → ∀ k, k < (q_kd c).2 → q_isr (q_kd c).1 k = true → ρ c k = ρ' c k) (k : q_L C p l e s m below meth c9 b n μ ρ' lv st pc) : q_L C p l e s m below meth c9 b n μ ρ lv st pc := by
  intro H locs ls hH hS hl
  exact k H locs ls (hH.alike e1 (fun _ _ _ => rfl)) hS hl
end LR
