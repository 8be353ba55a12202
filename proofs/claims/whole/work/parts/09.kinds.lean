/-! ===== calls by what they answer; the system's own references ===== -/
def q_PI (P : Int32 → q_M → q_R → Prop) : q_P := fun r μ ρ => ∃ v : Int32, r = some (.int v) ∧ P v μ ρ
def q_PV (P : q_M → q_R → Prop) : q_P := fun r μ ρ => r = none ∧ P μ ρ
section QK
variable {C : q_C} {l : Launch} {F : q_F} {d n0 n1 : Nat} {Po : q_P} {n : Nat} {μ : q_M} {ρ : q_R} {lv : List (Nat × Value)} {st : List Value} {pc : Nat}
theorem g_ri {P : Int32 → q_M → q_R → Prop} {v : Int32} (hd : decode F.2.1 pc = .ok (.ireturn, 1)) (hr : F.2.2.2 = some .int) (he : n = n1) (h : P v μ ρ) : q_G C l F d n0 n1 (q_PI P) n μ ρ lv [.int v] pc := g_iret hd hr he ⟨v, rfl, h⟩
theorem g_rz {P : Int32 → q_M → q_R → Prop} {v : Int32} (hd : decode F.2.1 pc = .ok (.ireturn, 1)) (hr : F.2.2.2 = some .boolean) (hz : v = 0 ∨ v = 1) (he : n = n1) (h : P v μ ρ) : q_G C l F d n0 n1 (q_PI P) n μ ρ lv [.int v] pc := g_zret hd hr hz he ⟨v, rfl, h⟩
theorem g_rv {P : q_M → q_R → Prop} (hd : decode F.2.1 pc = .ok (.return_, 1)) (hr : F.2.2.2 = none) (he : n = n1) (h : P μ ρ) : q_G C l F d n0 n1 (q_PV P) n μ ρ lv [] pc := g_vret hd hr he ⟨rfl, h⟩
theorem g_Si (pc' : Nat) (as rest : List Value) {idx np d' : Nat} {F' : q_F} {P : Int32 → q_M → q_R → Prop} (hd : decode F.2.1 pc = .ok (.invokestatic idx, 3)) (hp : pc + 3 = pc') (hm : q_mt F' np) (hl1 : Cond.methodLink F.1.cls idx F'.1 ∈ q_T ∧ Cond.static F'.1 ∈ q_T) (hst : st = as.reverse ++ rest) (hct : q_Ct C l F' d' n n as μ ρ (q_PI P)) (hnp : as.length = np) (hcat : (rest.map fun v => v.category).sum ≤ 8) (hdd : d' < d)
    (kk : ∀ (v : Int32) (μ' : q_M) (ρ' : q_R), P v μ' ρ' → q_G C l F d n0 n1 Po n μ' ρ' lv (.int v :: rest) pc') : q_G C l F d n0 n1 Po n μ ρ lv st pc := by
  by_cases hn : n ≤ n1
  · exact g_callS pc' as rest hd hp hm hl1 hct hst hnp hcat hdd (Nat.le_refl _) hn (fun r μ' ρ' h => by obtain ⟨v, rfl, h⟩ := h; exact kk v μ' ρ' h)
  · intro p e s m args below meth c9 H locs ls hX hH hS hl hn2
    exact absurd hn2.2 hn
theorem g_SNi (pc' : Nat) (as rest : List Value) {idx np d' : Nat} {F' : q_F} {P : Int32 → q_M → q_R → Prop} (hd : decode F.2.1 pc = .ok (.invokestatic idx, 3)) (hp : pc + 3 = pc') (hm : q_mt F' np) (hl1 : Cond.methodLinkNest F.1.cls idx F'.1 "DesertTown" ∈ q_nest ∧ Cond.static F'.1 ∈ q_T) (hst : st = as.reverse ++ rest) (hct : q_Ct C l F' d' n n as μ ρ (q_PI P)) (hnp : as.length = np) (hcat : (rest.map fun v => v.category).sum ≤ 8) (hdd : d' < d)
    (kk : ∀ (v : Int32) (μ' : q_M) (ρ' : q_R), P v μ' ρ' → q_G C l F d n0 n1 Po n μ' ρ' lv (.int v :: rest) pc') : q_G C l F d n0 n1 Po n μ ρ lv st pc := by
  by_cases hn : n ≤ n1
  · exact g_callSN pc' as rest hd hp hm hl1 hct hst hnp hcat hdd (Nat.le_refl _) hn (fun r μ' ρ' h => by obtain ⟨v, rfl, h⟩ := h; exact kk v μ' ρ' h)
  · intro p e s m args below meth c9 H locs ls hX hH hS hl hn2
    exact absurd hn2.2 hn
theorem g_Vi (pc' : Nat) (as rest : List Value) {c idx np d' ci N : Nat} {F' : q_F} {P : Int32 → q_M → q_R → Prop} (hd : decode F.2.1 pc = .ok (.invokevirtual idx, 3)) (hp : pc + 3 = pc') (hm : q_mt F' np) (hl1 : Cond.methodLink F.1.cls idx F'.1 ∈ q_T ∧ Cond.instanceMethod F'.1 ∈ q_T ∧ Cond.selects F'.1.cls F'.1 F'.1 ∈ q_T) (hst : st = as.reverse ++ .ref (q_a C c) :: rest) (hk : q_kd c = (ci, N)) (hci : vwCl[ci]?.map (fun q => q.1) = some F'.1.cls) (hc : c < n) (hct : q_Ct C l F' d' n n (.ref (q_a C c) :: as) μ ρ (q_PI P)) (hnp : as.length = np) (hcat : (rest.map fun v => v.category).sum ≤ 8) (hdd : d' < d)
    (kk : ∀ (v : Int32) (μ' : q_M) (ρ' : q_R), P v μ' ρ' → q_G C l F d n0 n1 Po n μ' ρ' lv (.int v :: rest) pc') : q_G C l F d n0 n1 Po n μ ρ lv st pc := by
  by_cases hn : n ≤ n1
  · exact g_callV pc' c as rest hd hp hm hl1 hc hk hci hct hst hnp hcat hdd (Nat.le_refl _) hn (fun r μ' ρ' h => by obtain ⟨v, rfl, h⟩ := h; exact kk v μ' ρ' h)
  · intro p e s m args below meth c9 H locs ls hX hH hS hl hn2
    exact absurd hn2.2 hn
theorem g_Vv (pc' : Nat) (as rest : List Value) {c idx np d' ci N : Nat} {F' : q_F} {P : q_M → q_R → Prop} (hd : decode F.2.1 pc = .ok (.invokevirtual idx, 3)) (hp : pc + 3 = pc') (hm : q_mt F' np) (hl1 : Cond.methodLink F.1.cls idx F'.1 ∈ q_T ∧ Cond.instanceMethod F'.1 ∈ q_T ∧ Cond.selects F'.1.cls F'.1 F'.1 ∈ q_T) (hst : st = as.reverse ++ .ref (q_a C c) :: rest) (hk : q_kd c = (ci, N)) (hci : vwCl[ci]?.map (fun q => q.1) = some F'.1.cls) (hc : c < n) (hct : q_Ct C l F' d' n n (.ref (q_a C c) :: as) μ ρ (q_PV P)) (hnp : as.length = np) (hcat : (rest.map fun v => v.category).sum ≤ 8) (hdd : d' < d)
    (kk : ∀ (μ' : q_M) (ρ' : q_R), P μ' ρ' → q_G C l F d n0 n1 Po n μ' ρ' lv rest pc') : q_G C l F d n0 n1 Po n μ ρ lv st pc := by
  by_cases hn : n ≤ n1
  · exact g_callV pc' c as rest hd hp hm hl1 hc hk hci hct hst hnp hcat hdd (Nat.le_refl _) hn (fun r μ' ρ' h => by obtain ⟨rfl, h⟩ := h; exact kk μ' ρ' h)
  · intro p e s m args below meth c9 H locs ls hX hH hS hl hn2
    exact absurd hn2.2 hn
/-- a contract may promise less -/
theorem q_Ct.weak {as : List Value} {Po' : q_P} (h : q_Ct C l F d n0 n1 as μ ρ Po') (hw : ∀ r μ' ρ', Po' r μ' ρ' → Po r μ' ρ') : q_Ct C l F d n0 n1 as μ ρ Po := by
  unfold q_Ct at h ⊢
  intro p e ha hc hk s m args below hf hfit hheap happ
  obtain ⟨t, o, h1, h2, h3, h4, h5⟩ := h p e ha hc hk s m args below hf hfit hheap happ
  obtain ⟨⟨r, μ', ρ', g1, g2, g3⟩, g4⟩ := h4
  exact ⟨t, o, h1, h2, h3, ⟨⟨r, μ', ρ', g1, hw _ _ _ g2, g3⟩, g4⟩, h5⟩
end QK
/-- the references of the built system; b: the two road books have changed places -/
def q_ρ (b : Bool) : q_R := fun c j => match c with
  | 0 => match j with
    | 0 => some 1
    | 1 => some 4
    | 2 => some 8
    | 3 => some 10
    | 4 => some 11
    | 5 => some 63
    | 6 => some 69
    | 7 => some (bif b then 96 else 70)
    | 8 => some (bif b then 70 else 96)
    | _ => none
  | 1 => match j with
    | 0 => some 2
    | _ => some 3
  | 4 => match j with
    | 0 => some 5
    | 1 => some 6
    | _ => some 7
  | 8 => some 9
  | 11 => match j with
    | 0 => some 12
    | 1 => some 20
    | 2 => some 28
    | 3 => some 36
    | 4 => some 44
    | 5 => some 52
    | 6 => some 60
    | 7 => some 61
    | _ => some 62
  | 12 => some (13 + j)
  | 20 => some (21 + j)
  | 28 => some (29 + j)
  | 36 => some (37 + j)
  | 44 => some (45 + j)
  | 52 => some (53 + j)
  | 63 => match j with
    | 0 => some 64
    | 1 => some 65
    | 2 => some 66
    | 4 => some 67
    | _ => some 68
  | 70 => match j with
    | 0 => some 71
    | 1 => some 72
    | 2 => some 80
    | _ => some 88
  | 72 => some (73 + j)
  | 80 => some (81 + j)
  | 88 => some (89 + j)
  | 96 => match j with
    | 0 => some 97
    | 1 => some 98
    | 2 => some 106
    | _ => some 114
  | 98 => some (99 + j)
  | 106 => some (107 + j)
  | 114 => some (115 + j)
  | 122 => match j with
    | 1 => some 123
    | 2 => some 124
    | 3 => some 125
    | 4 => some 126
    | 5 => some 127
    | 6 => some 128
    | 7 => some 129
    | 8 => some 130
    | 9 => some 131
    | 10 => some 132
    | 11 => some 133
    | 22 => some 134
    | 23 => some 135
    | 24 => some 136
    | 25 => some 137
    | 26 => some 138
    | 27 => some 139
    | 28 => some 140
    | _ => some 141
  | _ => none
