/-! ===== String constants ===== -/
set_option maxRecDepth 20000 in
theorem t_str_38 : Cond.fieldLink "java/lang/String" 38 "java/lang/String" "COMPACT_STRINGS" "Z" ∈ q_T := q_mm 401 (by decide +kernel) (by decide +kernel)
set_option maxRecDepth 20000 in
theorem t_str_1053 : Cond.fieldLink "java/lang/String" 1053 "jdk/internal/util/Preconditions" "SIOOBE_FORMATTER" "Ljava/util/function/BiFunction;" ∈ q_T := q_mm 417 (by decide +kernel) (by decide +kernel)
set_option maxRecDepth 20000 in
theorem t_str_44 : Cond.fieldLink "java/lang/StringUTF16" 44 "java/lang/StringUTF16" "$assertionsDisabled" "Z" ∈ q_T := q_mm 435 (by decide +kernel) (by decide +kernel)
set_option maxRecDepth 20000 in
theorem t_str_59 : Cond.fieldLink "java/lang/StringUTF16" 59 "java/lang/StringUTF16" "HI_BYTE_SHIFT" "I" ∈ q_T := q_mm 437 (by decide +kernel) (by decide +kernel)
set_option maxRecDepth 20000 in
theorem t_str_63 : Cond.fieldLink "java/lang/StringUTF16" 63 "java/lang/StringUTF16" "LO_BYTE_SHIFT" "I" ∈ q_T := q_mm 439 (by decide +kernel) (by decide +kernel)
set_option maxRecDepth 20000 in
theorem t_str_9 : Cond.fieldLink "java/lang/String" 9 "java/lang/String" "value" "[B" ∈ q_T := q_mm 872 (by decide +kernel) (by decide +kernel)
set_option maxRecDepth 20000 in
theorem t_str_15 : Cond.fieldLink "java/lang/String" 15 "java/lang/String" "coder" "B" ∈ q_T := q_mm 873 (by decide +kernel) (by decide +kernel)
section ST
variable {C : q_C} {l : Launch} {F : q_F} {d n0 n1 : Nat} {Po : q_P} {n : Nat} {μ : q_M} {ρ : q_R} {lv : List (Nat × Value)} {st : List Value} {pc : Nat}
theorem g_sval (pc' : Nat) (i : Nat) (hi : i < 4) {idx : Nat} (hd : decode F.2.1 pc = .ok (.getfield idx, 3)) (hp : pc + 3 = pc') (hw : Cond.fieldLink F.1.cls idx "java/lang/String" "value" "[B" ∈ q_T) (kk : q_G C l F d n0 n1 Po n μ ρ lv (.ref (C.2.2.1 i) :: st) pc') : q_G C l F d n0 n1 Po n μ ρ lv (.ref (q_x C (2 + i)) :: st) pc := by
  subst hp
  intro p e s m args below meth c9 H locs ls hX hH hS hl hn
  exact vk_getf hX.1 hX.2.1 (hX.2.2.2.2.2.2.2.2.2.2.2.2.2.1.1 i hi).2.2.1 hS hX.2.2.2.2.1 (hX.2.2.2.2.2.1 _ hw) (fun _ h => h) hd (kk p e s m args below meth c9 H locs ls hX hH hS hl hn)
theorem g_scod (pc' : Nat) (i : Nat) (hi : i < 4) {idx : Nat} (hd : decode F.2.1 pc = .ok (.getfield idx, 3)) (hp : pc + 3 = pc') (hw : Cond.fieldLink F.1.cls idx "java/lang/String" "coder" "B" ∈ q_T) (kk : q_G C l F d n0 n1 Po n μ ρ lv (.int 0 :: st) pc') : q_G C l F d n0 n1 Po n μ ρ lv (.ref (q_x C (2 + i)) :: st) pc := by
  subst hp
  intro p e s m args below meth c9 H locs ls hX hH hS hl hn
  exact vk_getf hX.1 hX.2.1 (hX.2.2.2.2.2.2.2.2.2.2.2.2.2.1.1 i hi).2.1 hS hX.2.2.2.2.1 (hX.2.2.2.2.2.1 _ hw) (fun _ h => h) hd (kk p e s m args below meth c9 H locs ls hX hH hS hl hn)
theorem g_sarl (pc' : Nat) (i : Nat) (hi : i < 4) (hd : decode F.2.1 pc = .ok (.arraylength, 1)) (hp : pc + 1 = pc') (kk : q_G C l F d n0 n1 Po n μ ρ lv (.int (nI (q_kn.getD i 0)) :: st) pc') : q_G C l F d n0 n1 Po n μ ρ lv (.ref (C.2.2.1 i) :: st) pc := by
  subst hp
  intro p e s m args below meth c9 H locs ls hX hH hS hl hn
  exact va_tlen hX.1 hX.2.1 (hX.2.2.2.2.2.2.2.2.2.2.2.2.2.1.1 i hi).2.2.2 hS rfl hd (kk p e s m args below meth c9 H locs ls hX hH hS hl hn)
theorem g_sbal (pc' : Nat) (i : Nat) (hi : i < 4) {j : Int32} (hd : decode F.2.1 pc = .ok (.baload, 1)) (hp : pc + 1 = pc') (hj : vp_in j (q_kn.getD i 0)) (kk : q_G C l F d n0 n1 Po n μ ρ lv (.int ((q_kb.getD i []).getD j.toNatClampNeg 0) :: st) pc') : q_G C l F d n0 n1 Po n μ ρ lv (.int j :: .ref (C.2.2.1 i) :: st) pc := by
  subst hp
  intro p e s m args below meth c9 H locs ls hX hH hS hl hn
  exact va_tb hX.1 hX.2.1 (hX.2.2.2.2.2.2.2.2.2.2.2.2.2.1.1 i hi).2.2.2 hS hj rfl hd (kk p e s m args below meth c9 H locs ls hX hH hS hl hn)
theorem g_cpt (pc' : Nat) {idx : Nat} (hd : decode F.2.1 pc = .ok (.getstatic idx, 3)) (hp : pc + 3 = pc') (hw : Cond.fieldLink F.1.cls idx "java/lang/String" "COMPACT_STRINGS" "Z" ∈ q_T) (kk : q_G C l F d n0 n1 Po n μ ρ lv (.int 1 :: st) pc') : q_G C l F d n0 n1 Po n μ ρ lv st pc := by
  subst hp
  intro p e s m args below meth c9 H locs ls hX hH hS hl hn
  exact va_gets hX.1 hX.2.1 hX.2.2.2.2.2.2.2.2.2.2.2.2.2.2.2.1 hS hX.2.2.2.2.1 (hX.2.2.2.2.2.1 _ hw) (fun _ h => h) hd (kk p e s m args below meth c9 H locs ls hX hH hS hl hn)
theorem g_fmt (pc' : Nat) {idx : Nat} (hd : decode F.2.1 pc = .ok (.getstatic idx, 3)) (hp : pc + 3 = pc') (hw : Cond.fieldLink F.1.cls idx "jdk/internal/util/Preconditions" "SIOOBE_FORMATTER" "Ljava/util/function/BiFunction;" ∈ q_T) (k1 : q_G C l F d n0 n1 Po n μ ρ lv (.null :: st) pc') (k2 : ∀ t : Nat, q_G C l F d n0 n1 Po n μ ρ lv (.ref t :: st) pc') : q_G C l F d n0 n1 Po n μ ρ lv st pc := by
  subst hp
  intro p e s m args below meth c9 H locs ls hX hH hS hl hn
  rcases hX.2.2.2.2.2.2.2.2.2.2.2.2.2.2.2.2.2 with h | ⟨t, h⟩
  · exact va_gets hX.1 hX.2.1 h hS hX.2.2.2.2.1 (hX.2.2.2.2.2.1 _ hw) (fun _ h => h) hd (k1 p e s m args below meth c9 H locs ls hX hH hS hl hn)
  · exact va_gets hX.1 hX.2.1 h hS hX.2.2.2.2.1 (hX.2.2.2.2.2.1 _ hw) (fun _ h => h) hd (k2 t p e s m args below meth c9 H locs ls hX hH hS hl hn)
theorem g_nri {P : Int32 → q_M → q_R → Prop} {v : Int32} (ty : FieldType) (hd : decode F.2.1 pc = .ok (.ireturn, 1)) (hr : F.2.2.2 = some ty) (hz : narrow ty (.int v) = .int v) (he : n = n1) (hPo : P v μ ρ) : q_G C l F d n0 n1 (q_PI P) n μ ρ lv [.int v] pc := by
  intro p e s m args below meth c H locs ls hX hH hS hl hn
  subst he
  have hlk := hX.2.2.2.2.2.2.1
  exact W.zret (ty := ty) hX.1 hX.2.1 (hX.2.2.1.trans hr) hz (fun t ht hW => ⟨⟨_, μ, ρ, rfl, ⟨v, rfl, hPo⟩, by rw [ht]; exact hH⟩, hS.F ht⟩) hS.2.2 hd hlk
theorem g_ars {a : Nat} (hd : decode F.2.1 pc = .ok (.areturn, 1)) (hr : F.2.2.2 = some (.object "java/lang/String")) (he : n = n1) (hPo : Po (some (.ref a)) μ ρ) : q_G C l F d n0 n1 Po n μ ρ lv [.ref a] pc := by
  intro p e s m args below meth c H locs ls hX hH hS hl hn
  subst he
  have hlk := hX.2.2.2.2.2.2.1
  exact W.aret hX.1 hX.2.1 (hX.2.2.1.trans hr) (Or.inl ⟨_, rfl⟩) (Or.inr ⟨a, rfl⟩) (fun t ht hW => ⟨⟨_, μ, ρ, rfl, hPo, by rw [ht]; exact hH⟩, hS.F ht⟩) hS.2.2 hd hlk
theorem g_ldcs (pc' : Nat) {idx a : Nat} {tx : String} (hd : decode F.2.1 pc = .ok (.ldc idx, 2)) (hp : pc + 2 = pc') (hR : ∀ s, q_U C s → vk_R F.1.cls idx tx a s) (kk : q_G C l F d n0 n1 Po n μ ρ lv (.ref a :: st) pc') : q_G C l F d n0 n1 Po n μ ρ lv st pc := by
  subst hp
  intro p e s m args below meth c9 H locs ls hX hH hS hl hn
  exact va_ldcS hX.1 hX.2.1 hX.2.2.2.2.1 (hR s hX.2.2.2.2.2.2.2.2) hd (kk p e s m args below meth c9 H locs ls hX hH hS hl hn)
theorem g_Vsi (pc' : Nat) (i : Nat) (hi : i < 4) (as rest : List Value) {idx np d' : Nat} {F' : q_F} {P : Int32 → q_M → q_R → Prop} (hd : decode F.2.1 pc = .ok (.invokevirtual idx, 3)) (hp : pc + 3 = pc') (hm : q_mt F' np) (hl1 : Cond.methodLink F.1.cls idx F'.1 ∈ q_T ∧ Cond.instanceMethod F'.1 ∈ q_T ∧ Cond.selects F'.1.cls F'.1 F'.1 ∈ q_T) (hcs : F'.1.cls = "java/lang/String") (hst : st = as.reverse ++ .ref (q_x C (2 + i)) :: rest) (hct : q_Ct C l F' d' n n (.ref (q_x C (2 + i)) :: as) μ ρ (q_PI P)) (hnp : as.length = np) (hcat : (rest.map fun v => v.category).sum ≤ 8) (hdd : d' < d)
    (kk : ∀ (v : Int32) (μ' : q_M) (ρ' : q_R), P v μ' ρ' → q_G C l F d n0 n1 Po n μ' ρ' lv (.int v :: rest) pc') : q_G C l F d n0 n1 Po n μ ρ lv st pc := by
  subst hp
  subst hst
  intro p e s m args below meth c9 H locs ls hX hH hS hl hn
  have hts := hX.2.2.2.2.2.1
  obtain ⟨m1, m2, m3, m4⟩ := id hm
  have hrecv : ∃ cellB : Cell, H[q_x C (2 + i)]? = some cellB ∧ cellB.vm.isStatics = false ∧ s.vm.findClass F'.1.cls = some cellB.cls := by
    rw [hcs]
    exact vk_recv (i := i) hX.2.2.2.2.2.2.2.2.2.2.2.2.2.1 hi hS
  refine q_call (va_runV (C := F'.1.cls) ⟨hX.1, hX.2.1, hX.2.2.2.1, hX.2.2.2.2.1, hts⟩ hct ⟨callB_of np hts (q_gd hm) rfl rfl rfl (hts _ m2) (hts _ hl1.1) m3 ⟨by show d' + 1 ≤ d; omega, by show 8 + (F'.2.2.1 + 11) + 64 * d' ≤ 64 * d; omega⟩, hts _ hl1.2.1, hts _ hl1.2.2⟩ ⟨q_blind, hrecv, fun U hU hW => ⟨rfl, hX.2.2.2.2.2.2.2.2.moved hS hU hW, by rw [hU]; exact hH⟩⟩ rfl hnp hl.1 rfl (lv_room hcat) hd (q_rooms hn (Nat.le_refl _) hn.2)) hS ?_
  intro r μ' ρ' H1 locs1 hpo hH1 hS1
  obtain ⟨v, rfl, hpo⟩ := hpo
  have k2 := kk v μ' ρ' hpo p e s m args below meth c9 H1 locs1 ls hX hH1 hS1 hl hn
  rw [(q_rooms2 hn (Nat.le_refl _)).1, (q_rooms2 hn (Nat.le_refl _)).2]
  exact k2
theorem g_Sv (pc' : Nat) (as rest : List Value) {idx np d' : Nat} {F' : q_F} {P : q_M → q_R → Prop} (hd : decode F.2.1 pc = .ok (.invokestatic idx, 3)) (hp : pc + 3 = pc') (hm : q_mt F' np) (hl1 : Cond.methodLink F.1.cls idx F'.1 ∈ q_T ∧ Cond.static F'.1 ∈ q_T) (hst : st = as.reverse ++ rest) (hct : q_Ct C l F' d' n n as μ ρ (q_PV P)) (hnp : as.length = np) (hcat : (rest.map fun v => v.category).sum ≤ 8) (hdd : d' < d)
    (kk : ∀ (μ' : q_M) (ρ' : q_R), P μ' ρ' → q_G C l F d n0 n1 Po n μ' ρ' lv rest pc') : q_G C l F d n0 n1 Po n μ ρ lv st pc := by
  by_cases hn : n ≤ n1
  · exact g_callS pc' as rest hd hp hm hl1 hct hst hnp hcat hdd (Nat.le_refl _) hn (fun r μ' ρ' h => by obtain ⟨rfl, h⟩ := h; exact kk μ' ρ' h)
  · intro p e s m args below meth c9 H locs ls hX hH hS hl hn2
    exact absurd hn2.2 hn
theorem g_Sr (pc' : Nat) (as rest : List Value) {idx np d' a : Nat} {F' : q_F} (hd : decode F.2.1 pc = .ok (.invokestatic idx, 3)) (hp : pc + 3 = pc') (hm : q_mt F' np) (hl1 : Cond.methodLink F.1.cls idx F'.1 ∈ q_T ∧ Cond.static F'.1 ∈ q_T) (hst : st = as.reverse ++ rest) (hct : q_Ct C l F' d' n n as μ ρ (fun r μ' ρ' => r = some (.ref a) ∧ μ = μ' ∧ ρ = ρ')) (hnp : as.length = np) (hcat : (rest.map fun v => v.category).sum ≤ 8) (hdd : d' < d)
    (kk : q_G C l F d n0 n1 Po n μ ρ lv (.ref a :: rest) pc') : q_G C l F d n0 n1 Po n μ ρ lv st pc := by
  by_cases hn : n ≤ n1
  · exact g_callS pc' as rest hd hp hm hl1 hct hst hnp hcat hdd (Nat.le_refl _) hn (fun r μ' ρ' h => by obtain ⟨rfl, rfl, rfl⟩ := h; exact kk)
  · intro p e s m args below meth c9 H locs ls hX hH hS hl hn2
    exact absurd hn2.2 hn
end ST
section SC
variable {C : q_C} {l : Launch} {μ : q_M} {ρ : q_R}
set_option maxRecDepth 100000 in
set_option maxHeartbeats 4000000 in
theorem c_coder {i : Nat} (hi : i < 4) : q_Ct C l FJ0_coder_7d493 0 142 142 [.ref (q_x C (2 + i))] μ ρ (q_is 0 μ ρ) := by
  refine q_entry rfl (by decide) (Nat.le_of_ble_eq_true rfl) ?_
  refine g_lv [(0, _)] rfl ?_
  refine g_cpt 3 dJ0_coder_7d493_0 rfl t_str_38 ?_
  refine g_if_eq 13 6 dJ0_coder_7d493_3 rfl (by decide) (fun h3 => ?_) (fun h3 => ?_)
  · exact absurd h3 (by decide)
  · refine g_aload_n 7 dJ0_coder_7d493_6 rfl rfl ?_
    refine g_scod 10 i hi dJ0_coder_7d493_7 rfl t_str_15 ?_
    refine g_goto 14 dJ0_coder_7d493_10 (by decide) ?_
    exact g_nri .byte dJ0_coder_7d493_14 rfl rfl rfl ⟨rfl, rfl, rfl⟩
set_option maxRecDepth 100000 in
set_option maxHeartbeats 4000000 in
theorem c_slen {i : Nat} (hi : i < 4) : q_Ct C l FJ0_length_8abf5 1 142 142 [.ref (q_x C (2 + i))] μ ρ (q_is (nI (q_kn.getD i 0)) μ ρ) := by
  refine q_entry rfl (by decide) (Nat.le_of_ble_eq_true rfl) ?_
  refine g_lv [(0, _)] rfl ?_
  refine g_aload_n 1 dJ0_length_8abf5_0 rfl rfl ?_
  refine g_sval 4 i hi dJ0_length_8abf5_1 rfl t_str_9 ?_
  refine g_sarl 5 i hi dJ0_length_8abf5_4 rfl ?_
  refine g_aload_n 6 dJ0_length_8abf5_5 rfl rfl ?_
  refine g_Vsi 9 i hi [] _ dJ0_length_8abf5_6 rfl m_J0_coder_7d493 l_J0_335 rfl rfl (c_coder hi) rfl (Nat.le_of_ble_eq_true rfl) (by decide) (fun v6 μ6 ρ6 hc9 => ?_)
  obtain ⟨rfl, rfl, rfl⟩ := hc9
  refine g_ishr 10 dJ0_length_8abf5_9 rfl ?_
  rw [sb_shr0]
  exact g_ri dJ0_length_8abf5_10 rfl rfl ⟨rfl, rfl, rfl⟩
set_option maxRecDepth 100000 in
set_option maxHeartbeats 4000000 in
theorem c_lat {i : Nat} (hi : i < 4) : q_Ct C l FJ0_isLatin1_aae02 0 142 142 [.ref (q_x C (2 + i))] μ ρ (q_is 1 μ ρ) := by
  refine q_entry rfl (by decide) (Nat.le_of_ble_eq_true rfl) ?_
  refine g_lv [(0, _)] rfl ?_
  refine g_cpt 3 dJ0_isLatin1_aae02_0 rfl t_str_38 ?_
  refine g_if_eq 17 6 dJ0_isLatin1_aae02_3 rfl (by decide) (fun h3 => ?_) (fun h3 => ?_)
  · exact absurd h3 (by decide)
  · refine g_aload_n 7 dJ0_isLatin1_aae02_6 rfl rfl ?_
    refine g_scod 10 i hi dJ0_isLatin1_aae02_7 rfl t_str_15 ?_
    refine g_if_ne 17 13 dJ0_isLatin1_aae02_10 rfl (by decide) (fun h10 => ?_) (fun h10 => ?_)
    · exact absurd rfl h10
    · refine g_iconst 14 1 dJ0_isLatin1_aae02_13 rfl (by decide) ?_
      refine g_goto 18 dJ0_isLatin1_aae02_14 (by decide) ?_
      exact g_rz dJ0_isLatin1_aae02_18 rfl (by first | exact Or.inl rfl | exact Or.inr rfl | assumption) rfl ⟨rfl, rfl, rfl⟩
set_option maxRecDepth 100000 in
set_option maxHeartbeats 4000000 in
theorem c_ckPn {x y : Int32} (hx0 : ¬ x < 0) (hxy : x < y) : q_Ct C l FJ3_checkIndex_8e157 0 142 142 [.int x, .int y, .null] μ ρ (q_is x μ ρ) := by
  refine q_entry rfl (by decide) (Nat.le_of_ble_eq_true rfl) ?_
  refine g_lv [(0, _), (1, _), (2, _)] rfl ?_
  refine g_iload_n 1 dJ3_checkIndex_8e157_0 rfl rfl ?_
  refine g_if_lt 9 4 dJ3_checkIndex_8e157_1 rfl (by decide) (fun h1 => ?_) (fun h1 => ?_)
  · exact absurd h1 hx0
  · refine g_iload_n 5 dJ3_checkIndex_8e157_4 rfl rfl ?_
    refine g_iload_n 6 dJ3_checkIndex_8e157_5 rfl rfl ?_
    refine g_icmp_lt 16 9 dJ3_checkIndex_8e157_6 rfl (by decide) (fun h6 => ?_) (fun h6 => ?_)
    · refine g_iload_n 17 dJ3_checkIndex_8e157_16 rfl rfl ?_
      exact g_ri dJ3_checkIndex_8e157_17 rfl rfl ⟨rfl, rfl, rfl⟩
    · exact absurd hxy h6
set_option maxRecDepth 100000 in
set_option maxHeartbeats 4000000 in
theorem c_ckPr {x y : Int32} {t : Nat} (hx0 : ¬ x < 0) (hxy : x < y) : q_Ct C l FJ3_checkIndex_8e157 0 142 142 [.int x, .int y, .ref t] μ ρ (q_is x μ ρ) := by
  refine q_entry rfl (by decide) (Nat.le_of_ble_eq_true rfl) ?_
  refine g_lv [(0, _), (1, _), (2, _)] rfl ?_
  refine g_iload_n 1 dJ3_checkIndex_8e157_0 rfl rfl ?_
  refine g_if_lt 9 4 dJ3_checkIndex_8e157_1 rfl (by decide) (fun h1 => ?_) (fun h1 => ?_)
  · exact absurd h1 hx0
  · refine g_iload_n 5 dJ3_checkIndex_8e157_4 rfl rfl ?_
    refine g_iload_n 6 dJ3_checkIndex_8e157_5 rfl rfl ?_
    refine g_icmp_lt 16 9 dJ3_checkIndex_8e157_6 rfl (by decide) (fun h6 => ?_) (fun h6 => ?_)
    · refine g_iload_n 17 dJ3_checkIndex_8e157_16 rfl rfl ?_
      exact g_ri dJ3_checkIndex_8e157_17 rfl rfl ⟨rfl, rfl, rfl⟩
    · exact absurd hxy h6
set_option maxRecDepth 100000 in
set_option maxHeartbeats 4000000 in
theorem c_ckI {x y : Int32} (h0 : ¬ x < 0) (h1 : x < y) : q_Ct C l FJ0_checkIndex_df160 1 142 142 [.int x, .int y] μ ρ (q_to μ ρ) := by
  refine q_entry rfl (by decide) (Nat.le_of_ble_eq_true rfl) ?_
  refine g_lv [(0, _), (1, _)] rfl ?_
  refine g_iload_n 1 dJ0_checkIndex_df160_0 rfl rfl ?_
  refine g_iload_n 2 dJ0_checkIndex_df160_1 rfl rfl ?_
  refine g_fmt 5 dJ0_checkIndex_df160_2 rfl t_str_1053 ?_ (fun t => ?_)
  · refine g_Si 8 [_, _, _] _ dJ0_checkIndex_df160_5 rfl m_J3_checkIndex_8e157 l_J0_1059 rfl (c_ckPn h0 h1) rfl (Nat.le_of_ble_eq_true rfl) (by decide) (fun v5 μ5 ρ5 hc9 => ?_)
    obtain ⟨rfl, rfl, rfl⟩ := hc9
    refine g_pop 9 dJ0_checkIndex_df160_8 rfl rfl ?_
    exact g_rv dJ0_checkIndex_df160_9 rfl rfl ⟨rfl, rfl⟩
  · refine g_Si 8 [_, _, _] _ dJ0_checkIndex_df160_5 rfl m_J3_checkIndex_8e157 l_J0_1059 rfl (c_ckPr h0 h1) rfl (Nat.le_of_ble_eq_true rfl) (by decide) (fun v5 μ5 ρ5 hc9 => ?_)
    obtain ⟨rfl, rfl, rfl⟩ := hc9
    refine g_pop 9 dJ0_checkIndex_df160_8 rfl rfl ?_
    exact g_rv dJ0_checkIndex_df160_9 rfl rfl ⟨rfl, rfl⟩
theorem q_kc {i j : Nat} (hi : i < 4) (hj : j < q_kn.getD i 0) : ((((q_kb.getD i []).getD j 0) &&& 255).toUInt32 % 65536).toInt32 = (q_kb.getD i []).getD j 0 := by
  have h9 : ∀ i, i < 4 → ∀ j, j < q_kn.getD i 0 → ((((q_kb.getD i []).getD j 0) &&& 255).toUInt32 % 65536).toInt32 = (q_kb.getD i []).getD j 0 := by decide +kernel
  exact h9 i hi j hj
theorem q_kcn {i j : Nat} (hi : i < 4) (hj : j < q_kn.getD i 0) : narrow .char (.int ((q_kb.getD i []).getD j 0)) = .int ((q_kb.getD i []).getD j 0) := by
  rw [← q_kc hi hj]
  exact pk_nc _
theorem q_knl {i : Nat} (hi : i < 4) : q_kn.getD i 0 ≤ 4 := by
  have h9 : ∀ i, i < 4 → q_kn.getD i 0 ≤ 4 := by decide
  exact h9 i hi
set_option maxRecDepth 100000 in
set_option maxHeartbeats 4000000 in
theorem c_chL {i j : Nat} (hi : i < 4) (hj : j < q_kn.getD i 0) : q_Ct C l FJ1_charAt_3b067 2 142 142 [.ref (C.2.2.1 i), .int (nI j)] μ ρ (q_is ((q_kb.getD i []).getD j 0) μ ρ) := by
  refine q_entry rfl (by decide) (Nat.le_of_ble_eq_true rfl) ?_
  refine g_lv [(0, _), (1, _)] rfl ?_
  refine g_iload_n 1 dJ1_charAt_3b067_0 rfl rfl ?_
  refine g_aload_n 2 dJ1_charAt_3b067_1 rfl rfl ?_
  refine g_sarl 3 i hi dJ1_charAt_3b067_2 rfl ?_
  have hk4 := q_knl hi
  refine g_Sv 6 [_, _] _ dJ1_charAt_3b067_3 rfl m_J0_checkIndex_df160 l_J1_9 rfl (c_ckI (nI_pos (by omega)) (nI_lt hj (by omega))) rfl (Nat.le_of_ble_eq_true rfl) (by decide) (fun μ3 ρ3 hc9 => ?_)
  obtain ⟨rfl, rfl⟩ := hc9
  refine g_aload_n 7 dJ1_charAt_3b067_6 rfl rfl ?_
  refine g_iload_n 8 dJ1_charAt_3b067_7 rfl rfl ?_
  refine g_sbal 9 i hi dJ1_charAt_3b067_8 rfl (vp_in_nI hj (by omega)) ?_
  rw [nI_clamp (show j < 2 ^ 31 by omega)]
  refine g_sipush 12 255 dJ1_charAt_3b067_9 rfl (by decide) ?_
  refine g_iand 13 dJ1_charAt_3b067_12 rfl ?_
  refine g_i2c 14 dJ1_charAt_3b067_13 rfl ?_
  rw [q_kc hi hj]
  exact g_nri .char dJ1_charAt_3b067_14 rfl (q_kcn hi hj) rfl ⟨rfl, rfl, rfl⟩
set_option maxRecDepth 100000 in
set_option maxHeartbeats 4000000 in
theorem c_schar {i j : Nat} (hi : i < 4) (hj : j < q_kn.getD i 0) : q_Ct C l FJ0_charAt_5068e 3 142 142 [.ref (q_x C (2 + i)), .int (nI j)] μ ρ (q_is ((q_kb.getD i []).getD j 0) μ ρ) := by
  refine q_entry rfl (by decide) (Nat.le_of_ble_eq_true rfl) ?_
  refine g_lv [(0, _), (1, _)] rfl ?_
  refine g_aload_n 1 dJ0_charAt_5068e_0 rfl rfl ?_
  refine g_Vsi 4 i hi [] _ dJ0_charAt_5068e_1 rfl m_J0_isLatin1_aae02 l_J0_492 rfl rfl (c_lat hi) rfl (Nat.le_of_ble_eq_true rfl) (by decide) (fun v1 μ1 ρ1 hc9 => ?_)
  obtain ⟨rfl, rfl, rfl⟩ := hc9
  refine g_if_eq 16 7 dJ0_charAt_5068e_4 rfl (by decide) (fun h4 => ?_) (fun h4 => ?_)
  · exact absurd h4 (by decide)
  · refine g_aload_n 8 dJ0_charAt_5068e_7 rfl rfl ?_
    refine g_sval 11 i hi dJ0_charAt_5068e_8 rfl t_str_9 ?_
    refine g_iload_n 12 dJ0_charAt_5068e_11 rfl rfl ?_
    refine g_Si 15 [_, _] _ dJ0_charAt_5068e_12 rfl m_J1_charAt_3b067 l_J0_495 rfl (c_chL hi hj) rfl (Nat.le_of_ble_eq_true rfl) (by decide) (fun v12 μ12 ρ12 hc9 => ?_)
    obtain ⟨rfl, rfl, rfl⟩ := hc9
    exact g_nri .char dJ0_charAt_5068e_15 rfl (q_kcn hi hj) rfl ⟨rfl, rfl, rfl⟩
set_option maxRecDepth 100000 in
set_option maxHeartbeats 4000000 in
theorem c_kw0  : q_Ct C l FX0_keywordOf 0 142 142 [.int 0] μ ρ (fun r μ' ρ' => r = some (.ref (q_x C (2 + 0))) ∧ μ = μ' ∧ ρ = ρ') := by
  refine q_entry rfl (by decide) (Nat.le_of_ble_eq_true rfl) ?_
  refine g_lv [(0, _)] rfl ?_
  refine g_iload_n 1 dX0_keywordOf_0 rfl rfl ?_
  refine g_tabIn 36 dX0_keywordOf_1 (by decide) (by decide) rfl (by decide) ?_
  refine g_ldcs (a := q_x C (2 + 0)) 38 dX0_keywordOf_36 rfl (fun s h => h.2.2.2.2.2.2.1.1) ?_
  exact g_ars dX0_keywordOf_38 rfl rfl ⟨rfl, rfl, rfl⟩
set_option maxRecDepth 100000 in
set_option maxHeartbeats 4000000 in
theorem c_kw1  : q_Ct C l FX0_keywordOf 0 142 142 [.int 2] μ ρ (fun r μ' ρ' => r = some (.ref (q_x C (2 + 1))) ∧ μ = μ' ∧ ρ = ρ') := by
  refine q_entry rfl (by decide) (Nat.le_of_ble_eq_true rfl) ?_
  refine g_lv [(0, _)] rfl ?_
  refine g_iload_n 1 dX0_keywordOf_0 rfl rfl ?_
  refine g_tabIn 39 dX0_keywordOf_1 (by decide) (by decide) rfl (by decide) ?_
  refine g_ldcs (a := q_x C (2 + 1)) 41 dX0_keywordOf_39 rfl (fun s h => h.2.2.2.2.2.2.1.2.1) ?_
  exact g_ars dX0_keywordOf_41 rfl rfl ⟨rfl, rfl, rfl⟩
set_option maxRecDepth 100000 in
set_option maxHeartbeats 4000000 in
theorem c_kw2  : q_Ct C l FX0_keywordOf 0 142 142 [.int 4] μ ρ (fun r μ' ρ' => r = some (.ref (q_x C (2 + 2))) ∧ μ = μ' ∧ ρ = ρ') := by
  refine q_entry rfl (by decide) (Nat.le_of_ble_eq_true rfl) ?_
  refine g_lv [(0, _)] rfl ?_
  refine g_iload_n 1 dX0_keywordOf_0 rfl rfl ?_
  refine g_tabIn 42 dX0_keywordOf_1 (by decide) (by decide) rfl (by decide) ?_
  refine g_ldcs (a := q_x C (2 + 2)) 44 dX0_keywordOf_42 rfl (fun s h => h.2.2.2.2.2.2.1.2.2.1) ?_
  exact g_ars dX0_keywordOf_44 rfl rfl ⟨rfl, rfl, rfl⟩
set_option maxRecDepth 100000 in
set_option maxHeartbeats 4000000 in
theorem c_kw3  : q_Ct C l FX0_keywordOf 0 142 142 [.int 6] μ ρ (fun r μ' ρ' => r = some (.ref (q_x C (2 + 3))) ∧ μ = μ' ∧ ρ = ρ') := by
  refine q_entry rfl (by decide) (Nat.le_of_ble_eq_true rfl) ?_
  refine g_lv [(0, _)] rfl ?_
  refine g_iload_n 1 dX0_keywordOf_0 rfl rfl ?_
  refine g_tabOut 45 dX0_keywordOf_1 (Or.inr (by decide)) (by decide) ?_
  refine g_ldcs (a := q_x C (2 + 3)) 47 dX0_keywordOf_45 rfl (fun s h => h.2.2.2.2.2.2.1.2.2.2) ?_
  exact g_ars dX0_keywordOf_47 rfl rfl ⟨rfl, rfl, rfl⟩
/-! ===== tokens: the class ===== -/
def q_bk (c : Int32) : Bool := decide (c = 32 ∨ c = 10)
def q_dg (c : Int32) : Bool := decide (q_in c 48 57)
def q_lt (c : Int32) : Bool := decide (q_in c 97 122 ∨ q_in c 65 90)
set_option maxRecDepth 100000 in
set_option maxHeartbeats 4000000 in
theorem c_blank (c : Int32) : q_Ct C l FX0_isBlank 0 142 142 [.int c] μ ρ (q_is (q_b (q_bk c = true)) μ ρ) := by
  refine q_entry rfl (by decide) (Nat.le_of_ble_eq_true rfl) ?_
  refine g_lv [(0, _)] rfl ?_
  refine g_iload_n 1 dX0_isBlank_0 rfl rfl ?_
  refine g_bipush 3 32 dX0_isBlank_1 rfl (by decide) ?_
  refine g_icmp_eq 12 6 dX0_isBlank_3 rfl (by decide) (fun h3 => ?_) (fun h3 => ?_)
  · refine g_iconst 13 1 dX0_isBlank_12 rfl (by decide) ?_
    refine g_goto 17 dX0_isBlank_13 (by decide) ?_
    exact g_rz dX0_isBlank_17 rfl (by first | exact Or.inl rfl | exact Or.inr rfl | assumption) rfl ⟨q_b_t (decide_eq_true (Or.inl h3)), rfl, rfl⟩
  · refine g_iload_n 7 dX0_isBlank_6 rfl rfl ?_
    refine g_bipush 9 10 dX0_isBlank_7 rfl (by decide) ?_
    refine g_icmp_ne 16 12 dX0_isBlank_9 rfl (by decide) (fun h9 => ?_) (fun h9 => ?_)
    · refine g_iconst 17 0 dX0_isBlank_16 rfl (by decide) ?_
      exact g_rz dX0_isBlank_17 rfl (by first | exact Or.inl rfl | exact Or.inr rfl | assumption) rfl ⟨q_b_f (fun q => (of_decide_eq_true q).elim h3 h9), rfl, rfl⟩
    · refine g_iconst 13 1 dX0_isBlank_12 rfl (by decide) ?_
      refine g_goto 17 dX0_isBlank_13 (by decide) ?_
      exact g_rz dX0_isBlank_17 rfl (by first | exact Or.inl rfl | exact Or.inr rfl | assumption) rfl ⟨q_b_t (decide_eq_true (Or.inr h9)), rfl, rfl⟩
theorem q_bdec {P : Prop} [Decidable P] : q_b P = q_b (decide P = true) := by by_cases h : P <;> simp [q_b, h]
set_option maxRecDepth 100000 in
set_option maxHeartbeats 4000000 in
theorem c_digit (c : Int32) : q_Ct C l FX0_isDigit 1 142 142 [.int c] μ ρ (q_is (q_b (q_dg c = true)) μ ρ) := by
  refine q_entry rfl (by decide) (Nat.le_of_ble_eq_true rfl) ?_
  refine g_lv [(0, _)] rfl ?_
  refine g_iload_n 1 dX0_isDigit_0 rfl rfl ?_
  refine g_bipush 3 48 dX0_isDigit_1 rfl (by decide) ?_
  refine g_bipush 5 57 dX0_isDigit_3 rfl (by decide) ?_
  refine g_SNi 8 [_, _, _] _ dX0_isDigit_5 rfl m_X7_within l_X0_85 rfl (c_within _ _ _) rfl (Nat.le_of_ble_eq_true rfl) (by decide) (fun v5 μ5 ρ5 hc9 => ?_)
  obtain ⟨rfl, rfl, rfl⟩ := hc9
  exact g_rz dX0_isDigit_8 rfl q_b_01 rfl ⟨q_bdec.symm, rfl, rfl⟩
set_option maxRecDepth 100000 in
set_option maxHeartbeats 4000000 in
theorem c_letter (c : Int32) : q_Ct C l FX0_isLetter 1 142 142 [.int c] μ ρ (q_is (q_b (q_lt c = true)) μ ρ) := by
  refine q_entry rfl (by decide) (Nat.le_of_ble_eq_true rfl) ?_
  refine g_lv [(0, _)] rfl ?_
  refine g_iload_n 1 dX0_isLetter_0 rfl rfl ?_
  refine g_bipush 3 97 dX0_isLetter_1 rfl (by decide) ?_
  refine g_bipush 5 122 dX0_isLetter_3 rfl (by decide) ?_
  refine g_SNi 8 [_, _, _] _ dX0_isLetter_5 rfl m_X7_within l_X0_85 rfl (c_within _ _ _) rfl (Nat.le_of_ble_eq_true rfl) (by decide) (fun v5 μ5 ρ5 hc9 => ?_)
  obtain ⟨rfl, rfl, rfl⟩ := hc9
  refine g_if_ne 22 11 dX0_isLetter_8 rfl (by decide) (fun h8 => ?_) (fun h8 => ?_)
  · refine g_iconst 23 1 dX0_isLetter_22 rfl (by decide) ?_
    refine g_goto 27 dX0_isLetter_23 (by decide) ?_
    exact g_rz dX0_isLetter_27 rfl (by first | exact Or.inl rfl | exact Or.inr rfl | assumption) rfl ⟨q_b_t (decide_eq_true (Or.inl (q_b_n.mp h8))), rfl, rfl⟩
  · refine g_iload_n 12 dX0_isLetter_11 rfl rfl ?_
    refine g_bipush 14 65 dX0_isLetter_12 rfl (by decide) ?_
    refine g_bipush 16 90 dX0_isLetter_14 rfl (by decide) ?_
    refine g_SNi 19 [_, _, _] _ dX0_isLetter_16 rfl m_X7_within l_X0_85 rfl (c_within _ _ _) rfl (Nat.le_of_ble_eq_true rfl) (by decide) (fun v16 μ16 ρ16 hc9 => ?_)
    obtain ⟨rfl, rfl, rfl⟩ := hc9
    refine g_if_eq 26 22 dX0_isLetter_19 rfl (by decide) (fun h19 => ?_) (fun h19 => ?_)
    · refine g_iconst 27 0 dX0_isLetter_26 rfl (by decide) ?_
      exact g_rz dX0_isLetter_27 rfl (by first | exact Or.inl rfl | exact Or.inr rfl | assumption) rfl ⟨q_b_f (fun q => (of_decide_eq_true q).elim (q_b_0.mp h8) (q_b_0.mp h19)), rfl, rfl⟩
    · refine g_iconst 23 1 dX0_isLetter_22 rfl (by decide) ?_
      refine g_goto 27 dX0_isLetter_23 (by decide) ?_
      exact g_rz dX0_isLetter_27 rfl (by first | exact Or.inl rfl | exact Or.inr rfl | assumption) rfl ⟨q_b_t (decide_eq_true (Or.inr (q_b_n.mp h19))), rfl, rfl⟩
end SC
