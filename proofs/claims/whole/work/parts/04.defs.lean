/-! ===== the system's state: cells by number, ints and references apart ===== -/
abbrev q_M : Type := Nat → Nat → Int32
abbrev q_R : Type := Nat → Nat → Option Nat
abbrev q_F : Type := MethodName × ByteArray × Nat × Option FieldType
/-- the first address; addresses of static arrays and String constants; of Strings' bytes; class numbers; slots; array classes -/
abbrev q_C : Type := Nat × (Nat → Nat) × (Nat → Nat) × (Nat → ClassId) × (Nat → Nat → Nat) × (Nat → ClassId)
def q_a (C : q_C) (c : Nat) : Nat := C.1 + c
def q_x (C : q_C) (c : Nat) : Nat := C.2.1 c
def q_A (C : q_C) : Nat → Prop := fun q => C.1 ≤ q
abbrev q_D (C : q_C) : va_G := (C.2.2.2.1, C.2.2.2.2.1)
abbrev q_cA (C : q_C) (k : Nat) : ClassId := C.2.2.2.2.2 k
abbrev q_tys (C : q_C) : List (ClassId × FieldType) := [(q_cA C 0, .byte), (q_cA C 1, .int), (q_cA C 2, .array .int)]
def q_kl : List (Nat × Nat) := [(7, 10), (1, 2), (10, 7), (10, 7), (4, 4), (10, 10), (10, 10), (10, 10), (6, 2), (9, 600), (0, 6), (3, 9), (11, 7), (10, 10), (10, 10), (10, 10), (10, 10), (10, 10), (10, 10), (10, 10), (11, 7), (10, 10), (10, 10), (10, 10), (10, 10), (10, 10), (10, 10), (10, 10), (11, 7), (10, 10), (10, 10), (10, 10), (10, 10), (10, 10), (10, 10), (10, 10), (11, 7), (10, 10), (10, 10), (10, 10), (10, 10), (10, 10), (10, 10), (10, 10), (11, 7), (10, 10), (10, 10), (10, 10), (10, 10), (10, 10), (10, 10), (10, 10), (11, 7), (10, 10), (10, 10), (10, 10), (10, 10), (10, 10), (10, 10), (10, 10), (10, 7), (10, 7), (10, 7), (2, 8), (10, 8), (10, 8), (10, 8), (10, 8), (10, 7), (10, 5), (5, 5), (10, 7), (11, 7), (10, 4), (10, 4), (10, 4), (10, 4), (10, 4), (10, 4), (10, 4), (11, 7), (10, 4), (10, 4), (10, 4), (10, 4), (10, 4), (10, 4), (10, 4), (11, 7), (10, 4), (10, 4), (10, 4), (10, 4), (10, 4), (10, 4), (10, 4), (5, 5), (10, 7), (11, 7), (10, 4), (10, 4), (10, 4), (10, 4), (10, 4), (10, 4), (10, 4), (11, 7), (10, 4), (10, 4), (10, 4), (10, 4), (10, 4), (10, 4), (10, 4), (11, 7), (10, 4), (10, 4), (10, 4), (10, 4), (10, 4), (10, 4), (10, 4), (8, 30), (10, 8), (10, 7), (10, 10), (10, 10), (10, 10), (10, 5), (10, 7), (10, 84), (10, 7), (10, 84), (10, 600), (10, 70), (10, 70), (10, 70), (10, 70), (10, 7), (10, 8), (10, 8), (10, 8)]
/-- a cell's kind (0 .. 8 the classes, 9 bytes, 10 ints, 11 rows of ints) and how many places it has -/
def q_kd (c : Nat) : Nat × Nat := q_kl.getD c (12, 0)
def q_sl (n : Nat) : Nat := ((q_kl.take n).map (fun q => q.2)).sum
def q_rl : List (List Nat) := [[], [0, 1], [0, 1, 2, 4, 5], [0, 1, 2, 3, 4, 5, 6, 7, 8], [0, 1, 2], [0, 1, 2, 3], [0], [0, 1, 2, 3, 4, 5, 6, 7, 8], [1, 2, 3, 4, 5, 6, 7, 8, 9, 10, 11, 22, 23, 24, 25, 26, 27, 28, 29]]
def q_isr (ci k : Nat) : Bool := ci == 11 || (q_rl.getD ci []).contains k
def q_V (C : q_C) (μ : q_M) (ρ : q_R) (c k : Nat) : Value := if q_isr (q_kd c).1 k = true then va_rf ((ρ c k).map (q_a C)) else .int (μ c k)
def q_at (C : q_C) (c : Nat) (V : Nat → Value) (H : Heap) : Prop :=
  if (q_kd c).1 < 9 then t_OB (q_a C c) ((q_D C).1 (q_kd c).1) (q_kd c).2 ((q_D C).2 (q_kd c).1) H V
  else H[q_a C c]? = some (arrV (q_cA C ((q_kd c).1 - 9)) (q_kd c).2 V)
def q_H (C : q_C) (n : Nat) (μ : q_M) (ρ : q_R) (H : Heap) : Prop := H.size = C.1 + n ∧ ∀ c, c < n → q_at C c (q_V C μ ρ c) H
def q_up {α : Type} (f : Nat → Nat → α) (c k : Nat) (v : α) : Nat → Nat → α := fun c' k' => if c' = c ∧ k' = k then v else f c' k'
theorem q_sl_mono {a b : Nat} (h : a ≤ b) : q_sl a ≤ q_sl b := by
  obtain ⟨k, rfl⟩ := Nat.le.dest h
  unfold q_sl
  rw [List.take_add, List.map_append, List.sum_append]
  exact Nat.le_add_right _ _
theorem q_at.kept {C : q_C} {c : Nat} {V : Nat → Value} {H H1 : Heap} (h : q_at C c V H) (e : H1[q_a C c]? = H[q_a C c]?) : q_at C c V H1 := by
  unfold q_at at h ⊢
  by_cases hk : (q_kd c).1 < 9
  · rw [if_pos hk] at h ⊢
    exact h.kept e
  · rw [if_neg hk] at h ⊢
    rw [e]
    exact h
theorem q_Vs {C : q_C} {μ : q_M} {ρ : q_R} {c k : Nat} {x : Int32} (hr : q_isr (q_kd c).1 k = false) : q_V C (q_up μ c k x) ρ c = updV (q_V C μ ρ c) k (.int x) := by
  funext j
  by_cases hj : j = k
  · subst hj
    simp [q_V, updV, q_up, hr]
  · simp [q_V, updV, q_up, hj]
theorem q_Vsr {C : q_C} {μ : q_M} {ρ : q_R} {c k r : Nat} (hr : q_isr (q_kd c).1 k = true) : q_V C μ (q_up ρ c k (some r)) c = updV (q_V C μ ρ c) k (.ref (q_a C r)) := by
  funext j
  by_cases hj : j = k
  · subst hj
    simp [q_V, updV, q_up, hr, va_rf]
  · simp [q_V, updV, q_up, hj]
theorem q_H.setI {C : q_C} {n : Nat} {μ : q_M} {ρ : q_R} {H H1 : Heap} {c k : Nat} {x : Int32} (h : q_H C n μ ρ H) (z : H1.size = H.size) (oq : ∀ q, q ≠ q_a C c → H1[q]? = H[q]?) (hr : q_isr (q_kd c).1 k = false) (ha : q_at C c (updV (q_V C μ ρ c) k (.int x)) H1) : q_H C n (q_up μ c k x) ρ H1 := by
  refine ⟨by rw [z]; exact h.1, fun c' hc' => ?_⟩
  by_cases e : c' = c
  · subst e
    rw [q_Vs hr]
    exact ha
  · have e2 : q_V C (q_up μ c k x) ρ c' = q_V C μ ρ c' := by
      funext j
      simp [q_V, q_up, e]
    rw [e2]
    exact (h.2 c' hc').kept (oq _ (by unfold q_a; omega))
theorem q_H.setR {C : q_C} {n : Nat} {μ : q_M} {ρ : q_R} {H H1 : Heap} {c k r : Nat} (h : q_H C n μ ρ H) (z : H1.size = H.size) (oq : ∀ q, q ≠ q_a C c → H1[q]? = H[q]?) (hr : q_isr (q_kd c).1 k = true) (ha : q_at C c (updV (q_V C μ ρ c) k (.ref (q_a C r))) H1) : q_H C n μ (q_up ρ c k (some r)) H1 := by
  refine ⟨by rw [z]; exact h.1, fun c' hc' => ?_⟩
  by_cases e : c' = c
  · subst e
    rw [q_Vsr hr]
    exact ha
  · have e2 : q_V C μ (q_up ρ c k (some r)) c' = q_V C μ ρ c' := by
      funext j
      simp [q_V, q_up, e]
    rw [e2]
    exact (h.2 c' hc').kept (oq _ (by unfold q_a; omega))
/-! ===== words ===== -/
def q_T : List Cond := lw_tbl.filter goodWord
theorem q_mm (i : Nat) {w : Cond} (h : lw_tbl[i]? = some w) (g : goodWord w = true) : w ∈ q_T := List.mem_filter.mpr ⟨List.mem_of_getElem? h, g⟩
theorem q_ms {ws : List Cond} (is : List Nat) (h : is.map (fun i => lw_tbl[i]?) = ws.map some) (g : ws.all goodWord = true) : ∀ w ∈ ws, w ∈ q_T := by
  intro w hw
  obtain ⟨k, hk⟩ := List.getElem?_of_mem hw
  have h1 : (is.map (fun i => lw_tbl[i]?))[k]? = some (some w) := by rw [h, List.getElem?_map, hk]; rfl
  rw [List.getElem?_map] at h1
  cases hi : is[k]? with
  | none => rw [hi] at h1; cases h1
  | some i => rw [hi] at h1; exact q_mm i (Option.some.inj h1) (List.all_eq_true.mp g w hw)
theorem q_good {big : List Cond} (h : ∀ w ∈ q_T, w ∈ big) : GoodIn big q_T := fun w hw => ⟨h w hw, good_of_word (List.mem_filter.mp hw).2⟩

def q_nest : List Cond := [(Jvm.Cond.methodLinkNest "DesertTown" (11 : Nat) ({ cls := "DesertTown$Course", name := "<init>", desc := "()V" } : Jvm.MethodName) "DesertTown"), (Jvm.Cond.methodLinkNest "DesertTown" (18 : Nat) ({ cls := "DesertTown$Racers", name := "<init>", desc := "()V" } : Jvm.MethodName) "DesertTown"), (Jvm.Cond.methodLinkNest "DesertTown" (25 : Nat) ({ cls := "DesertTown$Tape", name := "<init>", desc := "()V" } : Jvm.MethodName) "DesertTown"), (Jvm.Cond.methodLinkNest "DesertTown" (32 : Nat) ({ cls := "DesertTown$BookReader", name := "<init>", desc := "()V" } : Jvm.MethodName) "DesertTown"), (Jvm.Cond.methodLinkNest "DesertTown" (39 : Nat) ({ cls := "DesertTown$Race", name := "<init>", desc := "()V" } : Jvm.MethodName) "DesertTown"), (Jvm.Cond.methodLinkNest "DesertTown" (46 : Nat) ({ cls := "DesertTown$Kitchens", name := "<init>", desc := "()V" } : Jvm.MethodName) "DesertTown"), (Jvm.Cond.methodLinkNest "DesertTown" (57 : Nat) ({ cls := "DesertTown$RoadBook", name := "<init>", desc := "()V" } : Jvm.MethodName) "DesertTown"), (Jvm.Cond.methodLinkNest "DesertTown$Racers" (25 : Nat) ({ cls := "DesertTown", name := "within", desc := "(III)Z" } : Jvm.MethodName) "DesertTown"), (Jvm.Cond.methodLinkNest "DesertTown$Tape" (19 : Nat) ({ cls := "DesertTown", name := "within", desc := "(III)Z" } : Jvm.MethodName) "DesertTown"), (Jvm.Cond.methodLinkNest "DesertTown$BookReader" (85 : Nat) ({ cls := "DesertTown", name := "within", desc := "(III)Z" } : Jvm.MethodName) "DesertTown"), (Jvm.Cond.methodLinkNest "DesertTown$RoadBook" (30 : Nat) ({ cls := "DesertTown", name := "isStage", desc := "(I)Z" } : Jvm.MethodName) "DesertTown"), (Jvm.Cond.methodLinkNest "DesertTown$BookReader" (75 : Nat) ({ cls := "DesertTown", name := "isStage", desc := "(I)Z" } : Jvm.MethodName) "DesertTown"), (Jvm.Cond.methodLinkNest "DesertTown$RoadBook" (34 : Nat) ({ cls := "DesertTown", name := "within", desc := "(III)Z" } : Jvm.MethodName) "DesertTown"), (Jvm.Cond.methodLinkNest "DesertTown$Course" (18 : Nat) ({ cls := "DesertTown", name := "isStage", desc := "(I)Z" } : Jvm.MethodName) "DesertTown"), (Jvm.Cond.methodLinkNest "DesertTown$Race" (112 : Nat) ({ cls := "DesertTown", name := "divideUpwards", desc := "(JJ)I" } : Jvm.MethodName) "DesertTown"), (Jvm.Cond.methodLinkNest "DesertTown$Race" (73 : Nat) ({ cls := "DesertTown", name := "isStage", desc := "(I)Z" } : Jvm.MethodName) "DesertTown"), (Jvm.Cond.methodLinkNest "DesertTown$Kitchens" (66 : Nat) ({ cls := "DesertTown", name := "minutesFor", desc := "(II)I" } : Jvm.MethodName) "DesertTown")]
theorem q_nestM : ∀ w ∈ q_nest, ∀ (s U : State), s.WarmedH U.vm → va_Nw w s → va_Nw w U := by
  intro w hw s U hW h
  simp only [q_nest, List.mem_cons, List.not_mem_nil, or_false] at hw
  rcases hw with rfl | rfl | rfl | rfl | rfl | rfl | rfl | rfl | rfl | rfl | rfl | rfl | rfl | rfl | rfl | rfl | rfl <;> exact va_Nw.warmM hW h
theorem q_nestT : ∀ w ∈ q_nest, w.onTables = true := by decide +kernel
def q_fld (own : String) (idx ci N k : Nat) (ty : FieldType) (fin : Bool) : Prop := ∃ (E : String) (T : u_T) (tys : Nat → FieldType), vwCl[ci]? = some (E, T, N) ∧ (∀ w ∈ u_ws E T N, w ∈ q_T) ∧ (∀ k, k < N → parseFieldDescriptor (T k).2.2.1 = some (tys k)) ∧ (∀ a, a < N → ∀ b, b < N → a ≠ b → (T a).2.1 ≠ (T b).2.1) ∧ k < N ∧ Cond.fieldLink own idx (T k).1 (T k).2.1 (T k).2.2.1 ∈ q_T ∧ tys k = ty ∧ (T k).2.2.2 = fin ∧ (T k).1 = E
def q_cls (own : String) (idx ci N : Nat) : Prop := ∃ (E : String) (T : u_T) (tys : Nat → FieldType), vwCl[ci]? = some (E, T, N) ∧ (∀ w ∈ u_ws E T N, w ∈ q_T) ∧ (∀ k, k < N → parseFieldDescriptor (T k).2.2.1 = some (tys k)) ∧ Cond.classLink own idx E ∈ q_T ∧ Cond.instantiable E N ∈ q_T ∧ Cond.initialized E ∈ q_T ∧ (∀ k, k < N → defaultValue (tys k) = if q_isr ci k = true then .null else .int 0)
def q_mt (F : q_F) (np : Nat) : Prop := Cond.code F.1 F.2.1 F.2.2.1 F.2.2.2 ∈ q_T ∧ Cond.initialized F.1.cls ∈ q_T ∧ (F.1.cls ≠ "java/lang/invoke/MethodHandle" ∧ F.1.cls ≠ "java/lang/invoke/VarHandle" ∧ (parseMethodDescriptor F.1.desc).map (fun d => d.parameters.length) = some np) ∧ F.2.2.1 ≤ 40
