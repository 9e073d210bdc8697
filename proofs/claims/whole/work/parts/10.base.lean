/-! THE ABSTRACT MACHINE: a heap of known cells, a frame with its locals by slots; one judgement (tp_Run) over the kit's W, one contract (tp_Met) over vx_Met. -/
abbrev tp_H : Type := Nat × (Nat → Option va_E)
abbrev tp_G : Type := va_G × Nat × (Nat → ClassId) × (Nat → Nat)
/-- a method: name, bytes, locals, what it returns, frames and local words that it may use, its table -/
abbrev tp_M : Type := MethodName × ByteArray × Nat × Option FieldType × Nat × Nat × List (Nat × Nat × Nat × Nat)
def tp_ty : Nat → FieldType := fun k => match k with
  | 0 => .int
  | 1 => .long
  | 2 => .double
  | 3 => .object RX0
  | 4 => .object RX1
  | 5 => .object RX3
  | _ => .object RX4
def tp_Tys (G : tp_G) : List (ClassId × FieldType) := [(G.2.2.1 0, tp_ty 0), (G.2.2.1 1, tp_ty 1), (G.2.2.1 2, tp_ty 2), (G.2.2.1 3, tp_ty 3), (G.2.2.1 4, tp_ty 4), (G.2.2.1 5, tp_ty 5), (G.2.2.1 6, tp_ty 6)]
def tp_A (G : tp_G) : Nat → Prop := fun q => G.2.1 ≤ q
def tp_Rep (G : tp_G) (h : tp_H) (H : Heap) : Prop := H.size = h.1 ∧ G.2.1 ≤ h.1 ∧ ∀ a e, h.2 a = some e → G.2.1 ≤ a ∧ va_at G.1 vwCl (a, e) H
def tp_up (f : Nat → Option va_E) (a : Nat) (e : va_E) : Nat → Option va_E := fun q => if q = a then some e else f q
def tp_nestC : List Cond := [.methodLinkNest RX0 50 yX1_init RX5, .methodLinkNest RX0 51 yX3_init RX5, .methodLinkNest RX5 26 yX2_init RX5]
def tp_nestF : List Cond := [.fieldLinkNest RX0 9 "TravelPurses" "FIRST_SETTINGS" "[I" RX5, .fieldLinkNest RX0 23 "TravelPurses" "FIRST_RATES" "[I" RX5]
def tp_cast : List (String × String) := [("[I", "java/lang/Cloneable"), ("java/lang/IndexOutOfBoundsException", "java/lang/IndexOutOfBoundsException"), ("java/lang/IllegalArgumentException", "java/lang/IllegalArgumentException"), ("java/lang/IllegalStateException", "java/lang/IllegalStateException")]
def tp_nocast : List (String × String) := [("java/lang/IllegalArgumentException", "java/lang/IndexOutOfBoundsException"), ("java/lang/IllegalStateException", "java/lang/IndexOutOfBoundsException"), ("java/lang/IllegalStateException", "java/lang/IllegalArgumentException")]
def tp_decl : List MethodName := [Bundle.initS "java/lang/RuntimeException", Bundle.initS "java/lang/Exception", Bundle.initS "java/lang/Throwable"]
def tp_over : List String := [RX0, RX1, RX3, RX4]
def tp_strs : List (Nat × String) := [(107, "the hold is refused"), (116, "amount below 1"), (126, "the payment is refused"), (146, "not plain, or too old"), (161, "not disputed"), (170, "the closing is refused"), (176, "days out of range"), (178, "the day would be too late"), (184, "no such setting"), (189, "value out of range"), (191, "code out of range"), (196, "the buffer is full"), (212, "not a complete row of orders"), (220, "no saved state"), (248, "no such property"), (277, "no such number"), (286, "amount out of range"), (293, "no such question"), (321, "no such wallet or currency"), (327, "home money has no rate"), (333, "no such hold"), (339, "no such payment"), (45, "too much home money"), (65, "no such foreign currency"), (70, "rate out of range"), (98, "the exchange is refused")]
def tp_st (k : Nat) : Nat → Int32 := fun j => match k, j with
  | 0, 0 => 7 | 0, 1 => 10 | 0, 2 => 20 | 0, _ => 5
  | 1, 0 => 1000 | 1, 1 => 1000 | 1, 2 => 1500 | 1, _ => 500
  | _, 0 => 60 | _, 1 => 100 | _, 2 => 50 | _, _ => 60
/-- a static table of four ints whose class is that of int arrays -/
def tp_Tb (t : Nat) (f : Nat → Int32) (A : Nat → Prop) (U : State) (H : Heap) : Prop := ∃ cell : Cell, H[t]? = some cell ∧ U.isArrayOf cell .int ∧ cell.vm ≠ .unknown ∧ U.vm.findClass "[I" = some cell.cls ∧ cell.slots.size = 4 ∧ (∀ j : Nat, j < 4 → cell.slots[j]? = some (.int (f j))) ∧ ¬ A t
theorem tp_Tb.moved {t : Nat} {f : Nat → Int32} {A : Nat → Prop} {u U : State} {H : Heap} (hvm : u.vm.Alike U.vm) (h : tp_Tb t f A u H) : tp_Tb t f A U H := by
  obtain ⟨cell, h1, h2, h3, h4, h5⟩ := h
  exact ⟨cell, h1, State.isArrayOf_alike hvm h2, h3, by rw [hvm.findClass]; exact h4, h5⟩
theorem tp_Tb.kept {t : Nat} {f : Nat → Int32} {A : Nat → Prop} {U : State} {H H1 : Heap} (h : tp_Tb t f A U H) (hq : ∀ a : Nat, a < H.size → ¬ A a → H1[a]? = H[a]?) : tp_Tb t f A U H1 := by
  obtain ⟨cell, h1, h2, h3, h4, h5, h6, h7⟩ := h
  exact ⟨cell, by rw [hq t (Array.getElem?_eq_some_iff.mp h1).1 h7]; exact h1, h2, h3, h4, h5, h6, h7⟩
/-- what stays as it was at the law's entry: statics, tables' words that are no good words -/
def tp_Fx (G : tp_G) (U : State) (H : Heap) : Prop :=
  (va_Z RX5 "FIRST_SETTINGS" "[I" (.ref (G.2.2.2 0)) (tp_A G) U H ∧ va_Z RX5 "FIRST_RATES" "[I" (.ref (G.2.2.2 1)) (tp_A G) U H ∧ va_Z RX5 "MOST_SETTINGS" "[I" (.ref (G.2.2.2 2)) (tp_A G) U H ∧ va_T .int (G.2.2.2 3) (G.2.2.2 4) (fun j => .int (nI (G.2.2.2 (5 + j)))) (tp_A G) U H) ∧
  ((∀ k, k < 3 → va_T .int (G.2.2.2 k) 4 (fun j => .int (tp_st k j)) (tp_A G) U H) ∧ ∀ k, k < 2 → tp_Tb (G.2.2.2 k) (tp_st k) (tp_A G) U H) ∧
  (vx_Zq Bundle.tN "UNASSIGNED_STACK" Bundle.steD (tp_A G) U H ∧ vx_Zq Bundle.tN "SUPPRESSED_SENTINEL" Bundle.listD (tp_A G) U H) ∧
  (∀ q ∈ tp_strs, ∃ sa, vk_R RX5 q.1 q.2 sa U) ∧ (∀ w ∈ tp_nestC, va_Nw w U) ∧ (∀ w ∈ tp_nestF, va_Nw w U) ∧ (∀ q ∈ tp_cast, va_Nw (.castable q.1 q.2) U) ∧ (∀ q ∈ tp_nocast, va_Nc q.1 q.2 U) ∧ (∀ C ∈ tp_over, va_AO C U) ∧ (∀ x ∈ tp_decl, va_Nw (.declares x) U)
theorem tp_Fx.moved {G : tp_G} {s U : State} {H : Heap} (hW : s.WarmedH U.vm) (h : tp_Fx G s H) : tp_Fx G U H := by
  obtain ⟨⟨a1, a2, a3, a4⟩, ⟨b, b2⟩, ⟨c1, c2⟩, d, e, f, g, i, j, k⟩ := h
  have hv := hW.alike
  refine ⟨⟨va_Z.moved hv a1, va_Z.moved hv a2, va_Z.moved hv a3, va_T.moved hv a4⟩, ⟨fun k hk => va_T.moved hv (b k hk), fun k hk => tp_Tb.moved hv (b2 k hk)⟩, ⟨vx_Zq.moved hv c1, vx_Zq.moved hv c2⟩, fun q hq => ?_, fun w hw => ?_, fun w hw => ?_, fun q hq => va_Nw.warmC hW (g q hq), fun q hq => va_Nc.moved hv (i q hq), fun C hC => va_AO.moved hv (j C hC), fun x hx => va_Nw.warmD hW (k x hx)⟩
  · obtain ⟨sa, hs⟩ := d q hq
    exact ⟨sa, vk_R.warm hW hs⟩
  · have := e w hw
    simp only [tp_nestC, List.mem_cons, List.not_mem_nil, or_false] at hw
    rcases hw with rfl | rfl | rfl <;> exact va_Nw.warmM hW this
  · have := f w hw
    simp only [tp_nestF, List.mem_cons, List.not_mem_nil, or_false] at hw
    rcases hw with rfl | rfl <;> exact va_Nw.warmF hW this
theorem tp_Fx.kept {G : tp_G} {U : State} {H H1 : Heap} (h : tp_Fx G U H) (hq : ∀ a : Nat, a < H.size → ¬ tp_A G a → H1[a]? = H[a]?) : tp_Fx G U H1 := by
  obtain ⟨⟨a1, a2, a3, a4⟩, ⟨b, b2⟩, ⟨c1, c2⟩, d⟩ := h
  exact ⟨⟨a1.kept hq, a2.kept hq, a3.kept hq, a4.kept hq⟩, ⟨fun k hk => (b k hk).kept hq, fun k hk => (b2 k hk).kept hq⟩, ⟨c1.kept hq, c2.kept hq⟩, d⟩
def tp_cw (M : tp_M) : Cond := match M.2.2.2.2.2.2 with
  | [] => .code M.1 M.2.1 M.2.2.1 M.2.2.2.1
  | hh => .codeWith M.1 M.2.1 M.2.2.1 M.2.2.2.1 hh
def tp_ws (M : tp_M) : List Cond := tp_cw M :: tp_all
def tp_rm (M : tp_M) (mc ms : Nat) : Room := { frames := M.2.2.2.2.1, cells := mc, slots := ms, locals := M.2.2.2.2.2.1 }
def tp_Pc (G : tp_G) (As : List Value) (h : tp_H) : Array Value → State → Prop := fun v U => v = As.toArray ∧ tp_Rep G h U.heap ∧ va_K G.1 vwCl (tp_Tys G) U ∧ tp_Fx G U U.heap
def tp_Qc (G : tp_G) (Post : Option Value → tp_H → Prop) : Array Value → State → Outcome → State → Prop := fun _ st o t => (∃ (r : Option Value) (h : tp_H), o = .returned r ∧ Post r h ∧ tp_Rep G h t.heap) ∧ va_F (tp_A G) st t
def tp_XC (G : tp_G) (PX : String → tp_H → Prop) : String → State → State → Prop := fun E st t => (∃ h : tp_H, PX E h ∧ tp_Rep G h t.heap) ∧ va_F (tp_A G) st t
/-- THE CONTRACT: from every state where the heap holds h, the method ends as Post (PX: throwing) says; at most mc cells of ms slots are new -/
def tp_Met (l : Launch) (G : tp_G) (M : tp_M) (mc ms : Nat) (As : List Value) (h : tp_H) (Post : Option Value → tp_H → Prop) (PX : String → tp_H → Prop) : Prop :=
  vx_Met l M.1 (tp_ws M) (tp_rm M mc ms) (tp_Pc G As h) (tp_Qc G Post) (tp_XC G PX) mc ms (tp_A G)
def tp_Act (l : Launch) (G : tp_G) (M : tp_M) (p : Program) (s : State) (m : MethodId) (args : Array Value) (meth : Method) (c : Code) : Prop :=
  p.tables.exec = Jvm.exec ∧ c.code = M.2.1 ∧ c.maxLocals = M.2.2.1 ∧ meth.sig.returnType = M.2.2.2.1 ∧ s.vm.findClass M.1.cls = some m.cls ∧ (∀ w ∈ tp_all, w.before args s = true) ∧ meth.locks = false ∧
  va_K G.1 vwCl (tp_Tys G) s ∧ tp_Fx G s s.heap ∧ meth.name = M.1.name ∧ c.exceptionTable.toList = tableOf M.2.2.2.2.2.2 ∧ l.stackTraces = false
/-- the locals by slots -/
def tp_pr : Nat → List (Option Value) → List (Nat × Value)
  | _, [] => []
  | i, none :: L => tp_pr (i + 1) L
  | i, some v :: L => (i, v) :: tp_pr (i + 1) L
theorem tp_pr_mem {j : Nat} {v : Value} : ∀ (L : List (Option Value)) (k : Nat), (j, v) ∈ tp_pr k L ↔ k ≤ j ∧ L[j - k]? = some (some v)
  | [], k => by simp [tp_pr]
  | none :: L, k => by
    rw [tp_pr, tp_pr_mem L (k + 1)]
    constructor
    · rintro ⟨h1, h2⟩
      refine ⟨by omega, ?_⟩
      rw [show j - k = (j - (k + 1)) + 1 by omega, List.getElem?_cons_succ]
      exact h2
    · rintro ⟨h1, h2⟩
      by_cases e : j = k
      · subst e
        simp at h2
      · rw [show j - k = (j - (k + 1)) + 1 by omega, List.getElem?_cons_succ] at h2
        exact ⟨by omega, h2⟩
  | some w :: L, k => by
    rw [tp_pr, List.mem_cons, tp_pr_mem L (k + 1)]
    constructor
    · rintro (h | ⟨h1, h2⟩)
      · cases h
        exact ⟨Nat.le_refl _, by simp⟩
      · refine ⟨by omega, ?_⟩
        rw [show j - k = (j - (k + 1)) + 1 by omega, List.getElem?_cons_succ]
        exact h2
    · rintro ⟨h1, h2⟩
      by_cases e : j = k
      · subst e
        simp at h2
        exact Or.inl (by rw [h2])
      · rw [show j - k = (j - (k + 1)) + 1 by omega, List.getElem?_cons_succ] at h2
        exact Or.inr ⟨by omega, h2⟩
def tp_Loc (ls : Array Slot) (n : Nat) (L : List (Option Value)) : Prop := lv_has ls n (tp_pr 0 L)
theorem tp_Loc.at {ls : Array Slot} {n : Nat} {L : List (Option Value)} (h : tp_Loc ls n L) {i : Nat} {v : Value} (hi : L[i]? = some (some v)) : ls[i]? = some (.val v) := h.2.2 (i, v) ((tp_pr_mem L 0).mpr ⟨Nat.zero_le _, hi⟩)
theorem tp_Loc.fewer {ls : Array Slot} {n : Nat} {L L' : List (Option Value)} (h : tp_Loc ls n L) (hs : ∀ (i : Nat) (v : Value), L'[i]? = some (some v) → L[i]? = some (some v)) : tp_Loc ls n L' :=
  ⟨h.1, h.2.1, fun q hq => by
    obtain ⟨j, v⟩ := q
    exact h.at (hs j v ((tp_pr_mem L' 0).mp hq).2)⟩
theorem tp_has {ls : Array Slot} {n : Nat} {L' : List (Option Value)} {l : List (Nat × Value)} (h : lv_has ls n l) (hs : ∀ (i : Nat) (v : Value), L'[i]? = some (some v) → (i, v) ∈ l) : tp_Loc ls n L' :=
  ⟨h.1, h.2.1, fun q hq => by
    obtain ⟨j, v⟩ := q
    exact h.2.2 (j, v) (hs j v ((tp_pr_mem L' 0).mp hq).2)⟩
def tp_c1 : Option Value → Bool
  | some v => !(v.category == 2)
  | none => true
/-- a value of one slot may be stored at i: no long stands just before it -/
def tp_ok (L : List (Option Value)) : Nat → Bool
  | 0 => true
  | i + 1 => tp_c1 ((L[i]?).getD none)
theorem tp_set1 {L : List (Option Value)} {i : Nat} {w : Value} (hok : tp_ok L i = true) (j : Nat) (v : Value) (h : (L.set i (some w))[j]? = some (some v)) :
    (j, v) ∈ (i, w) :: (tp_pr 0 L).filter (fun q => !(q.1 == i) && !(q.1 + 1 == i && q.2.category == 2)) := by
  by_cases e : j = i
  · subst e
    rw [List.getElem?_set] at h
    simp at h
    rw [h.2]
    exact List.mem_cons_self
  · rw [List.getElem?_set_ne (Ne.symm e)] at h
    refine List.mem_cons_of_mem _ (List.mem_filter.mpr ⟨(tp_pr_mem L 0).mpr ⟨Nat.zero_le _, h⟩, ?_⟩)
    have h1 : (j == i) = false := by simp [e]
    have h2 : (j + 1 == i && v.category == 2) = false := by
      by_cases e2 : j + 1 = i
      · subst e2
        simp only [tp_ok, h, Option.getD_some, tp_c1, Bool.not_eq_true'] at hok
        rw [hok, Bool.and_false]
      · simp [e2]
    simp only [h1, h2, Bool.not_false, Bool.and_self]
theorem tp_set2 {L : List (Option Value)} {i : Nat} {w : Value} (hok : tp_ok L i = true) (j : Nat) (v : Value) (h : ((L.set i (some w)).set (i + 1) none)[j]? = some (some v)) :
    (j, v) ∈ (i, w) :: (tp_pr 0 L).filter (fun q => !(q.1 == i) && (!(q.1 == i + 1) && !(q.1 + 1 == i && q.2.category == 2))) := by
  by_cases e3 : j = i + 1
  · subst e3
    rw [List.getElem?_set] at h
    simp at h
  rw [List.getElem?_set_ne (Ne.symm e3)] at h
  by_cases e : j = i
  · subst e
    rw [List.getElem?_set] at h
    simp at h
    rw [h.2]
    exact List.mem_cons_self
  · rw [List.getElem?_set_ne (Ne.symm e)] at h
    refine List.mem_cons_of_mem _ (List.mem_filter.mpr ⟨(tp_pr_mem L 0).mpr ⟨Nat.zero_le _, h⟩, ?_⟩)
    have h1 : (j == i) = false := by simp [e]
    have h3 : (j == i + 1) = false := by simp [e3]
    have h2 : (j + 1 == i && v.category == 2) = false := by
      by_cases e2 : j + 1 = i
      · subst e2
        simp only [tp_ok, h, Option.getD_some, tp_c1, Bool.not_eq_true'] at hok
        rw [hok, Bool.and_false]
      · simp [e2]
    simp only [h1, h2, h3, Bool.not_false, Bool.and_self]
abbrev tp_Q : Type := List Frame → Array Value → State → State → Prop
def tp_QM (G : tp_G) (mc ms : Nat) (Post : Option Value → tp_H → Prop) (PX : String → tp_H → Prop) : tp_Q := fun below args s => vx_MQ below (tp_Qc G Post) (tp_XC G PX) args s mc ms (tp_A G)
/-- THE JUDGEMENT: a frame of the method M, over the heap h, with k cells of n slots made so far, comes to an end with Q -/
def tp_Run (l : Launch) (G : tp_G) (M : tp_M) (R : Room) (Q : tp_Q) (k n : Nat) (h : tp_H) (pc : Nat) (L : List (Option Value)) (st : List Value) : Prop :=
  ∀ (p : Program) (e : Env) (s : State) (m : MethodId) (args : Array Value) (below : List Frame) (meth : Method) (c : Code), tp_Act l G M p s m args meth c → ∀ (H : Heap) (locs : List Loc) (ls : Array Slot), tp_Rep G h H → va_S (tp_A G) s.heap H locs → tp_Loc ls M.2.2.1 L →
    W p l e R s m args below meth c H locs k n (Q below args s) (F0 m pc ls st)
/-- .. with an exception of class E thrown over it -/
def tp_RunX (l : Launch) (G : tp_G) (M : tp_M) (R : Room) (Q : tp_Q) (k n : Nat) (h : tp_H) (pc : Nat) (L : List (Option Value)) (st : List Value) (E : String) : Prop :=
  ∀ (p : Program) (e : Env) (s : State) (m : MethodId) (args : Array Value) (below : List Frame) (meth : Method) (c : Code), tp_Act l G M p s m args meth c → ∀ (H : Heap) (locs : List Loc) (ls : Array Slot) (q : Addr) (ce : Cell), tp_Rep G h H → va_S (tp_A G) s.heap H locs → tp_Loc ls M.2.2.1 L → H[q]? = some ce → ce.vm = .none → s.vm.findClass E = some ce.cls →
    vx_W p l e R s m args below meth c H locs k n (Q below args s) (F0 m pc ls st) q
