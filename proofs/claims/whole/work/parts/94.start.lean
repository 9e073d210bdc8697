/-! THE START: what the Statement gives, as the walk needs it -/
theorem tp_kn {own : String} {ix ci : Nat} {s : State} {args : Array Value} (hf : tp_NL own ix ci) (htp : ∀ w ∈ tp_all, w.before args s = true) : ∃ (cC : ClassId) (iS : Nat → Nat), ∀ q, vwCl[ci]? = some q → u_Kn s q.1 q.2.1 q.2.2 cC iS := by
  obtain ⟨C, T, N, ty0, h1, h2, h3, h4, h5, h6⟩ := hf
  obtain ⟨cC, iS, h⟩ := u_known htp h5 (htp _ h3)
  refine ⟨cC, iS, fun q hq => ?_⟩
  rw [h1] at hq
  cases hq
  exact h
theorem tp_arP {s : State} {args : Array Value} {ty : FieldType} (h : (Cond.arrayClass ty).before args s = true) (hty : ∀ C, ty ≠ .object C) : ∃ cA, ArrOfT s cA ty ∧ s.vm.findClass ("[" ++ ty.toString) = some cA := by
  obtain ⟨c, k, comp, h1, h2, h3⟩ := Cond.arrayClass_spec h
  exact ⟨c, fun n z => ⟨fun k h => (by cases h), k, h2, comp, h3⟩, h1⟩
theorem tp_arO {s : State} {args : Array Value} {C : String} (h : (Cond.arrayOver (.object C)).before args s = true) : ∃ cA, ArrOfT s cA (.object C) ∧ va_RA s cA (.object C) := by
  obtain ⟨comp, c, k, h1, h2, h3, h4, h5⟩ := Cond.arrayOver_spec h
  exact ⟨c, fun n z => ⟨fun k h => (by cases h), k, h3, comp, h4⟩, k, comp, h3, h4, h1, h5⟩
theorem nI_toNat (x : Int32) : nI x.toBitVec.toNat = x := by
  show Int32.ofNat _ = x
  apply Int32.toBitVec_inj.mp
  rw [Int32.toBitVec_ofNat']
  simp
/-- a static table of four ints -/
theorem tp_tab {s : State} {args : Array Value} {n : String} {f : Nat → Int32} {A : Nat → Prop} (hlay : (Cond.laysStatic RX5 n "[I").before args s = true) (hini : (Cond.initialized RX5).before args s = true) (h1 : (Cond.arrayOf (.static RX5 n "[I") .int).before args s = true) (h2 : (Cond.eq (.length (.static RX5 n "[I")) (.int 4)).before args s = true) (h3 : ∀ j, j < 4 → (Cond.eq (.elem (.static RX5 n "[I") (.int (Int32.ofNat j))) (.int (f j))).before args s = true) (h4 : (Cond.exactly (.static RX5 n "[I") "[I").before args s = true) (hA : ∀ a : Nat, a < s.heap.size → ¬ A a) : ∃ t, va_Z RX5 n "[I" (.ref t) A s s.heap ∧ va_T .int t 4 (fun j => .int (f j)) A s s.heap ∧ tp_Tb t f A s s.heap := by
  obtain ⟨t, ht, hT⟩ := va_Tof (ty := .int) (N := 4) (f := fun j => .int (f j)) (A := A) (by omega) h1 (va_eqt h2) (fun j hj => va_eqt (h3 j hj)) hA
  refine ⟨t, va_Zref hlay hini ht hA, hT, ?_⟩
  obtain ⟨a, c, cA, kA, q1, q2, q3, q4, q5, q6, -⟩ := Cond.exactly_spec (args := args) (first := s) (o := none) (s := s) (idx := []) h4
  obtain ⟨a2, cell, r1, r2, r3⟩ := Term.length_spec (va_eqt h2)
  cases q1.symm.trans ht
  cases r1.symm.trans ht
  have hsz : cell.slots.size < 2 ^ 31 := by
    have hl := va_eqt h2
    unfold Term.eval at hl
    rw [ht] at hl
    simp only [Option.bind_eq_bind, Option.bind_some, r2] at hl
    by_cases q : cell.slots.size < 2 ^ 31
    · exact q
    · rw [if_neg q] at hl
      cases hl
  obtain ⟨e1, e2, e3, e4⟩ := State.arrayAt?_spec r2
  cases e1.symm.trans q3
  obtain ⟨cell2, t1, t2, t3, t4, t5, t6, t7⟩ := hT
  cases t1.symm.trans e1
  refine ⟨_, e1, t2, e2, by rw [q6]; exact q2, ?_, t6, t7⟩
  injection r3 with r3
  exact ((tp_eq (a := 4) (by omega) hsz).mp r3).symm
set_option maxRecDepth 100000 in
set_option maxHeartbeats 4000000 in
theorem tp_words {s : State} {args : Array Value} (hts : ∀ w ∈ lw_tbl, w.before args s = true) : (∀ w ∈ tp_nestC, va_Nw w s) ∧ (∀ w ∈ tp_nestF, va_Nw w s) ∧ (∀ q ∈ tp_cast, va_Nw (.castable q.1 q.2) s) ∧ (∀ C ∈ tp_over, va_AO C s) ∧ (∀ x ∈ tp_decl, va_Nw (.declares x) s) ∧ (∀ q ∈ tp_strs, (Cond.stringRef RX5 q.1 q.2).before args s = true) := by
  refine ⟨fun w hw => ?_, fun w hw => ?_, fun q hq => ?_, fun C hC => ?_, fun x hx => ?_, fun q hq => ?_⟩
  · have h1 : ∀ w ∈ tp_nestC, w ∈ lw_tbl ∧ w.onTables = true := by decide +kernel
    exact va_Nw.of (h1 w hw).2 (hts w (h1 w hw).1)
  · have h1 : ∀ w ∈ tp_nestF, w ∈ lw_tbl ∧ w.onTables = true := by decide +kernel
    exact va_Nw.of (h1 w hw).2 (hts w (h1 w hw).1)
  · have h1 : ∀ q ∈ tp_cast, Cond.castable q.1 q.2 ∈ lw_tbl := by decide +kernel
    exact va_Nw.of rfl (hts _ (h1 q hq))
  · have h1 : ∀ C ∈ tp_over, Cond.arrayOver (.object C) ∈ lw_tbl := by decide +kernel
    exact va_AO.of (hts _ (h1 C hC))
  · have h1 : ∀ x ∈ tp_decl, Cond.declares x ∈ lw_tbl := by decide +kernel
    exact va_Nw.of rfl (hts _ (h1 x hx))
  · have h1 : ∀ q ∈ tp_strs, Cond.stringRef RX5 q.1 q.2 ∈ lw_tbl := by decide +kernel
    exact hts _ (h1 q hq)
set_option maxRecDepth 100000 in
set_option maxHeartbeats 4000000 in
theorem tp_given {s : State} {args : Array Value} (hgv : (Jvm.Cond.and given_1 narrow_1).before args s = true) : (∀ q ∈ tp_nocast, va_Nc q.1 q.2 s) ∧ (∀ q ∈ tp_strs, ∃ sa, (Term.string RX5 q.1).eval args s none [] s = some (.ref sa)) ∧ ((Cond.isRef (.static Bundle.tN "UNASSIGNED_STACK" Bundle.steD)).before args s = true ∧ (Cond.isRef (.static Bundle.tN "SUPPRESSED_SENTINEL" Bundle.listD)).before args s = true) ∧
    ∀ k, k < 3 → (Cond.arrayOf (.static RX5 (["FIRST_SETTINGS", "FIRST_RATES", "MOST_SETTINGS"].getD k "") "[I") .int).before args s = true ∧ (Cond.eq (.length (.static RX5 (["FIRST_SETTINGS", "FIRST_RATES", "MOST_SETTINGS"].getD k "") "[I")) (.int 4)).before args s = true ∧ (∀ j, j < 4 → (Cond.eq (.elem (.static RX5 (["FIRST_SETTINGS", "FIRST_RATES", "MOST_SETTINGS"].getD k "") "[I") (.int (Int32.ofNat j))) (.int (tp_st k j))).before args s = true) ∧ (Cond.exactly (.static RX5 (["FIRST_SETTINGS", "FIRST_RATES", "MOST_SETTINGS"].getD k "") "[I") "[I").before args s = true := by
  have hs := flat_of_before _ hgv
  refine ⟨fun q hq => ?_, fun q hq => ?_, ⟨hs _ (by decide +kernel), hs _ (by decide +kernel)⟩, fun k hk => ?_⟩
  · simp only [tp_nocast, List.mem_cons, List.not_mem_nil, or_false] at hq
    rcases hq with rfl | rfl | rfl
    · exact va_Nc.of (hs _ (by decide +kernel))
    · exact va_Nc.of (hs _ (by decide +kernel))
    · exact va_Nc.of (hs _ (by decide +kernel))
  · have h1 : (Cond.exactly (.string RX5 q.1) "java/lang/String").before args s = true := by
      simp only [tp_strs, List.mem_cons, List.not_mem_nil, or_false] at hq
      rcases hq with rfl | rfl | rfl | rfl | rfl | rfl | rfl | rfl | rfl | rfl | rfl | rfl | rfl | rfl | rfl | rfl | rfl | rfl | rfl | rfl | rfl | rfl | rfl | rfl | rfl | rfl
      all_goals exact hs _ (by decide +kernel)
    obtain ⟨a, c, cA, kA, q1, -⟩ := Cond.exactly_spec (args := args) (first := s) (o := none) (s := s) (idx := []) h1
    exact ⟨a, q1⟩
  · rcases (show k = 0 ∨ k = 1 ∨ k = 2 by omega) with rfl | rfl | rfl
    · refine ⟨hs _ (by decide +kernel), hs _ (by decide +kernel), fun j hj => ?_, hs _ (by decide +kernel)⟩
      rcases (show j = 0 ∨ j = 1 ∨ j = 2 ∨ j = 3 by omega) with rfl | rfl | rfl | rfl <;> exact hs _ (by decide +kernel)
    · refine ⟨hs _ (by decide +kernel), hs _ (by decide +kernel), fun j hj => ?_, hs _ (by decide +kernel)⟩
      rcases (show j = 0 ∨ j = 1 ∨ j = 2 ∨ j = 3 by omega) with rfl | rfl | rfl | rfl <;> exact hs _ (by decide +kernel)
    · refine ⟨hs _ (by decide +kernel), hs _ (by decide +kernel), fun j hj => ?_, hs _ (by decide +kernel)⟩
      rcases (show j = 0 ∨ j = 1 ∨ j = 2 ∨ j = 3 by omega) with rfl | rfl | rfl | rfl <;> exact hs _ (by decide +kernel)
set_option maxRecDepth 100000 in
set_option maxHeartbeats 4000000 in
theorem tp_G0 {s : State} {args : Array Value} {b L : Nat} {xs : Nat → Int32} (hts : ∀ w ∈ lw_tbl, w.before args s = true) (hgv : (Jvm.Cond.and given_1 narrow_1).before args s = true) (hX : va_X b L xs s s.heap) (hbl : b < s.heap.size) : ∃ G : tp_G, G.2.1 = s.heap.size ∧ (G.2.2.2 3 = b ∧ G.2.2.2 4 = L) ∧ va_K G.1 vwCl (tp_Tys G) s ∧ tp_Fx G s s.heap := by
  have htp : ∀ w ∈ tp_all, w.before args s = true := fun w hw => hts w (List.mem_filter.mp hw).1
  have hA : ∀ a : Nat, a < s.heap.size → ¬ (fun q : Nat => s.heap.size ≤ q) a := fun a h => Nat.not_le.mpr h
  obtain ⟨w1, w2, w3, w4, w5, w6⟩ := tp_words hts
  obtain ⟨v1, v2, ⟨v3, v4⟩, v5⟩ := tp_given hgv
  have hini : (Cond.initialized RX5).before args s = true := hts _ (by decide +kernel)
  obtain ⟨g1, g2, g3, g4⟩ := v5 0 (by omega)
  obtain ⟨t0, z0, y0, x0⟩ := tp_tab (f := tp_st 0) (n := "FIRST_SETTINGS") (hts _ (by decide +kernel)) hini g1 g2 g3 g4 hA
  obtain ⟨g1, g2, g3, g4⟩ := v5 1 (by omega)
  obtain ⟨t1, z1, y1, x1⟩ := tp_tab (f := tp_st 1) (n := "FIRST_RATES") (hts _ (by decide +kernel)) hini g1 g2 g3 g4 hA
  obtain ⟨g1, g2, g3, g4⟩ := v5 2 (by omega)
  obtain ⟨t2, z2, y2, x2⟩ := tp_tab (f := tp_st 2) (n := "MOST_SETTINGS") (hts _ (by decide +kernel)) hini g1 g2 g3 g4 hA
  obtain ⟨c0, i0, k0⟩ := tp_kn n_X5_7 htp
  obtain ⟨c1, i1, k1⟩ := tp_kn n_X0_35 htp
  obtain ⟨c2, i2, k2⟩ := tp_kn n_X5_24 htp
  obtain ⟨c3, i3, k3⟩ := tp_kn n_X0_41 htp
  obtain ⟨c4, i4, k4⟩ := tp_kn n_X0_29 htp
  obtain ⟨c5, i5, k5⟩ := tp_kn n_L_8 htp
  obtain ⟨c6, i6, k6⟩ := tp_kn n_L_102 htp
  obtain ⟨a0, m0, l0⟩ := tp_arP (htp _ ac_int) (fun C h => by cases h)
  obtain ⟨a1, m1, l1⟩ := tp_arP (htp _ ac_long) (fun C h => by cases h)
  obtain ⟨a2, m2, l2⟩ := tp_arP (htp _ ac_double) (fun C h => by cases h)
  obtain ⟨a3, m3, l3⟩ := tp_arO (C := RX0) (va_AO.use (A := args) (w4 _ (List.Mem.head _)))
  obtain ⟨a4, m4, l4⟩ := tp_arO (C := RX1) (va_AO.use (A := args) (w4 _ (List.Mem.tail _ (List.Mem.head _))))
  obtain ⟨a5, m5, l5⟩ := tp_arO (C := RX3) (va_AO.use (A := args) (w4 _ (List.Mem.tail _ (List.Mem.tail _ (List.Mem.head _)))))
  obtain ⟨a6, m6, l6⟩ := tp_arO (C := RX4) (va_AO.use (A := args) (w4 _ (List.Mem.tail _ (List.Mem.tail _ (List.Mem.tail _ (List.Mem.head _))))))
  refine ⟨((fun k => match k with | 0 => c0 | 1 => c1 | 2 => c2 | 3 => c3 | 4 => c4 | 5 => c5 | _ => c6, fun k => match k with | 0 => i0 | 1 => i1 | 2 => i2 | 3 => i3 | 4 => i4 | 5 => i5 | _ => i6), s.heap.size, (fun k => match k with | 0 => a0 | 1 => a1 | 2 => a2 | 3 => a3 | 4 => a4 | 5 => a5 | _ => a6), (fun k => match k with | 0 => t0 | 1 => t1 | 2 => t2 | 3 => b | 4 => L | j + 5 => (xs j).toBitVec.toNat)), rfl, ⟨rfl, rfl⟩, ⟨fun c q hq => ?_, fun k q hk => ?_⟩, ⟨⟨z0, z1, z2, ?_⟩, ⟨fun k hk => ?_, fun k hk => ?_⟩, ⟨vx_Zqof (hts _ (by decide +kernel)) (hts _ (by decide +kernel)) v3 hA, vx_Zqof (hts _ (by decide +kernel)) (hts _ (by decide +kernel)) v4 hA⟩, fun q hq => ?_, w1, w2, w3, v1, w4, w5⟩⟩
  · match c, hq with
    | 0, hq => exact k0 q hq
    | 1, hq => exact k1 q hq
    | 2, hq => exact k2 q hq
    | 3, hq => exact k3 q hq
    | 4, hq => exact k4 q hq
    | 5, hq => exact k5 q hq
    | 6, hq => exact k6 q hq
    | c + 7, hq => simp [vwCl] at hq
  · match k, hk with
    | 0, hk => cases hk; exact ⟨m0, l0⟩
    | 1, hk => cases hk; exact ⟨m1, l1⟩
    | 2, hk => cases hk; exact ⟨m2, l2⟩
    | 3, hk => cases hk; exact ⟨m3, l3⟩
    | 4, hk => cases hk; exact ⟨m4, l4⟩
    | 5, hk => cases hk; exact ⟨m5, l5⟩
    | 6, hk => cases hk; exact ⟨m6, l6⟩
    | k + 7, hk => simp [tp_Tys] at hk
  · obtain ⟨scr, h1, h2, h3, h4, h5⟩ := hX
    refine ⟨scr, h1, h2, h3, Nat.le_of_eq h4.symm, by rw [h4], fun j hj => ?_, hA b hbl⟩
    rw [h5 j hj]
    show some (Value.int (xs j)) = some (.int (nI ((fun k => match k with | 0 => t0 | 1 => t1 | 2 => t2 | 3 => b | 4 => L | j + 5 => (xs j).toBitVec.toNat) (5 + j))))
    rw [show 5 + j = j + 5 from Nat.add_comm 5 j]
    show some (Value.int (xs j)) = some (.int (nI (xs j).toBitVec.toNat))
    rw [nI_toNat]
  · rcases (show k = 0 ∨ k = 1 ∨ k = 2 by omega) with rfl | rfl | rfl
    · exact y0
    · exact y1
    · exact y2
  · rcases (show k = 0 ∨ k = 1 by omega) with rfl | rfl
    · exact x0
    · exact x1
  · obtain ⟨sa, h1⟩ := v2 q hq
    exact ⟨sa, vk_R.of (w6 q hq) h1⟩
