section TPN
variable {l : Launch} {G : tp_G} {M : tp_M} {R : Room} {Q : tp_Q} {k n : Nat} {h : tp_H} {pc : Nat} {L : List (Option Value)} {st : List Value}
theorem r_newI {N : Nat} {x : Int32} (hd : decode M.2.1 pc = .ok (.newarray .int, 2)) (hw : Cond.arrayClass .int ∈ tp_all) (hx : x = nI N) (hN : N < 2 ^ 20) (hk : k + 1 ≤ R.cells ∧ n + N ≤ R.slots) (kk : (∀ a e, h.2 a = some e → a < h.1) → tp_Run l G M R Q (k + 1) (n + N) (h.1 + 1, tp_up h.2 h.1 (.inl (G.2.2.1 0, N, .inl (fun _ => 0)))) (pc + 2) L (.ref h.1 :: st)) : tp_Run l G M R Q k n h pc L (.int x :: st) := by
  intro p e s m args below meth c A H locs ls hR hS hl
  subst hx
  have hN2 : N < 2 ^ 31 := by omega
  refine va_newaK (atype := .int) A.hx A.hb (A.hts _ hw) rfl hd rfl (nI_pos hN2) (nI_clamp hN2) (by show N * 4 ≤ 536870912; omega) hk.1 hk.2 hR.1 fun H1 cA e1 z1 o1 hAr hNm => ?_
  have hc : cA = G.2.2.1 0 := Option.some.inj (hNm.symm.trans (A.hK.2 0 _ rfl).2)
  subst hc
  exact kk (fun a x hx => hR.lt hx) p e s m args below meth c A H1 locs ls (hR.push e1 z1 o1) (tp_Spush hS (by rw [hR.1]; exact z1) (by rw [hR.1]; exact o1)) hl
theorem r_newJ {N : Nat} {x : Int32} (hd : decode M.2.1 pc = .ok (.newarray .long, 2)) (hw : Cond.arrayClass .long ∈ tp_all) (hx : x = nI N) (hN : N < 2 ^ 20) (hk : k + 1 ≤ R.cells ∧ n + N ≤ R.slots) (kk : (∀ a e, h.2 a = some e → a < h.1) → tp_Run l G M R Q (k + 1) (n + N) (h.1 + 1, tp_up h.2 h.1 (.inl (G.2.2.1 1, N, .inr (.inl (fun _ => 0))))) (pc + 2) L (.ref h.1 :: st)) : tp_Run l G M R Q k n h pc L (.int x :: st) := by
  intro p e s m args below meth c A H locs ls hR hS hl
  subst hx
  have hN2 : N < 2 ^ 31 := by omega
  refine va_newaK (atype := .long) A.hx A.hb (A.hts _ hw) rfl hd rfl (nI_pos hN2) (nI_clamp hN2) (by show N * 8 ≤ 536870912; omega) hk.1 hk.2 hR.1 fun H1 cA e1 z1 o1 hAr hNm => ?_
  have hc : cA = G.2.2.1 1 := Option.some.inj (hNm.symm.trans (A.hK.2 1 _ rfl).2)
  subst hc
  exact kk (fun a x hx => hR.lt hx) p e s m args below meth c A H1 locs ls (hR.push e1 z1 o1) (tp_Spush hS (by rw [hR.1]; exact z1) (by rw [hR.1]; exact o1)) hl
theorem r_newD {N : Nat} {x : Int32} (hd : decode M.2.1 pc = .ok (.newarray .double, 2)) (hw : Cond.arrayClass .double ∈ tp_all) (hx : x = nI N) (hN : N < 2 ^ 20) (hk : k + 1 ≤ R.cells ∧ n + N ≤ R.slots) (kk : (∀ a e, h.2 a = some e → a < h.1) → tp_Run l G M R Q (k + 1) (n + N) (h.1 + 1, tp_up h.2 h.1 (.inl (G.2.2.1 2, N, .inr (.inr (.inr (.inl (fun _ => 0))))))) (pc + 2) L (.ref h.1 :: st)) : tp_Run l G M R Q k n h pc L (.int x :: st) := by
  intro p e s m args below meth c A H locs ls hR hS hl
  subst hx
  have hN2 : N < 2 ^ 31 := by omega
  refine va_newaK (atype := .double) A.hx A.hb (A.hts _ hw) rfl hd rfl (nI_pos hN2) (nI_clamp hN2) (by show N * 8 ≤ 536870912; omega) hk.1 hk.2 hR.1 fun H1 cA e1 z1 o1 hAr hNm => ?_
  have hc : cA = G.2.2.1 2 := Option.some.inj (hNm.symm.trans (A.hK.2 2 _ rfl).2)
  subst hc
  exact kk (fun a x hx => hR.lt hx) p e s m args below meth c A H1 locs ls (hR.push e1 z1 o1) (tp_Spush hS (by rw [hR.1]; exact z1) (by rw [hR.1]; exact o1)) hl
theorem r_newA {N ix t : Nat} {C : String} {x : Int32} (hd : decode M.2.1 pc = .ok (.anewarray ix, 3)) (hw : Cond.classLink M.1.cls ix C ∈ tp_all) (ho : C ∈ tp_over) (ht : t < 7) (hC : tp_ty t = .object C) (hx : x = nI N) (hN : N < 2 ^ 20) (hk : k + 1 ≤ R.cells ∧ n + N ≤ R.slots) (kk : (∀ a e, h.2 a = some e → a < h.1) → tp_Run l G M R Q (k + 1) (n + N) (h.1 + 1, tp_up h.2 h.1 (.inl (G.2.2.1 t, N, .inr (.inr (.inr (.inr (fun _ => none))))))) (pc + 3) L (.ref h.1 :: st)) : tp_Run l G M R Q k n h pc L (.int x :: st) := by
  intro p e s m args below meth c A H locs ls hR hS hl
  subst hx
  have hN2 : N < 2 ^ 31 := by omega
  have e0 : (nI N).toNatClampNeg = N := nI_clamp hN2
  refine W.anew A.hx A.hb A.hown (A.hts _ hw) (va_AO.use (A.hF.2.2.2.2.2.2.2.2.1 _ ho)) rfl hd rfl (nI_pos hN2) (by rw [e0]; omega) hk.1 (by rw [e0]; exact hk.2) fun cA kA comp f1 f2 f3 f4 => ?_
  rw [e0]
  have hKt := (A.hK.2 t _ (tp_ty_at ht)).2
  rw [show (G.2.2.1 t, tp_ty t).2 = FieldType.object C from hC] at hKt
  obtain ⟨kA', comp', k1, k2, k3, k4⟩ := hKt
  have hc : cA = G.2.2.1 t := Option.some.inj (f1.symm.trans k4)
  subst hc
  generalize hH1 : H.push ({ cls := G.2.2.1 t, slots := Array.replicate N .null, vm := .none } : Cell) = H1
  have z1 : H1.size = h.1 + 1 := by rw [← hH1, Array.size_push, hR.1]
  have e1 : H1[h.1]? = some (arrV (G.2.2.1 t) N (fun _ => .null)) := by rw [← hH1, ← hR.1, Array.getElem?_push_size, ← arrV_new]
  have o1 : ∀ q : Nat, q < h.1 → H1[q]? = H[q]? := fun q hq => by rw [← hH1, Array.getElem?_push, if_neg (by rw [hR.1]; exact Nat.ne_of_lt hq)]
  rw [hR.1]
  exact kk (fun a x hx => hR.lt hx) p e s m args below meth c A H1 locs ls (hR.push (by show H1[h.1]? = some (vp_cell _ _); rw [vp_cell_q]; exact e1) z1 o1) (tp_Spush hS (by rw [hR.1]; exact z1) (by rw [hR.1]; exact o1)) hl
/-- statics -/
theorem r_gets2 {ix : Nat} (hd : decode M.2.1 pc = .ok (.getstatic ix, 3)) (hw : Cond.fieldLink M.1.cls ix RX5 "MOST_SETTINGS" "[I" ∈ tp_all) (kk : tp_Run l G M R Q k n h (pc + 3) L (.ref (G.2.2.2 2) :: st)) : tp_Run l G M R Q k n h pc L st := by
  intro p e s m args below meth c A H locs ls hR hS hl
  exact va_gets A.hx A.hb A.hF.1.2.2.1 hS A.hown (A.hts _ hw) (fun _ q => q) hd (kk p e s m args below meth c A H locs ls hR hS hl)
theorem r_gets0 {ix : Nat} (hd : decode M.2.1 pc = .ok (.getstatic ix, 3)) (hw : Cond.fieldLinkNest M.1.cls ix "TravelPurses" "FIRST_SETTINGS" "[I" RX5 ∈ tp_nestF) (kk : tp_Run l G M R Q k n h (pc + 3) L (.ref (G.2.2.2 0) :: st)) : tp_Run l G M R Q k n h pc L st := by
  intro p e s m args below meth c A H locs ls hR hS hl
  exact va_getsN A.hx A.hb A.hF.1.1 hS A.hown (va_Nw.use rfl (A.hF.2.2.2.2.2.1 _ hw)) (fun _ q => q) hd (kk p e s m args below meth c A H locs ls hR hS hl)
theorem r_gets1 {ix : Nat} (hd : decode M.2.1 pc = .ok (.getstatic ix, 3)) (hw : Cond.fieldLinkNest M.1.cls ix "TravelPurses" "FIRST_RATES" "[I" RX5 ∈ tp_nestF) (kk : tp_Run l G M R Q k n h (pc + 3) L (.ref (G.2.2.2 1) :: st)) : tp_Run l G M R Q k n h pc L st := by
  intro p e s m args below meth c A H locs ls hR hS hl
  exact va_getsN A.hx A.hb A.hF.1.2.1 hS A.hown (va_Nw.use rfl (A.hF.2.2.2.2.2.1 _ hw)) (fun _ q => q) hd (kk p e s m args below meth c A H locs ls hR hS hl)
theorem r_tld {t i : Nat} {x : Int32} (hd : decode M.2.1 pc = .ok (.iaload, 1)) (ht : t < 3) (hx : x = nI i) (hi : i < 4) (kk : tp_Run l G M R Q k n h (pc + 1) L (.int (tp_st t i) :: st)) : tp_Run l G M R Q k n h pc L (.int x :: .ref (G.2.2.2 t) :: st) := by
  intro p e s m args below meth c A H locs ls hR hS hl
  subst hx
  exact va_ti A.hx A.hb (A.hF.2.1.1 t ht) hS (tp_inI hi (by omega)) (v := .int (tp_st t i)) (by rw [nI_clamp (by omega)]) hd (kk p e s m args below meth c A H locs ls hR hS hl)
/-- the script -/
theorem r_sld {i : Nat} {x : Int32} (hd : decode M.2.1 pc = .ok (.iaload, 1)) (hx : x = nI i) (hi : i < G.2.2.2 4) (hN : G.2.2.2 4 < 2 ^ 31) (kk : tp_Run l G M R Q k n h (pc + 1) L (.int (nI (G.2.2.2 (5 + i))) :: st)) : tp_Run l G M R Q k n h pc L (.int x :: .ref (G.2.2.2 3) :: st) := by
  intro p e s m args below meth c A H locs ls hR hS hl
  subst hx
  exact va_ti A.hx A.hb A.hF.1.2.2.2 hS (tp_inI hi (by omega)) (v := .int (nI (G.2.2.2 (5 + i)))) (by rw [nI_clamp (by omega)]) hd (kk p e s m args below meth c A H locs ls hR hS hl)
theorem r_slen (hd : decode M.2.1 pc = .ok (.arraylength, 1)) (kk : tp_Run l G M R Q k n h (pc + 1) L (.int (nI (G.2.2.2 4)) :: st)) : tp_Run l G M R Q k n h pc L (.ref (G.2.2.2 3) :: st) := by
  intro p e s m args below meth c A H locs ls hR hS hl
  exact va_tlen A.hx A.hb A.hF.1.2.2.2 hS (v := nI (G.2.2.2 4)) rfl hd (kk p e s m args below meth c A H locs ls hR hS hl)
/-- clone() of a static table -/
def tp_KL (own : String) (ix : Nat) : Prop := Cond.methodLink own ix ⟨"[I", "clone", "()Ljava/lang/Object;"⟩ ∈ tp_all ∧ Cond.sameMethod "[I" "java/lang/Object" "clone" "()Ljava/lang/Object;" ∈ tp_all ∧ Cond.native ⟨"java/lang/Object", "clone", "()Ljava/lang/Object;"⟩ ∈ tp_all ∧ Cond.instanceMethod ⟨"java/lang/Object", "clone", "()Ljava/lang/Object;"⟩ ∈ tp_all ∧ Cond.selects "[I" ⟨"[I", "clone", "()Ljava/lang/Object;"⟩ ⟨"java/lang/Object", "clone", "()Ljava/lang/Object;"⟩ ∈ tp_all
theorem r_cloneT {t ix : Nat} (hd : decode M.2.1 pc = .ok (.invokevirtual ix, 3)) (hw : tp_KL M.1.cls ix) (ht : t < 2) (hfr : 1 ≤ R.frames) (hlo : (st.map fun v => v.category).sum + 14 ≤ R.locals) (hk : k + 1 ≤ R.cells ∧ n + 4 ≤ R.slots) (kk : (∀ a e, h.2 a = some e → a < h.1) → tp_Run l G M R Q (k + 1) (n + 4) (h.1 + 1, tp_up h.2 h.1 (.inl (G.2.2.1 0, 4, .inl (tp_st t)))) (pc + 3) L (.ref h.1 :: st)) : tp_Run l G M R Q k n h pc L (.ref (G.2.2.2 t) :: st) := by
  intro p e s m args below meth c A H locs ls hR hS hl T hT X
  obtain ⟨w1, w2, w3, w4, w5⟩ := hw
  obtain ⟨cell, h1, h2, h3, h4, h5, h6, h7⟩ := (A.hF.2.1.2 t ht).kept hS.2.1
  have hcI : s.vm.findClass "[I" = some (G.2.2.1 0) := va_nm_int (A.hK.2 0 _ rfl).2
  have hce : cell.cls = G.2.2.1 0 := Option.some.inj (h4.symm.trans hcI)
  obtain ⟨c0, t0', f1, f2, f3⟩ := Cond.castable_spec (va_Nw.use (A := args) rfl (A.hF.2.2.2.2.2.2.1 ("[I", "java/lang/Cloneable") (by decide)))
  cases hcI.symm.trans f1
  obtain ⟨-, kA, hkA, comp, hkind⟩ := State.isArrayOf_alike X.warmed.alike ((A.hK.2 0 _ rfl).1 0 (fun _ => .null))
  obtain ⟨-, kS, hkS, compS, hkindS⟩ := (A.hK.2 0 _ rfl).1 0 (fun _ => .null)
  have hslots : cell.slots = (arrV (G.2.2.1 0) 4 (fun j => .int (tp_st t j))).slots := by
    apply Array.ext_getElem?
    intro i
    by_cases hi : i < 4
    · rw [h6 i hi, arrV_read _ _ hi]
    · rw [Array.getElem?_eq_none (by rw [h5]; omega), Array.getElem?_eq_none (by rw [arrV_size]; omega)]
  have hfit : ∀ (i : Nat) (v : Value), cell.slots[i]? = some v → fits .int v = true := by
    intro i v hv
    by_cases hi : i < 4
    · rw [h6 i hi] at hv
      cases hv
      rfl
    · rw [Array.getElem?_eq_none (by rw [h5]; omega)] at hv
      cases hv
  obtain ⟨vm', X', stp⟩ := X.cloneArray A.hx A.hown (A.hts _ w1) (A.hts _ w2) (A.hts _ w3) (A.hts _ w4) (A.hts _ w5) (a := G.2.2.2 t) (cell := cell) (by rw [hT]; exact h1) h2.1 h3 (by rw [hce]; exact hcI) f2 (by rw [hce]; exact f3)
    (fun i v hv => by
      rw [hce]
      have hk' : T.vm.classes[G.2.2.1 0]? = some kA := hkA
      have hkd : kA.kind = .array comp .int := hkind
      simpa [State.fitsSlot, State.slotType?, hk', hkd] using hfit i v hv)
    (g := F0 m pc ls (.ref (G.2.2.2 t) :: st)) rfl (by rw [hl.1, A.hml]) rfl (by rw [A.hb]; exact hd) hfr (by show 2 * 0 + _ + 14 ≤ _; omega) hk.1 (by rw [h5]; exact hk.2) (hloader := by rw [hce]; exact Vm.clonesLoader_of_array hkS hkindS)
  have hcellE : ({ cls := cell.cls, slots := cell.slots } : Cell) = arrV (G.2.2.1 0) 4 (fun j => .int (tp_st t j)) := by rw [hce, hslots]; rfl
  rw [hcellE, h5] at X'
  rw [hcellE] at stp
  generalize hH1 : H.push (arrV (G.2.2.1 0) 4 (fun j => .int (tp_st t j))) = H1
  have z1 : H1.size = h.1 + 1 := by rw [← hH1, Array.size_push, hR.1]
  have e1 : H1[h.1]? = some (arrV (G.2.2.1 0) 4 (fun j => .int (tp_st t j))) := by rw [← hH1, ← hR.1, Array.getElem?_push_size]
  have o1 : ∀ q : Nat, q < h.1 → H1[q]? = H[q]? := fun q hq => by rw [← hH1, Array.getElem?_push, if_neg (by rw [hR.1]; exact Nat.ne_of_lt hq)]
  obtain ⟨t2, b1, b2⟩ := kk (fun a x hx => hR.lt hx) p e s m args below meth c A H1 locs ls (hR.push e1 z1 o1) (tp_Spush hS (by rw [hR.1]; exact z1) (by rw [hR.1]; exact o1)) hl ((T.setVm vm').pushCell (arrV (G.2.2.1 0) 4 (fun j => .int (tp_st t j)))) (by rw [← hH1, ← hT]; rfl) X'
  refine ⟨t2, stp t2 ?_, b2⟩
  rw [hT, hR.1]
  exact b1
/-- checkcast of an int array to int[] -/
theorem r_castI {ix a : Nat} {x : vp_A} (hd : decode M.2.1 pc = .ok (.checkcast ix, 3)) (hw : Cond.classLink M.1.cls ix "[I" ∈ tp_all) (hc : h.2 a = some (.inl (G.2.2.1 0, x))) (kk : tp_Run l G M R Q k n h (pc + 3) L (.ref a :: st)) : tp_Run l G M R Q k n h pc L (.ref a :: st) := by
  intro p e s m args below meth c A H locs ls hR hS hl
  exact va_castA A.hx A.hb A.hown (A.hts _ hw) (tp_sing hR hc) 0 rfl (va_nm_int (A.hK.2 0 _ rfl).2) hd (kk p e s m args below meth c A H locs ls hR hS hl)
/-- Math.min -/
theorem r_min {ix : Nat} {x y : Int32} (hd : decode M.2.1 pc = .ok (.invokestatic ix, 3)) (hw : Cond.methodLink M.1.cls ix Lib.Math.min.name ∈ tp_all ∧ Cond.static Lib.Math.min.name ∈ tp_all ∧ Cond.initialized "java/lang/Math" ∈ tp_all ∧ Cond.code Lib.Math.min.name Lib.Math.min.code 2 (some .int) ∈ tp_all) (hfr : 1 ≤ R.frames) (hlo : (st.map fun v => v.category).sum + 13 ≤ R.locals) (hk : k ≤ R.cells ∧ n ≤ R.slots) (kk : tp_Run l G M R Q k n h (pc + 3) L (.int (if y < x then y else x) :: st)) : tp_Run l G M R Q k n h pc L (.int y :: .int x :: st) := by
  intro p e s m args below meth c A H locs ls hR hS hl
  exact va_mmin A.hx A.hb (by rw [hl.1, A.hml]) A.hown (A.hts _ hw.1) (A.hts _ hw.2.1) (A.hts _ hw.2.2.1) (A.hts _ hw.2.2.2) hfr hlo hk.1 hk.2 hd (kk p e s m args below meth c A H locs ls hR hS hl)
/-- Object.<init> -/
theorem r_objInit {ix a : Nat} (hd : decode M.2.1 pc = .ok (.invokespecial ix, 3)) (hw : Cond.methodLink M.1.cls ix objectInit ∈ tp_all ∧ Cond.instanceMethod objectInit ∈ tp_all ∧ Cond.code objectInit ⟨#[0xb1]⟩ 1 none ∈ tp_all) (hfr : 1 ≤ R.frames) (hlo : (st.map fun v => v.category).sum + 12 ≤ R.locals) (kk : tp_Run l G M R Q k n h (pc + 3) L st) : tp_Run l G M R Q k n h pc L (.ref a :: st) := by
  intro p e s m args below meth c A H locs ls hR hS hl
  exact W.objInit A.hx A.hb A.hown (A.hts _ hw.1) (A.hts _ hw.2.1) (A.hts _ hw.2.2) rfl (by rw [A.hml]; exact hl.1) rfl hd hfr (by show 2 * 0 + _ + 12 ≤ _; omega) (kk p e s m args below meth c A H locs ls hR hS hl)
/-- System.arraycopy of ints, whole array from 0 -/
theorem r_copyI {ix a0 a N : Nat} {f g : Nat → Int32} {y : Int32} (hd : decode M.2.1 pc = .ok (.invokestatic ix, 3)) (hw : Cond.methodLink M.1.cls ix arraycopyName ∈ tp_all ∧ Cond.native arraycopyName ∈ tp_all ∧ Cond.static arraycopyName ∈ tp_all ∧ Cond.initialized "java/lang/System" ∈ tp_all) (hc0 : h.2 a0 = some (.inl (G.2.2.1 0, N, .inl f))) (hc1 : h.2 a = some (.inl (G.2.2.1 0, N, .inl g))) (hy : y = nI N) (hN : N < 2 ^ 31) (hfr : 1 ≤ R.frames) (hlo : (st.map fun v => v.category).sum + (nativeFrameWords "java/lang/System" "arraycopy" 5 + 11) ≤ R.locals)
    (kk : tp_Run l G M R Q k n (h.1, tp_up h.2 a (.inl (G.2.2.1 0, N, .inl (va_cpy f g 0 0 N)))) (pc + 3) L st) : tp_Run l G M R Q k n h pc L (.int y :: .int 0 :: .ref a :: .int 0 :: .ref a0 :: st) := by
  intro p e s m args below meth c A H locs ls hR hS hl T hT X
  subst hy
  have e0 : (nI N).toNatClampNeg = N := nI_clamp hN
  have z0 : (0 : Int32).toNatClampNeg = 0 := by decide
  have hq0 : H[a0]? = some (vp_cell (G.2.2.1 0) (N, .inl f)) := (hR.2.2 a0 _ hc0).2
  obtain ⟨hAa, hq1⟩ := hR.2.2 a _ hc1
  have hq1 : H[a]? = some (vp_cell (G.2.2.1 0) (N, .inl g)) := hq1
  obtain ⟨-, k0, hk0, cm0, hkk0⟩ := (A.hK.2 0 _ rfl).1 N (fun j => .int (f j))
  obtain ⟨-, k1, hk1, cm1, hkk1⟩ := (A.hK.2 0 _ rfl).1 N (fun j => .int (g j))
  obtain ⟨vm', X', step⟩ := X.arraycopy A.hx A.hown (A.hts _ hw.1) (A.hts _ hw.2.1) (A.hts _ hw.2.2.1) (A.hts _ hw.2.2.2) (src := a0) (dst := a) (cs := vp_cell (G.2.2.1 0) (N, .inl f)) (cd := vp_cell (G.2.2.1 0) (N, .inl g)) (srcPos := 0) (destPos := 0) (n := nI N) (by rw [hT]; exact hq0) (by rw [hT]; exact hq1)
    (fun _ h => by cases h) (fun _ h => by cases h) (fun h => by cases h) (fun h => by cases h) hk0 hk1 hkk0 hkk1 (by simp [refKind]) (by decide) (by decide) (nI_pos hN)
    (by rw [nI_toInt hN]; show ¬ _ > ((arrV (G.2.2.1 0) N (fun j => .int (f j))).slots.size : Int); rw [arrV_size, show (0 : Int32).toInt = 0 from rfl]; omega)
    (by rw [nI_toInt hN]; show ¬ _ > ((arrV (G.2.2.1 0) N (fun j => .int (g j))).slots.size : Int); rw [arrV_size, show (0 : Int32).toInt = 0 from rfl]; omega)
    (fun vm₁ _ i hi => by
      rw [e0] at hi
      have e : (vp_cell (G.2.2.1 0) (N, .inl f)).slots.getD ((0 : Int32).toNatClampNeg + i) .null = .int (f i) := by
        show (arrV (G.2.2.1 0) N (fun j => .int (f j))).slots.getD _ _ = _
        rw [z0, Nat.zero_add, Array.getD_eq_getD_getElem?, arrV_read _ _ hi]
        rfl
      refine ⟨?_, ?_⟩
      · rw [e]
        rfl
      · rw [e]
        exact trivial)
    (g := F0 m pc ls (.int (nI N) :: .int 0 :: .ref a :: .int 0 :: .ref a0 :: st)) rfl (by rw [hl.1, A.hml]) (rest := st) rfl (by rw [A.hb]; exact hd) hfr (by show 2 * 0 + _ + _ ≤ _; omega)
  have e1 : copied (vp_cell (G.2.2.1 0) (N, .inl f)) (vp_cell (G.2.2.1 0) (N, .inl g)) 0 0 (nI N) = vp_cell (G.2.2.1 0) (N, .inl (va_cpy f g 0 0 N)) := by
    have := va_copied (fun z => Value.int z) (G.2.2.1 0) (G.2.2.1 0) (n0 := N) (n1 := N) (sp := 0) (dp := 0) (n := N) f g (by omega)
    unfold copied
    rw [e0, z0]
    exact this
  rw [e1] at X' step
  have hl9 : a < H.size := (Array.getElem?_eq_some_iff.mp hq1).1
  have hheap : ((T.setVm vm').setCell a (vp_cell (G.2.2.1 0) (N, .inl (va_cpy f g 0 0 N)))).heap = H.setIfInBounds a (vp_cell (G.2.2.1 0) (N, .inl (va_cpy f g 0 0 N))) := by rw [← hT]; rfl
  have oq : ∀ q : Nat, q ≠ a → (H.setIfInBounds a (vp_cell (G.2.2.1 0) (N, .inl (va_cpy f g 0 0 N))))[q]? = H[q]? := fun q hq => by simp [Array.getElem?_setIfInBounds, Ne.symm hq]
  obtain ⟨t2, b1, b2⟩ := kk p e s m args below meth c A _ _ ls (hR.set hAa (e := .inl (G.2.2.1 0, N, .inl (va_cpy f g 0 0 N))) (show (H.setIfInBounds a _)[a]? = some _ by simp [Array.getElem?_setIfInBounds, hl9]) (by simp) oq) ⟨by simp; exact hS.1, fun q g1 g2 => by
      rw [oq q (fun e => g2 (by rw [e]; exact hAa))]
      exact hS.2.1 q g1 g2, fun q hq => by
      rcases List.mem_append.mp hq with h | h
      · exact hS.2.2 q h
      · obtain ⟨z, -, hz⟩ := List.mem_map.mp h
        rw [← hz]
        exact hAa⟩ hl _ hheap X'
  exact ⟨t2, step t2 b1, b2⟩
end TPN
