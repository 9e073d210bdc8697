section TPH
variable {l : Launch} {G : tp_G} {M : tp_M} {R : Room} {Q : tp_Q} {k n : Nat} {h : tp_H} {pc : Nat} {L : List (Option Value)} {st : List Value}
theorem tp_up_s {f : Nat → Option va_E} {a : Nat} {e : va_E} : tp_up f a e a = some e := if_pos rfl
theorem tp_up_n {f : Nat → Option va_E} {a q : Nat} {e : va_E} (hq : q ≠ a) : tp_up f a e q = f q := if_neg hq
theorem tp_Rep.lt {H : Heap} (hR : tp_Rep G h H) {a : Nat} {e : va_E} (ha : h.2 a = some e) : a < h.1 := by
  rw [← hR.1]; exact (hR.2.2 a e ha).2.lt
/-- one cell written, all others kept -/
theorem tp_Rep.set {H H1 : Heap} (hR : tp_Rep G h H) {a : Nat} {e : va_E} (hA : G.2.1 ≤ a) (he : va_at G.1 vwCl (a, e) H1) (z : H1.size = H.size) (o : ∀ q : Nat, q ≠ a → H1[q]? = H[q]?) : tp_Rep G (h.1, tp_up h.2 a e) H1 := by
  refine ⟨z.trans hR.1, hR.2.1, fun q x hq => ?_⟩
  by_cases hqa : q = a
  · subst hqa
    have hq : tp_up h.2 q e q = some x := hq
    rw [tp_up_s] at hq
    cases hq
    exact ⟨hA, he⟩
  · have hq : tp_up h.2 a e q = some x := hq
    rw [tp_up_n hqa] at hq
    obtain ⟨h1, h2⟩ := hR.2.2 q x hq
    exact ⟨h1, h2.kept (o q hqa)⟩
/-- one cell made at the end -/
theorem tp_Rep.push {H H1 : Heap} (hR : tp_Rep G h H) {e : va_E} (he : va_at G.1 vwCl (h.1, e) H1) (z : H1.size = h.1 + 1) (o : ∀ q : Nat, q < h.1 → H1[q]? = H[q]?) : tp_Rep G (h.1 + 1, tp_up h.2 h.1 e) H1 := by
  refine ⟨z, Nat.le_succ_of_le hR.2.1, fun q x hq => ?_⟩
  by_cases hqa : q = h.1
  · subst hqa
    have hq : tp_up h.2 h.1 e h.1 = some x := hq
    rw [tp_up_s] at hq
    cases hq
    exact ⟨hR.2.1, he⟩
  · have hq : tp_up h.2 h.1 e q = some x := hq
    rw [tp_up_n hqa] at hq
    obtain ⟨h1, h2⟩ := hR.2.2 q x hq
    exact ⟨h1, h2.kept (o q (hR.lt hq))⟩
theorem tp_Sput {H0 H H1 : Heap} {locs : List Loc} (hS : va_S (tp_A G) H0 H locs) {a i : Nat} (hA : G.2.1 ≤ a) (z : H1.size = H.size) (o : ∀ q : Nat, q ≠ a → H1[q]? = H[q]?) : va_S (tp_A G) H0 H1 (locs ++ [⟨a, i⟩]) := hS.put z o hA
theorem tp_Spush {H0 H H1 : Heap} {locs : List Loc} (hS : va_S (tp_A G) H0 H locs) (z : H1.size = H.size + 1) (o : ∀ q : Nat, q < H.size → H1[q]? = H[q]?) : va_S (tp_A G) H0 H1 locs :=
  ⟨Nat.le_trans hS.1 (by omega), fun q h1 h2 => (o q (Nat.lt_of_lt_of_le h1 hS.1)).trans (hS.2.1 q h1 h2), hS.2.2⟩
/-- a field's link: the class of number ci, its field k -/
def tp_FL (own : String) (ix ci j : Nat) : Prop := ∃ (C : String) (T : u_T) (N : Nat) (ty0 : Nat → FieldType), vwCl[ci]? = some (C, T, N) ∧ j < N ∧ (T j).1 = C ∧ Cond.fieldLink own ix (T j).1 (T j).2.1 (T j).2.2.1 ∈ tp_all ∧ (∀ w ∈ u_ws C T N, w ∈ tp_all) ∧ (∀ j, j < N → parseFieldDescriptor (T j).2.2.1 = some (ty0 j)) ∧ (∀ a, a < N → ∀ b, b < N → a ≠ b → (T a).2.1 ≠ (T b).2.1)
/-- .. and the field's type, and whether it is final -/
def tp_FT (ci j : Nat) (ty : FieldType) (fin : Bool) : Prop := ∃ r : vw_C, vwCl[ci]? = some r ∧ parseFieldDescriptor (r.2.1 j).2.2.1 = some ty ∧ (r.2.1 j).2.2.2 = fin
theorem r_getf {ix ci j a : Nat} {fs : List Value} {v : Value} (hd : decode M.2.1 pc = .ok (.getfield ix, 3)) (hf : tp_FL M.1.cls ix ci j) (hc : h.2 a = some (.inr (ci, fs))) (hv : fs[j]? = some v) (kk : tp_Run l G M R Q k n h (pc + 3) L (v :: st)) : tp_Run l G M R Q k n h pc L (.ref a :: st) := by
  intro p e s m args below meth c A H locs ls hR hS hl
  obtain ⟨C, T, N, ty0, h1, h2, h3, h4, h5, h6, h7⟩ := hf
  have hP : va_P G.1 vwCl [(a, .inr (ci, fs))] H := fun i q hq => by
    have hi : i = 0 := by
      have := (List.getElem?_eq_some_iff.mp hq).1
      simp at this
      exact this
    subst hi
    cases hq
    exact (hR.2.2 a _ hc).2
  exact va_get A.hx A.hb A.hts h5 A.hown A.hK hP 0 rfl h1 j h2 (A.hts _ h4) (fun _ q => q) hv hd (kk p e s m args below meth c A H locs ls hR hS hl)
theorem r_putf {ix ci j a : Nat} {fs : List Value} {v : Value} {ty : FieldType} (hd : decode M.2.1 pc = .ok (.putfield ix, 3)) (hf : tp_FL M.1.cls ix ci j) (ht : tp_FT ci j ty false) (hc : h.2 a = some (.inr (ci, fs))) (hj : j < fs.length) (hn : narrow ty v = v) (hfit : fits ty v = true) (kk : tp_Run l G M R Q k n (h.1, tp_up h.2 a (.inr (ci, fs.set j v))) (pc + 3) L st) : tp_Run l G M R Q k n h pc L (v :: .ref a :: st) := by
  intro p e s m args below meth c A H locs ls hR hS hl
  obtain ⟨C, T, N, ty0, h1, h2, h3, h4, h5, h6, h7⟩ := hf
  obtain ⟨r, t1, t2, t3⟩ := ht
  cases h1.symm.trans t1
  obtain ⟨hAa, hat⟩ := hR.2.2 a _ hc
  obtain ⟨r9, g1, cell, q1, q2, q3, q4⟩ := hat
  cases h1.symm.trans g1
  have hap := va_apart (own := M.1.cls) A.hts h5 ty0 h6 h7 A.hK h1
  obtain ⟨hSl, hfc, kC, hkC, hkind⟩ := A.hK.1 ci _ h1
  obtain ⟨cf, kf, fi, f, hi, hsl⟩ := hSl j h2
  have hlay := A.hts _ (h5 _ (u_in_lay h2))
  unfold u_lay at hlay
  rw [if_neg (by rw [t3]; decide)] at hlay
  have hst := (u_facts hfc hkC (u_lays A.hts h5 h2) hi).1
  have h9 := u_store hfc hkC hkind hlay hi t2 hn hfit
  refine W.putK A.hx A.hb (f := f) ⟨A.hown, A.hts _ h4, ⟨_, _, _, hi⟩, hst⟩ (by rw [q2]; exact h9) q1 q3 (by rw [hsl]; exact k2_hasslot (q4 j h2)) rfl rfl hd fun H' e1 e2 e3 => ?_
  rw [hsl] at e1 ⊢
  exact kk p e s m args below meth c A H' _ ls (hR.set hAa ⟨_, h1, t_OB.to (V := updV (vp_V fs) j v) ⟨_, e1, q2, q3, t_set q4 hap h2 v⟩ (fun i _ => vp_updV_set hj v i)⟩ e2 e3) (tp_Sput hS hAa e2 e3) hl
theorem r_putF {ix ci j a : Nat} {fs : List Value} {v : Value} {ty : FieldType} (hd : decode M.2.1 pc = .ok (.putfield ix, 3)) (hf : tp_FL M.1.cls ix ci j) (ht : tp_FT ci j ty true) (hin : M.1.name = "<init>") (hdecl : (vwCl[ci]?).map (·.1) = some M.1.cls) (hc : h.2 a = some (.inr (ci, fs))) (hj : j < fs.length) (hn : narrow ty v = v) (hfit : fits ty v = true) (kk : tp_Run l G M R Q k n (h.1, tp_up h.2 a (.inr (ci, fs.set j v))) (pc + 3) L st) : tp_Run l G M R Q k n h pc L (v :: .ref a :: st) := by
  intro p e s m args below meth c A H locs ls hR hS hl
  obtain ⟨C, T, N, ty0, h1, h2, h3, h4, h5, h6, h7⟩ := hf
  obtain ⟨r, t1, t2, t3⟩ := ht
  cases h1.symm.trans t1
  obtain ⟨hAa, hat⟩ := hR.2.2 a _ hc
  obtain ⟨r9, g1, cell, q1, q2, q3, q4⟩ := hat
  cases h1.symm.trans g1
  have hap := va_apart (own := M.1.cls) A.hts h5 ty0 h6 h7 A.hK h1
  obtain ⟨hSl, hfc, kC, hkC, hkind⟩ := A.hK.1 ci _ h1
  obtain ⟨cf, kf, fi, f, hi, hsl⟩ := hSl j h2
  have hlay := A.hts _ (h5 _ (u_in_lay h2))
  unfold u_lay at hlay
  rw [if_pos t3] at hlay
  have hst := (u_facts hfc hkC (u_lays A.hts h5 h2) hi).1
  have hcf : m.cls = cf := by
    obtain ⟨_, _, c', _, _, _, -, -, hf', -, -, -, hown2, -⟩ := Cond.laysFinal_spec hlay
    have e1 : c' = cf := by have := hi.symm.trans hf'; simp at this; exact this.1.symm
    have hC : (T j).1 = M.1.cls := by
      rw [h3]
      rw [h1] at hdecl
      exact Option.some.inj hdecl
    rw [hC] at hown2
    rw [← e1]; exact Option.some.inj (A.hown.symm.trans hown2)
  have h9 := u_fits hfc hkC hkind (Or.inr hlay) hi t2 hn hfit
  refine W.putFinK A.hx A.hb A.hown (A.hts _ h4) hi hst hcf (A.hnm.trans hin) (by rw [q2]; exact h9) q1 q3 (by rw [hsl]; exact k2_hasslot (q4 j h2)) rfl rfl hd fun H' e1 e2 e3 => ?_
  rw [hsl] at e1 ⊢
  exact kk p e s m args below meth c A H' _ ls (hR.set hAa ⟨_, h1, t_OB.to (V := updV (vp_V fs) j v) ⟨_, e1, q2, q3, t_set q4 hap h2 v⟩ (fun i _ => vp_updV_set hj v i)⟩ e2 e3) (tp_Sput hS hAa e2 e3) hl
/-- a new object -/
def tp_NL (own : String) (ix ci : Nat) : Prop := ∃ (C : String) (T : u_T) (N : Nat) (ty0 : Nat → FieldType), vwCl[ci]? = some (C, T, N) ∧ Cond.classLink own ix C ∈ tp_all ∧ Cond.instantiable C N ∈ tp_all ∧ Cond.initialized C ∈ tp_all ∧ (∀ w ∈ u_ws C T N, w ∈ tp_all) ∧ (∀ j, j < N → parseFieldDescriptor (T j).2.2.1 = some (ty0 j))
theorem r_new {ix ci N : Nat} {fs : List Value} (hd : decode M.2.1 pc = .ok (.new ix, 3)) (hf : tp_NL M.1.cls ix ci) (hN : (vwCl[ci]?).map (·.2.2) = some N) (hfs : ∀ r, vwCl[ci]? = some r → ∀ j, j < N → ∀ ty, parseFieldDescriptor (r.2.1 j).2.2.1 = some ty → defaultValue ty = vp_V fs j) (hk : k + 1 ≤ R.cells ∧ n + N ≤ R.slots) (kk : (∀ a e, h.2 a = some e → a < h.1) → tp_Run l G M R Q (k + 1) (n + N) (h.1 + 1, tp_up h.2 h.1 (.inr (ci, fs))) (pc + 3) L (.ref h.1 :: st)) : tp_Run l G M R Q k n h pc L st := by
  intro p e s m args below meth c A H locs ls hR hS hl
  obtain ⟨C, T, N', ty0, h1, h2, h3, h4, h5, h6⟩ := hf
  rw [h1] at hN
  cases hN
  have hKn := A.hK.1 ci _ h1
  refine W.newcK A.hx A.hb A.hown (A.hts _ h2) (A.hts _ h3) (A.hts _ h4) rfl hd hk.1 hk.2 hKn.2.1 hR.1 fun H1 kC hkC e1 z1 o1 => ?_
  exact kk (fun a x hx => hR.lt hx) p e s m args below meth c A H1 locs ls (hR.push ⟨_, h1, (u_born ty0 A.hts h5 hKn hkC e1 h6).to (fun j hj => hfs _ h1 j hj _ (h6 j hj))⟩ z1 o1) (tp_Spush hS (by rw [hR.1]; exact z1) (by rw [hR.1]; exact o1)) hl
theorem tp_ty_at {G : tp_G} {t : Nat} (ht : t < 7) : (tp_Tys G)[t]? = some (G.2.2.1 t, tp_ty t) := by
  match t, ht with
  | 0, _ => rfl
  | 1, _ => rfl
  | 2, _ => rfl
  | 3, _ => rfl
  | 4, _ => rfl
  | 5, _ => rfl
  | 6, _ => rfl
/-- arrays: cells .inl (class, length, contents) -/
theorem tp_sing {H : Heap} (hR : tp_Rep G h H) {a : Nat} {e : va_E} (hc : h.2 a = some e) : va_P G.1 vwCl [(a, e)] H := fun i q hq => by
  have hi : i = 0 := by
    have := (List.getElem?_eq_some_iff.mp hq).1
    simp at this
    exact this
  subst hi
  cases hq
  exact (hR.2.2 a _ hc).2
theorem tp_inI {i N : Nat} (h : i < N) (hN : N < 2 ^ 31) : vp_in (nI i) N := vp_in_nI h hN
theorem r_iald {a i N : Nat} {f : Nat → Int32} {x : Int32} (hd : decode M.2.1 pc = .ok (.iaload, 1)) (hc : h.2 a = some (.inl (G.2.2.1 0, N, .inl f))) (hx : x = nI i) (hi : i < N) (hN : N < 2 ^ 31) (kk : tp_Run l G M R Q k n h (pc + 1) L (.int (f i) :: st)) : tp_Run l G M R Q k n h pc L (.int x :: .ref a :: st) := by
  intro p e s m args below meth c A H locs ls hR hS hl
  subst hx
  have e1 : (nI i).toNatClampNeg = i := nI_clamp (Nat.lt_trans hi hN)
  exact va_iald A.hx A.hb A.hK (tp_sing hR hc) 0 0 rfl rfl (tp_inI hi hN) hd (by rw [e1]; exact kk p e s m args below meth c A H locs ls hR hS hl)
theorem r_lald {a i N : Nat} {f : Nat → Int64} {x : Int32} (hd : decode M.2.1 pc = .ok (.laload, 1)) (hc : h.2 a = some (.inl (G.2.2.1 1, N, .inr (.inl f)))) (hx : x = nI i) (hi : i < N) (hN : N < 2 ^ 31) (kk : tp_Run l G M R Q k n h (pc + 1) L (.long (f i) :: st)) : tp_Run l G M R Q k n h pc L (.int x :: .ref a :: st) := by
  intro p e s m args below meth c A H locs ls hR hS hl
  subst hx
  have e1 : (nI i).toNatClampNeg = i := nI_clamp (Nat.lt_trans hi hN)
  exact va_lald A.hx A.hb A.hK (tp_sing hR hc) 0 1 rfl rfl (tp_inI hi hN) hd (by rw [e1]; exact kk p e s m args below meth c A H locs ls hR hS hl)
theorem r_dald {a i N : Nat} {f : Nat → UInt64} {x : Int32} (hd : decode M.2.1 pc = .ok (.daload, 1)) (hc : h.2 a = some (.inl (G.2.2.1 2, N, .inr (.inr (.inr (.inl f)))))) (hx : x = nI i) (hi : i < N) (hN : N < 2 ^ 31) (kk : tp_Run l G M R Q k n h (pc + 1) L (.double (f i) :: st)) : tp_Run l G M R Q k n h pc L (.int x :: .ref a :: st) := by
  intro p e s m args below meth c A H locs ls hR hS hl
  subst hx
  have e1 : (nI i).toNatClampNeg = i := nI_clamp (Nat.lt_trans hi hN)
  exact va_dald A.hx A.hb A.hK (tp_sing hR hc) 0 2 rfl rfl (tp_inI hi hN) hd (by rw [e1]; exact kk p e s m args below meth c A H locs ls hR hS hl)
theorem r_aald {a i N t : Nat} {f : Nat → Option Nat} {x : Int32} (hd : decode M.2.1 pc = .ok (.aaload, 1)) (ht : 3 ≤ t ∧ t < 7) (hc : h.2 a = some (.inl (G.2.2.1 t, N, .inr (.inr (.inr (.inr f)))))) (hx : x = nI i) (hi : i < N) (hN : N < 2 ^ 31) {b : Nat} (hb : f i = some b) (kk : tp_Run l G M R Q k n h (pc + 1) L (.ref b :: st)) : tp_Run l G M R Q k n h pc L (.int x :: .ref a :: st) := by
  intro p e s m args below meth c A H locs ls hR hS hl
  subst hx
  have e1 : (nI i).toNatClampNeg = i := nI_clamp (Nat.lt_trans hi hN)
  obtain ⟨C, hC⟩ : ∃ C, tp_ty t = .object C := by
    match t, ht with
    | 3, _ => exact ⟨_, rfl⟩
    | 4, _ => exact ⟨_, rfl⟩
    | 5, _ => exact ⟨_, rfl⟩
    | 6, _ => exact ⟨_, rfl⟩
  refine va_aldq (C := C) A.hx A.hb A.hK (tp_sing hR hc) 0 t rfl (by rw [tp_ty_at ht.2, hC]) (tp_inI hi hN) hd ?_
  rw [e1, hb]
  exact kk p e s m args below meth c A H locs ls hR hS hl
theorem r_alen {a t : Nat} {x : vp_A} (hd : decode M.2.1 pc = .ok (.arraylength, 1)) (ht : t < 7) (hc : h.2 a = some (.inl (G.2.2.1 t, x))) (kk : tp_Run l G M R Q k n h (pc + 1) L (.int (nI x.1) :: st)) : tp_Run l G M R Q k n h pc L (.ref a :: st) := by
  intro p e s m args below meth c A H locs ls hR hS hl
  exact va_alen A.hx A.hb A.hK (tp_sing hR hc) 0 t rfl (tp_ty_at ht) rfl hd (kk p e s m args below meth c A H locs ls hR hS hl)
theorem r_iast {a i N : Nat} {f : Nat → Int32} {x y : Int32} (hd : decode M.2.1 pc = .ok (.iastore, 1)) (hc : h.2 a = some (.inl (G.2.2.1 0, N, .inl f))) (hx : x = nI i) (hi : i < N) (hN : N < 2 ^ 31) (kk : tp_Run l G M R Q k n (h.1, tp_up h.2 a (.inl (G.2.2.1 0, N, .inl (va_up f i y)))) (pc + 1) L st) : tp_Run l G M R Q k n h pc L (.int y :: .int x :: .ref a :: st) := by
  intro p e s m args below meth c A H locs ls hR hS hl
  subst hx
  have e1 : (nI i).toNatClampNeg = i := nI_clamp (Nat.lt_trans hi hN)
  obtain ⟨hAa, hat⟩ := hR.2.2 a _ hc
  refine W.iast A.hx A.hb hat ((A.hK.2 0 _ rfl).1 N (fun j => .int (f j))) (fun q => by cases q) (by show ¬ (nI i < 0 ∨ (arrV _ _ _).slots.size ≤ _); rw [arrV_size]; exact tp_inI hi hN) rfl rfl hd fun H1 e z oq => ?_
  refine kk p _ s m args below meth c A H1 _ ls (hR.set hAa ?_ z oq) (tp_Sput hS hAa z oq) hl
  show H1[a]? = some (vp_cell _ _)
  rw [e, e1]
  rw [vp_cell_i, vp_cell_i, arrV_store]
  congr 2
  funext q
  by_cases hq : q = i
  · subst hq
    simp [updV, va_up]
  · simp [updV, va_up, hq]
theorem r_last {a i N : Nat} {f : Nat → Int64} {x : Int32} {y : Int64} (hd : decode M.2.1 pc = .ok (.lastore, 1)) (hc : h.2 a = some (.inl (G.2.2.1 1, N, .inr (.inl f)))) (hx : x = nI i) (hi : i < N) (hN : N < 2 ^ 31) (kk : tp_Run l G M R Q k n (h.1, tp_up h.2 a (.inl (G.2.2.1 1, N, .inr (.inl (va_up f i y))))) (pc + 1) L st) : tp_Run l G M R Q k n h pc L (.long y :: .int x :: .ref a :: st) := by
  intro p e s m args below meth c A H locs ls hR hS hl
  subst hx
  have e1 : (nI i).toNatClampNeg = i := nI_clamp (Nat.lt_trans hi hN)
  obtain ⟨hAa, hat⟩ := hR.2.2 a _ hc
  refine W.last A.hx A.hb hat ((A.hK.2 1 _ rfl).1 N (fun j => .long (f j))) (fun q => by cases q) (by show ¬ (nI i < 0 ∨ (arrV _ _ _).slots.size ≤ _); rw [arrV_size]; exact tp_inI hi hN) rfl rfl hd fun H1 e z oq => ?_
  refine kk p _ s m args below meth c A H1 _ ls (hR.set hAa ?_ z oq) (tp_Sput hS hAa z oq) hl
  show H1[a]? = some (vp_cell _ _)
  rw [e, e1]
  rw [vp_cell_l, vp_cell_l, arrV_store]
  congr 2
  funext q
  by_cases hq : q = i
  · subst hq
    simp [updV, va_up]
  · simp [updV, va_up, hq]
theorem r_dast {a i N : Nat} {f : Nat → UInt64} {x : Int32} {y : UInt64} (hd : decode M.2.1 pc = .ok (.dastore, 1)) (hc : h.2 a = some (.inl (G.2.2.1 2, N, .inr (.inr (.inr (.inl f)))))) (hx : x = nI i) (hi : i < N) (hN : N < 2 ^ 31) (kk : tp_Run l G M R Q k n (h.1, tp_up h.2 a (.inl (G.2.2.1 2, N, .inr (.inr (.inr (.inl (va_up f i y))))))) (pc + 1) L st) : tp_Run l G M R Q k n h pc L (.double y :: .int x :: .ref a :: st) := by
  intro p e s m args below meth c A H locs ls hR hS hl
  subst hx
  have e1 : (nI i).toNatClampNeg = i := nI_clamp (Nat.lt_trans hi hN)
  obtain ⟨hAa, hat⟩ := hR.2.2 a _ hc
  refine W.dast A.hx A.hb hat ((A.hK.2 2 _ rfl).1 N (fun j => .double (f j))) (fun q => by cases q) (by show ¬ (nI i < 0 ∨ (arrV _ _ _).slots.size ≤ _); rw [arrV_size]; exact tp_inI hi hN) rfl rfl hd fun H1 e z oq => ?_
  refine kk p _ s m args below meth c A H1 _ ls (hR.set hAa ?_ z oq) (tp_Sput hS hAa z oq) hl
  show H1[a]? = some (vp_cell _ _)
  rw [e, e1]
  rw [vp_cell_d, vp_cell_d, arrV_store]
  congr 2
  funext q
  by_cases hq : q = i
  · subst hq
    simp [updV, va_up]
  · simp [updV, va_up, hq]
theorem r_aast {a b i N t ci : Nat} {f : Nat → Option Nat} {fs : List Value} {x : Int32} (hd : decode M.2.1 pc = .ok (.aastore, 1)) (ht : t < 7) (hc : h.2 a = some (.inl (G.2.2.1 t, N, .inr (.inr (.inr (.inr f)))))) (hb : h.2 b = some (.inr (ci, fs))) (hci : (vwCl[ci]?).map (fun r => FieldType.object r.1) = some (tp_ty t)) (hx : x = nI i) (hi : i < N) (hN : N < 2 ^ 31) (kk : tp_Run l G M R Q k n (h.1, tp_up h.2 a (.inl (G.2.2.1 t, N, .inr (.inr (.inr (.inr (va_up f i (some b)))))))) (pc + 1) L st) : tp_Run l G M R Q k n h pc L (.ref b :: .int x :: .ref a :: st) := by
  intro p e s m args below meth c A H locs ls hR hS hl
  subst hx
  have e1 : (nI i).toNatClampNeg = i := nI_clamp (Nat.lt_trans hi hN)
  obtain ⟨hAa, hat⟩ := hR.2.2 a _ hc
  obtain ⟨hAb, r', hr', cellV, g1, g2, g3, -⟩ := hR.2.2 b _ hb
  have hcls := (A.hK.1 ci r' hr').2
  rw [hr'] at hci
  have hty : FieldType.object r'.1 = tp_ty t := Option.some.inj hci
  have hKt := (A.hK.2 t _ (tp_ty_at ht)).2
  rw [show (G.2.2.1 t, tp_ty t).2 = FieldType.object r'.1 from hty.symm] at hKt
  obtain ⟨kA, comp, k1, k2, k3, -⟩ := hKt
  have hcomp : comp = G.1.1 ci := Option.some.inj (k3.symm.trans hcls.1)
  subst hcomp
  obtain ⟨kC, hkC, -⟩ := hcls.2
  have hlt : (nI i).toNatClampNeg < N := by rw [e1]; exact hi
  refine W.aast A.hx A.hb hat (fun q h => by cases h) (fun h => by cases h) k1 k2 rfl hkC ⟨fun q => tp_inI hi hN (Or.inl q), by show _ < (arrV _ _ _).slots.size; rw [arrV_size]; exact hlt⟩ g1 (fun q h => by rw [g3] at h; cases h) (by rw [g2]; exact hkC) (by rw [g2]; exact va_assign hcls) rfl rfl hd fun H1 e z oq => ?_
  refine kk p _ s m args below meth c A H1 _ ls (hR.set hAa ?_ z oq) (tp_Sput hS hAa z oq) hl
  show H1[a]? = some (vp_cell _ _)
  rw [e, e1]
  rw [vp_cell_q, vp_cell_q, arrV_store]
  congr 2
  funext q
  by_cases hq : q = i
  · subst hq
    simp [updV, va_up, va_rf]
  · simp [updV, va_up, hq]
end TPH
