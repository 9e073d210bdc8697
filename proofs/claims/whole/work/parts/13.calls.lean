section TPC
variable {l : Launch} {G : tp_G} {M : tp_M} {R : Room} {Q : tp_Q} {k n : Nat} {h : tp_H} {pc : Nat} {L : List (Option Value)} {st : List Value}
def tp_sl : List Value → List (Option Value)
  | [] => []
  | v :: vs => if v.category = 2 then some v :: none :: tp_sl vs else some v :: tp_sl vs
def tp_lo (As : List Value) (n : Nat) : List (Option Value) := tp_sl As ++ List.replicate (n - (tp_sl As).length) none
theorem tp_sl_args {v : Value} : ∀ (As : List Value) (i j : Nat), (tp_sl As)[i]? = some (some v) → (j + i, v) ∈ lv_args j As
  | [], i, j, h => by simp [tp_sl] at h
  | w :: vs, i, j, h => by
    rw [tp_sl] at h
    rw [lv_args]
    by_cases hw : w.category = 2
    · rw [if_pos hw] at h
      rw [if_pos hw]
      match i, h with
      | 0, h => simp at h; rw [h]; exact List.mem_cons_self
      | 1, h => simp at h
      | i + 2, h =>
        have := tp_sl_args vs i (j + 2) (by simpa using h)
        rw [show j + (i + 2) = j + 2 + i by omega]
        exact List.mem_cons_of_mem _ this
    · rw [if_neg hw] at h
      rw [if_neg hw]
      match i, h with
      | 0, h => simp at h; rw [h]; exact List.mem_cons_self
      | i + 1, h =>
        have := tp_sl_args vs i (j + 1) (by simpa using h)
        rw [show j + (i + 1) = j + 1 + i by omega]
        exact List.mem_cons_of_mem _ this
theorem tp_lo_at {As : List Value} {n i : Nat} {v : Value} (h : (tp_lo As n)[i]? = some (some v)) : (i, v) ∈ lv_args 0 As := by
  unfold tp_lo at h
  by_cases hi : i < (tp_sl As).length
  · rw [List.getElem?_append_left hi] at h
    have := tp_sl_args As i 0 h
    rwa [Nat.zero_add] at this
  · rw [List.getElem?_append_right (by omega), List.getElem?_replicate] at h
    split at h <;> cases h
theorem tp_Kcall {G : tp_G} {As : List Value} {h : tp_H} : FrameBlind (tp_Pc G As h) := fun a U g mk q => ⟨q.1, q.2.1, va_K.moved (u := U) (U := U.calling g mk a) (Vm.Alike.refl U.vm) q.2.2.1, tp_Fx.moved (State.WarmedH.refl U) q.2.2.2⟩
/-- a method's start -/
theorem tp_start {mc ms : Nat} {As : List Value} {Post : Option Value → tp_H → Prop} {PX : String → tp_H → Prop} (hy : plainName M.1.cls = true) (hh : M.2.2.2.2.2.2 = []) (hl : l.stackTraces = false) (hlen : (lg_sl As).length ≤ M.2.2.1) {L0 : List (Option Value)} (hL : tp_lo As M.2.2.1 = L0)
    (kk : tp_Run l G M (tp_rm M mc ms) (tp_QM G mc ms Post PX) 0 0 h 0 L0 []) : tp_Met l G M mc ms As h Post PX := by
  have hcw : tp_cw M = .code M.1 M.2.1 M.2.2.1 M.2.2.2.1 := by unfold tp_cw; rw [hh]
  refine vx_ofW (ws' := tp_all) hy (by unfold tp_ws; rw [hcw]) ?_
  intro p e s m args below meth c s₁ B hml ht hv
  obtain ⟨rfl, hR, hK, hF⟩ := hv
  have hts := atoms_spec (ws := tp_ws M) B.pre
  have hle := lv_entry As hlen
  rw [lg_entry_eq]
  generalize (lg_sl As ++ List.replicate (M.2.2.1 - (lg_sl As).length) Slot.unset).toArray = ls at hle ⊢
  have htb : c.exceptionTable.toList = tableOf M.2.2.2.2.2.2 := by
    rw [hh]
    cases hz : c.exceptionTable.toList with
    | nil => rfl
    | cons x r => exact (ht x (by rw [hz]; exact List.mem_cons_self)).elim
  exact kk p e s m As.toArray below meth c ⟨B.exec, B.bytes, hml, B.returns, findClass_of_methodNamed B.named, fun w hw => hts w (List.mem_cons_of_mem _ hw), B.notSynchronized, hK, hF, (name_of_methodNamed B.named B.method).1, htb, hl⟩ s.heap [] ls hR va_S.rf (tp_has hle (fun i v q => tp_lo_at (by rw [hL]; exact q)))
theorem tp_startW {mc ms : Nat} {As : List Value} {Post : Option Value → tp_H → Prop} {PX : String → tp_H → Prop} {x : Nat × Nat × Nat × Nat} {xs : List (Nat × Nat × Nat × Nat)} (hy : plainName M.1.cls = true) (hh : M.2.2.2.2.2.2 = x :: xs) (hl : l.stackTraces = false) (hlen : (lg_sl As).length ≤ M.2.2.1) {L0 : List (Option Value)} (hL : tp_lo As M.2.2.1 = L0)
    (kk : tp_Run l G M (tp_rm M mc ms) (tp_QM G mc ms Post PX) 0 0 h 0 L0 []) : tp_Met l G M mc ms As h Post PX := by
  have hcw : tp_cw M = .codeWith M.1 M.2.1 M.2.2.1 M.2.2.2.1 M.2.2.2.2.2.2 := by unfold tp_cw; rw [hh]
  refine vx_ofWH (ws' := tp_all) hy (by unfold tp_ws; rw [hcw]) ?_
  intro p e s m args below meth c s₁ B hml hv
  obtain ⟨rfl, hR, hK, hF⟩ := hv
  have hts := atoms_spec (ws := tp_ws M) B.pre
  have hle := lv_entry As hlen
  rw [lg_entry_eq]
  generalize (lg_sl As ++ List.replicate (M.2.2.1 - (lg_sl As).length) Slot.unset).toArray = ls at hle ⊢
  have htb : c.exceptionTable.toList = tableOf M.2.2.2.2.2.2 := vx_table (x := M.1) B (hts _ (by unfold tp_ws; rw [hcw]; exact List.mem_cons_self))
  exact kk p e s m As.toArray below meth c ⟨B.exec, B.bytes, hml, B.returns, findClass_of_methodNamed B.named, fun w hw => hts w (List.mem_cons_of_mem _ hw), B.notSynchronized, hK, hF, (name_of_methodNamed B.named B.method).1, htb, hl⟩ s.heap [] ls hR va_S.rf (tp_has hle (fun i v q => tp_lo_at (by rw [hL]; exact q)))
/-- ends -/
theorem r_iret {mc ms : Nat} {Post : Option Value → tp_H → Prop} {PX : String → tp_H → Prop} {x : Int32} (hd : decode M.2.1 pc = .ok (.ireturn, 1)) (hr : M.2.2.2.1 = some .int) (hk : k ≤ mc ∧ n ≤ ms) (hp : Post (some (.int x)) h) : tp_Run l G M R (tp_QM G mc ms Post PX) k n h pc L [.int x] := by
  intro p e s m args below meth c A H locs ls hR hS hl
  exact W.widen hk.1 hk.2 (vx_ret (W.iret A.hx A.hb (A.hr.trans hr) (fun t ht hW => ⟨⟨_, h, rfl, hp, by rw [ht]; exact hR⟩, hS.F ht⟩) hS.2.2 hd A.hlk))
theorem r_zret {mc ms : Nat} {Post : Option Value → tp_H → Prop} {PX : String → tp_H → Prop} {x : Int32} (hd : decode M.2.1 pc = .ok (.ireturn, 1)) (hr : M.2.2.2.1 = some .boolean) (hk : k ≤ mc ∧ n ≤ ms) (hn : narrow .boolean (.int x) = .int x) (hp : Post (some (.int x)) h) : tp_Run l G M R (tp_QM G mc ms Post PX) k n h pc L [.int x] := by
  intro p e s m args below meth c A H locs ls hR hS hl
  exact W.widen hk.1 hk.2 (vx_ret (W.zret A.hx A.hb (A.hr.trans hr) hn (fun t ht hW => ⟨⟨_, h, rfl, hp, by rw [ht]; exact hR⟩, hS.F ht⟩) hS.2.2 hd A.hlk))
theorem r_lret {mc ms : Nat} {Post : Option Value → tp_H → Prop} {PX : String → tp_H → Prop} {x : Int64} (hd : decode M.2.1 pc = .ok (.lreturn, 1)) (hr : M.2.2.2.1 = some .long) (hk : k ≤ mc ∧ n ≤ ms) (hp : Post (some (.long x)) h) : tp_Run l G M R (tp_QM G mc ms Post PX) k n h pc L [.long x] := by
  intro p e s m args below meth c A H locs ls hR hS hl
  exact W.widen hk.1 hk.2 (vx_ret (W.lret A.hx A.hb (A.hr.trans hr) (fun t ht hW => ⟨⟨_, h, rfl, hp, by rw [ht]; exact hR⟩, hS.F ht⟩) hS.2.2 hd A.hlk))
theorem r_dret {mc ms : Nat} {Post : Option Value → tp_H → Prop} {PX : String → tp_H → Prop} {x : UInt64} (hd : decode M.2.1 pc = .ok (.dreturn, 1)) (hr : M.2.2.2.1 = some .double) (hk : k ≤ mc ∧ n ≤ ms) (hp : Post (some (.double x)) h) : tp_Run l G M R (tp_QM G mc ms Post PX) k n h pc L [.double x] := by
  intro p e s m args below meth c A H locs ls hR hS hl
  exact W.widen hk.1 hk.2 (vx_ret (W.dret A.hx A.hb (A.hr.trans hr) (fun t ht hW => ⟨⟨_, h, rfl, hp, by rw [ht]; exact hR⟩, hS.F ht⟩) hS.2.2 hd A.hlk))
theorem r_vret {mc ms : Nat} {Post : Option Value → tp_H → Prop} {PX : String → tp_H → Prop} (hd : decode M.2.1 pc = .ok (.return_, 1)) (hr : M.2.2.2.1 = none) (hk : k ≤ mc ∧ n ≤ ms) (hp : Post none h) : tp_Run l G M R (tp_QM G mc ms Post PX) k n h pc L [] := by
  intro p e s m args below meth c A H locs ls hR hS hl
  exact W.widen hk.1 hk.2 (vx_ret (W.vret A.hx A.hb (A.hr.trans hr) (fun t ht hW => ⟨⟨_, h, rfl, hp, by rw [ht]; exact hR⟩, hS.F ht⟩) hS.2.2 hd A.hlk))
theorem r_aret {mc ms : Nat} {Post : Option Value → tp_H → Prop} {PX : String → tp_H → Prop} {C : String} {a : Nat} (hd : decode M.2.1 pc = .ok (.areturn, 1)) (hr : M.2.2.2.1 = some (.object C)) (hk : k ≤ mc ∧ n ≤ ms) (hp : Post (some (.ref a)) h) : tp_Run l G M R (tp_QM G mc ms Post PX) k n h pc L [.ref a] := by
  intro p e s m args below meth c A H locs ls hR hS hl
  exact W.widen hk.1 hk.2 (vx_ret (W.aret A.hx A.hb (A.hr.trans hr) (Or.inl ⟨C, rfl⟩) (Or.inr ⟨a, rfl⟩) (fun t ht hW => ⟨⟨_, h, rfl, hp, by rw [ht]; exact hR⟩, hS.F ht⟩) hS.2.2 hd A.hlk))
/-- calls: the words -/
def tp_CW (own : String) (ix : Nat) (M' : tp_M) (nA : Nat) : Prop := Cond.methodLink own ix M'.1 ∈ tp_all ∧ tp_cw M' ∈ tp_all ∧ Cond.initialized M'.1.cls ∈ tp_all ∧ (M'.1.cls ≠ "java/lang/invoke/MethodHandle" ∧ M'.1.cls ≠ "java/lang/invoke/VarHandle") ∧ (parseMethodDescriptor M'.1.desc).map (fun d => d.parameters.length) = some nA
def tp_CV (own : String) (ix : Nat) (M' : tp_M) (nA : Nat) : Prop := tp_CW own ix M' nA ∧ Cond.instanceMethod M'.1 ∈ tp_all ∧ Cond.selects M'.1.cls M'.1 M'.1 ∈ tp_all
def tp_CS (own : String) (ix : Nat) (M' : tp_M) (nA : Nat) : Prop := tp_CW own ix M' nA ∧ Cond.static M'.1 ∈ tp_all
def tp_CI (own : String) (ix : Nat) (M' : tp_M) (nA : Nat) : Prop := tp_CW own ix M' nA ∧ M'.1.name = "<init>" ∧ M'.2.2.2.1 = none ∧ Cond.instanceMethod M'.1 ∈ tp_all
def tp_RM (R : Room) (M' : tp_M) : Prop := M'.2.2.2.2.1 + 1 ≤ R.frames ∧ 8 + (M'.2.2.1 + 11) + M'.2.2.2.2.2.1 ≤ R.locals
theorem tp_callB {s : State} {args : Array Value} {own : String} {ix nA mc ms : Nat} {M' : tp_M} (hts : ∀ w ∈ tp_all, w.before args s = true) (hc : tp_CW own ix M' nA) (hh : M'.2.2.2.2.2.2 = []) (hr : tp_RM R M') : CallB R s args own ix M'.1 M'.2.1 M'.2.2.1 M'.2.2.2.1 (tp_ws M') (tp_rm M' mc ms) mc ms nA := by
  obtain ⟨c1, c2, c3, c4, c5⟩ := hc
  have hcw : tp_cw M' = .code M'.1 M'.2.1 M'.2.2.1 M'.2.2.2.1 := by unfold tp_cw; rw [hh]
  refine callB_of (ws' := tp_all) nA hts (tp_allIn ?_) (by unfold tp_ws; rw [hcw]) rfl rfl (hts _ c3) (hts _ c1) ⟨c4.1, c4.2, c5⟩ hr
  intro w hw
  rcases List.mem_cons.mp hw with rfl | hw
  · exact c2
  · exact hw
/-- what comes back from a call -/
theorem tp_back {mc' ms' : Nat} {As rest st0 : List Value} {Post' : Option Value → tp_H → Prop} {PX' : String → tp_H → Prop} {p : Program} {e : Env} {s : State} {m : MethodId} {args : Array Value} {below : List Frame} {meth : Method} {c : Code} {H : Heap} {locs : List Loc} {ls : Array Slot} (A : tp_Act l G M p s m args meth c) (hS : va_S (tp_A G) s.heap H locs) (hl : tp_Loc ls M.2.2.1 L)
    (hr : vx_Run p l e R s m args below meth c H locs k n mc' ms' (F0 m pc ls st0) rest (tp_Qc G Post' As.toArray) (tp_XC G PX') (tp_A G))
    (kk : ∀ (r : Option Value) (h' : tp_H), Post' r h' → tp_Run l G M R Q (k + mc') (n + ms') h' (pc + 3) L (r.toList ++ rest))
    (kx : ∀ (E : String) (h' : tp_H), PX' E h' → tp_RunX l G M R Q (k + mc') (n + ms') h' pc L rest E) : W p l e R s m args below meth c H locs k n (Q below args s) (F0 m pc ls st0) := by
  intro T hT X
  rcases hr T hT X with ⟨v, st₀, t, T', Ls, h0, X', hL, e1, e2, ⟨⟨r, h', hv, hp, hR'⟩, hF⟩, stp⟩ | ⟨q, st₀, t, T', Ls, E, ce, h0, X', hL, e1, e2, ⟨⟨h', hp, hR'⟩, hF⟩, hce, hcv, hcl, stp⟩
  · cases hv
    obtain ⟨k1, k2, k3⟩ := vx_keep h0 e1 hS (fun q _ z => z) (fun q z => z) hL hF
    obtain ⟨t2, a1, b1⟩ := kk v h' hp p e s m args below meth c A T'.heap (locs ++ Ls) ls (by rw [e1]; exact hR') k3 hl T' rfl X'
    exact ⟨t2, stp t2 a1, b1⟩
  · obtain ⟨k1, k2, k3⟩ := vx_keep h0 e1 hS (fun q _ z => z) (fun q z => z) hL hF
    obtain ⟨t2, a1, b1⟩ := kx E h' hp p e s m args below meth c A T'.heap (locs ++ Ls) ls q ce (by rw [e1]; exact hR') k3 hl (by rw [e1]; exact hce) hcv hcl T' rfl X'
    exact ⟨t2, stp.trans a1, b1⟩
theorem tp_pre {As : List Value} {p : Program} {s : State} {m : MethodId} {args : Array Value} {meth : Method} {c : Code} {H : Heap} {locs : List Loc} (A : tp_Act l G M p s m args meth c) (hR : tp_Rep G h H) (hS : va_S (tp_A G) s.heap H locs) : ∀ U : State, U.heap = H → s.WarmedH U.vm → tp_Pc G As h As.toArray U := fun U hU hW =>
  ⟨rfl, by rw [hU]; exact hR, va_K.moved hW.alike A.hK, by rw [hU]; exact (tp_Fx.moved hW A.hF).kept hS.2.1⟩
theorem r_callV {M' : tp_M} {ix nA b ci mc' ms' : Nat} {As rest : List Value} {fs : List Value} {Post' : Option Value → tp_H → Prop} {PX' : String → tp_H → Prop} (hd : decode M.2.1 pc = .ok (.invokevirtual ix, 3)) (hc : tp_CV M.1.cls ix M' nA) (hM : tp_Met l G M' mc' ms' (.ref b :: As) h Post' PX') (hh : M'.2.2.2.2.2.2 = []) (hb : h.2 b = some (.inr (ci, fs))) (hci : (vwCl[ci]?).map (·.1) = some M'.1.cls) (hn : As.length = nA) (hst : st = As.reverse ++ .ref b :: rest) (hcat : (rest.map fun v => v.category).sum ≤ 8) (hrm : tp_RM R M') (hk : k + mc' ≤ R.cells ∧ n + ms' ≤ R.slots)
    (kk : ∀ (r : Option Value) (h' : tp_H), Post' r h' → tp_Run l G M R Q (k + mc') (n + ms') h' (pc + 3) L (r.toList ++ rest))
    (kx : ∀ (E : String) (h' : tp_H), PX' E h' → tp_RunX l G M R Q (k + mc') (n + ms') h' pc L rest E) : tp_Run l G M R Q k n h pc L st := by
  subst hst
  intro p e s m args below meth c A H locs ls hR hS hl
  obtain ⟨c1, c2, c3⟩ := hc
  obtain ⟨-, r9, g0, cell, g1, g2, g3, -⟩ := hR.2.2 b _ hb
  rw [g0] at hci
  have hcls : r9.1 = M'.1.cls := Option.some.inj hci
  exact tp_back A hS hl (vx_runV (C := M'.1.cls) (As := As) (rest := rest) ⟨A.hx, A.hb, A.hml, A.hown, A.hts⟩ hM ⟨tp_callB A.hts c1 hh hrm, A.hts _ c2, A.hts _ c3⟩ ⟨tp_Kcall, ⟨cell, g1, by rw [g3]; rfl, by rw [g2, ← hcls]; exact (A.hK.1 ci r9 g0).2.1⟩, tp_pre A hR hS⟩ rfl hn hl.1 rfl (lv_room hcat) hd hk) kk kx
theorem r_callS {M' : tp_M} {ix nA mc' ms' : Nat} {As rest : List Value} {Post' : Option Value → tp_H → Prop} {PX' : String → tp_H → Prop} (hd : decode M.2.1 pc = .ok (.invokestatic ix, 3)) (hc : tp_CS M.1.cls ix M' nA) (hM : tp_Met l G M' mc' ms' As h Post' PX') (hh : M'.2.2.2.2.2.2 = []) (hn : As.length = nA) (hst : st = As.reverse ++ rest) (hcat : (rest.map fun v => v.category).sum ≤ 8) (hrm : tp_RM R M') (hk : k + mc' ≤ R.cells ∧ n + ms' ≤ R.slots)
    (kk : ∀ (r : Option Value) (h' : tp_H), Post' r h' → tp_Run l G M R Q (k + mc') (n + ms') h' (pc + 3) L (r.toList ++ rest))
    (kx : ∀ (E : String) (h' : tp_H), PX' E h' → tp_RunX l G M R Q (k + mc') (n + ms') h' pc L rest E) : tp_Run l G M R Q k n h pc L st := by
  subst hst
  intro p e s m args below meth c A H locs ls hR hS hl
  exact tp_back A hS hl (vx_runS (As := As) (rest := rest) ⟨A.hx, A.hb, A.hml, A.hown, A.hts⟩ hM ⟨tp_callB A.hts hc.1 hh hrm, A.hts _ hc.2⟩ ⟨tp_Kcall, tp_pre A hR hS⟩ rfl hn hl.1 rfl (lv_room hcat) hd hk) kk kx
theorem r_callI {M' : tp_M} {ix nA b mc' ms' : Nat} {As rest : List Value} {Post' : Option Value → tp_H → Prop} {PX' : String → tp_H → Prop} (hd : decode M.2.1 pc = .ok (.invokespecial ix, 3)) (hc : tp_CI M.1.cls ix M' nA) (hM : tp_Met l G M' mc' ms' (.ref b :: As) h Post' PX') (hh : M'.2.2.2.2.2.2 = []) (hn : As.length = nA) (hst : st = As.reverse ++ .ref b :: rest) (hcat : (rest.map fun v => v.category).sum ≤ 8) (hrm : tp_RM R M') (hk : k + mc' ≤ R.cells ∧ n + ms' ≤ R.slots)
    (kk : ∀ (r : Option Value) (h' : tp_H), Post' r h' → tp_Run l G M R Q (k + mc') (n + ms') h' (pc + 3) L (r.toList ++ rest))
    (kx : ∀ (E : String) (h' : tp_H), PX' E h' → tp_RunX l G M R Q (k + mc') (n + ms') h' pc L rest E) : tp_Run l G M R Q k n h pc L st := by
  subst hst
  intro p e s m args below meth c A H locs ls hR hS hl
  obtain ⟨c1, c2, c3, c4⟩ := hc
  have cb := tp_callB (mc := mc') (ms := ms') A.hts c1 hh hrm
  rw [c3] at cb
  exact tp_back A hS hl (vx_runI (As := As) (rest := rest) ⟨A.hx, A.hb, A.hml, A.hown, A.hts⟩ hM ⟨cb, c2, A.hts _ c4⟩ ⟨tp_Kcall, tp_pre A hR hS⟩ rfl hn hl.1 rfl (lv_room hcat) hd hk) kk kx
theorem r_callIN {M' : tp_M} {ix nA b mc' ms' : Nat} {host : String} {As rest : List Value} {Post' : Option Value → tp_H → Prop} {PX' : String → tp_H → Prop} (hd : decode M.2.1 pc = .ok (.invokespecial ix, 3)) (hl0 : Cond.methodLinkNest M.1.cls ix M'.1 host ∈ tp_nestC) (hc : tp_cw M' ∈ tp_all ∧ Cond.initialized M'.1.cls ∈ tp_all ∧ (M'.1.cls ≠ "java/lang/invoke/MethodHandle" ∧ M'.1.cls ≠ "java/lang/invoke/VarHandle") ∧ (parseMethodDescriptor M'.1.desc).map (fun d => d.parameters.length) = some nA ∧ M'.1.name = "<init>" ∧ M'.2.2.2.1 = none ∧ Cond.instanceMethod M'.1 ∈ tp_all) (hM : tp_Met l G M' mc' ms' (.ref b :: As) h Post' PX') (hh : M'.2.2.2.2.2.2 = []) (hn : As.length = nA) (hst : st = As.reverse ++ .ref b :: rest) (hcat : (rest.map fun v => v.category).sum ≤ 8) (hrm : tp_RM R M') (hk : k + mc' ≤ R.cells ∧ n + ms' ≤ R.slots)
    (kk : ∀ (r : Option Value) (h' : tp_H), Post' r h' → tp_Run l G M R Q (k + mc') (n + ms') h' (pc + 3) L (r.toList ++ rest))
    (kx : ∀ (E : String) (h' : tp_H), PX' E h' → tp_RunX l G M R Q (k + mc') (n + ms') h' pc L rest E) : tp_Run l G M R Q k n h pc L st := by
  subst hst
  intro p e s m args below meth c A H locs ls hR hS hl
  obtain ⟨c2, c3, c4, c5, c6, c7, c8⟩ := hc
  have hcw : tp_cw M' = .code M'.1 M'.2.1 M'.2.2.1 none := by unfold tp_cw; rw [hh, c7]
  have hws : ∀ w ∈ tp_ws M', w ∈ tp_all := by
    intro w hw
    rcases List.mem_cons.mp hw with rfl | hw
    · exact c2
    · exact hw
  have cn : va_CN R s args M.1.cls ix M'.1 host M'.2.1 M'.2.2.1 none (tp_ws M') (tp_rm M' mc' ms') mc' ms' nA :=
    va_cnB (ws' := tp_all) nA A.hts (tp_allIn hws) (by unfold tp_ws; rw [hcw]) rfl rfl (A.hF.2.2.2.2.1 _ hl0) (A.hts _ c3) ⟨c4.1, c4.2, c5⟩ hrm
  exact tp_back A hS hl (vx_runIN (As := As) (rest := rest) ⟨A.hx, A.hb, A.hml, A.hown, A.hts⟩ hM ⟨cn, c6, A.hts _ c8⟩ ⟨tp_Kcall, tp_pre A hR hS⟩ rfl hn hl.1 rfl (lv_room hcat) hd hk) kk kx
/-- not caught: it goes on to the caller -/
theorem r_outX {mc ms : Nat} {Post : Option Value → tp_H → Prop} {PX : String → tp_H → Prop} {E : String} (hh : M.2.2.2.2.2.2 = []) (hk : k ≤ mc ∧ n ≤ ms) (hp : PX E h) : tp_RunX l G M R (tp_QM G mc ms Post PX) k n h pc L st E := by
  intro p e s m args below meth c A H locs ls q ce hR hS hl hq hv hcl
  have htb : ∀ x ∈ c.exceptionTable.toList, covers x pc = false := by
    rw [A.htb, hh]
    intro x hx
    cases hx
  exact vx_out htb A.hlk hq hv hcl (fun t ht hv => ⟨⟨h, hp, by rw [ht]; exact hR⟩, hS.F ht⟩) hS.2.2 hk.1 hk.2
/-- caught by the row of number i of the table -/
theorem r_catch {E nm : String} {pre suf : List (Nat × Nat × Nat × Nat)} {x : Nat × Nat × Nat × Nat} (hsplit : M.2.2.2.2.2.2 = pre ++ x :: suf) {xe : ExceptionTableEntry} (htab : tableOf (pre ++ x :: suf) = tableOf pre ++ xe :: tableOf suf)
    (hpass : ∀ z ∈ tableOf pre, covers z pc = false ∨ (z.catchType ≠ 0 ∧ ∃ nm : String, Cond.classLink M.1.cls z.catchType nm ∈ tp_all ∧ (E, nm) ∈ tp_nocast)) (hx : covers xe pc = true) (h0 : xe.catchType ≠ 0) (hlink : Cond.classLink M.1.cls xe.catchType nm ∈ tp_all) (hcast : (E, nm) ∈ tp_cast)
    (kk : ∀ q : Nat, tp_Run l G M R Q k n h xe.handlerPc L [.ref q]) : tp_RunX l G M R Q k n h pc L st E := by
  intro p e s m args below meth c A H locs ls q ce hR hS hl hq hv hcl
  refine vx_catch A.hown (tableOf pre) xe (tableOf suf) (by rw [A.htb, hsplit, htab]) (fun z hz => ?_) hx h0 (A.hts _ hlink) (va_Nw.use rfl (A.hF.2.2.2.2.2.2.1 _ hcast)) hq hv hcl (kk q p e s m args below meth c A H locs ls hR hS hl)
  rcases hpass z hz with h1 | ⟨h1, nm', h2, h3⟩
  · exact Or.inl h1
  · exact Or.inr ⟨h1, nm', A.hts _ h2, A.hF.2.2.2.2.2.2.2.1 _ h3⟩
/-- 'throw new E(text)' -/
def tp_XN : List String := ["java/lang/RuntimeException", "java/lang/Exception"]
def tp_XL (own : String) (ik ic : Nat) (E : String) : Prop := Bundle.fit E = true ∧ Cond.classLink own ik E ∈ tp_all ∧ Cond.initialized E ∈ tp_all ∧ (∀ w ∈ (vx_atS own ic E tp_XN).filter goodWord, w ∈ tp_all) ∧ (∀ w ∈ (vx_atS own ic E tp_XN).filter (fun w => !goodWord w), w ∈ Cond.castable E E :: tp_decl.map Cond.declares) ∧ (∀ w ∈ Cond.classLink own ik E :: Cond.initialized E :: vx_atS own ic E tp_XN, vx_ot w = true) ∧ (E, E) ∈ tp_cast
theorem r_throwS {mc ms ik is ic : Nat} {text E : String} {Post : Option Value → tp_H → Prop} {PX : String → tp_H → Prop} (hX : tp_XL RX5 ik ic E) (hown : M.1.cls = RX5) (htx : (is, text) ∈ tp_strs) (hh : M.2.2.2.2.2.2 = []) (hcat : (st.map fun v => v.category).sum + 82 ≤ R.locals) (hfr : 5 < R.frames) (hk : k + 1 ≤ R.cells ∧ n + 6 ≤ R.slots) (hk2 : k + 1 ≤ mc ∧ n + 6 ≤ ms)
    (d0 : decode M.2.1 pc = .ok (.new ik, 3)) (d3 : decode M.2.1 (pc + 3) = .ok (.dup, 1)) (d4 : decode M.2.1 (pc + 4) = .ok (.ldc is, 2)) (d6 : decode M.2.1 (pc + 6) = .ok (.invokespecial ic, 3)) (d9 : decode M.2.1 (pc + 9) = .ok (.athrow, 1))
    (hp : ∀ n', h.1 ≤ n' → PX E (n', h.2)) : tp_Run l G M R (tp_QM G mc ms Post PX) k n h pc L st := by
  intro p e s m args below meth c A H locs ls hR hS hl
  obtain ⟨x1, x2, x3, x4, x5, x6, x7⟩ := hX
  obtain ⟨sa, hsa⟩ := A.hF.2.2.2.1 _ htx
  have ho := A.hown
  rw [hown] at ho
  have htb : ∀ x ∈ c.exceptionTable.toList, covers x (pc + 9) = false := by
    rw [A.htb, hh]
    intro x hx
    cases hx
  exact vx_throwS (names := tp_XN) A.hx A.hb A.hfl ho x1 (by decide) (A.hts _ x2) (A.hts _ x3) hsa (vx_hat (fun w hw => A.hts w (x4 w hw)) x5 (vx_c (va_Nw.use rfl (A.hF.2.2.2.2.2.2.1 _ x7)) (fun w hw => by obtain ⟨y9, hy, rfl⟩ := List.mem_map.mp hw; exact va_Nw.use rfl (A.hF.2.2.2.2.2.2.2.2.2 _ hy)))) x6 A.hF.2.2.1.1 A.hF.2.2.1.2 hS (hl.1.trans A.hml.symm) d0 d3 d4 d6 d9 htb hfr (by exact hcat) hk.1 hk.2 A.hlk
    (fun t hv hz hq => ⟨⟨(t.heap.size, h.2), hp _ (by rw [← hR.1]; exact hz), rfl, Nat.le_trans hR.2.1 (by rw [← hR.1]; exact hz), fun a x hax => ⟨(hR.2.2 a x hax).1, (hR.2.2 a x hax).2.kept (hq a ((hR.2.2 a x hax).2.lt))⟩⟩, Nat.le_trans hS.1 hz, fun q h1 h2 => (hq q (Nat.lt_of_lt_of_le h1 hS.1)).trans (hS.2.1 q h1 h2)⟩) hS.2.2 hk2.1 hk2.2
theorem r_throwSW {mc ms ik is ic : Nat} {text E : String} {Post : Option Value → tp_H → Prop} {PX : String → tp_H → Prop} (hX : tp_XL RX5 ik ic E) (hown : M.1.cls = RX5) (htx : (is, text) ∈ tp_strs) (hh : M.2.2.2.2.2.2 = []) (hcat : (st.map fun v => v.category).sum + 82 ≤ R.locals) (hfr : 5 < R.frames) (hk : k + 1 ≤ R.cells ∧ n + 6 ≤ R.slots) (hk2 : k + 1 ≤ mc ∧ n + 6 ≤ ms)
    (d0 : decode M.2.1 pc = .ok (.new ik, 3)) (d3 : decode M.2.1 (pc + 3) = .ok (.dup, 1)) (d4 : decode M.2.1 (pc + 4) = .ok (.ldc_w is, 3)) (d6 : decode M.2.1 (pc + 7) = .ok (.invokespecial ic, 3)) (d9 : decode M.2.1 (pc + 10) = .ok (.athrow, 1))
    (hp : ∀ n', h.1 ≤ n' → PX E (n', h.2)) : tp_Run l G M R (tp_QM G mc ms Post PX) k n h pc L st := by
  intro p e s m args below meth c A H locs ls hR hS hl
  obtain ⟨x1, x2, x3, x4, x5, x6, x7⟩ := hX
  obtain ⟨sa, hsa⟩ := A.hF.2.2.2.1 _ htx
  have ho := A.hown
  rw [hown] at ho
  have htb : ∀ x ∈ c.exceptionTable.toList, covers x (pc + 10) = false := by
    rw [A.htb, hh]
    intro x hx
    cases hx
  exact vx_throwSW (names := tp_XN) A.hx A.hb A.hfl ho x1 (by decide) (A.hts _ x2) (A.hts _ x3) hsa (vx_hat (fun w hw => A.hts w (x4 w hw)) x5 (vx_c (va_Nw.use rfl (A.hF.2.2.2.2.2.2.1 _ x7)) (fun w hw => by obtain ⟨y9, hy, rfl⟩ := List.mem_map.mp hw; exact va_Nw.use rfl (A.hF.2.2.2.2.2.2.2.2.2 _ hy)))) x6 A.hF.2.2.1.1 A.hF.2.2.1.2 hS (hl.1.trans A.hml.symm) d0 d3 d4 d6 d9 htb hfr (by exact hcat) hk.1 hk.2 A.hlk
    (fun t hv hz hq => ⟨⟨(t.heap.size, h.2), hp _ (by rw [← hR.1]; exact hz), rfl, Nat.le_trans hR.2.1 (by rw [← hR.1]; exact hz), fun a x hax => ⟨(hR.2.2 a x hax).1, (hR.2.2 a x hax).2.kept (hq a ((hR.2.2 a x hax).2.lt))⟩⟩, Nat.le_trans hS.1 hz, fun q h1 h2 => (hq q (Nat.lt_of_lt_of_le h1 hS.1)).trans (hS.2.1 q h1 h2)⟩) hS.2.2 hk2.1 hk2.2
end TPC
