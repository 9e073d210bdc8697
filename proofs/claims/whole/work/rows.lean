section
/-! ===== BEGIN words of one list among another's, by their places ===== -/
theorem goodIn_r {big : List Cond} (ws : List Cond) (ps : List Nat) (hp : ws = ps.filterMap (fun i => big[i]?)) (h : ws.all goodWord = true) : GoodIn big ws := by
  intro w hw
  have h1 := List.all_eq_true.mp h w hw
  rw [hp] at hw
  obtain ⟨i, -, hi⟩ := List.mem_filterMap.mp hw
  have hm : w ∈ big := by first | exact List.mem_of_getElem? hi | exact List.getElem?_mem hi
  exact ⟨hm, good_of_word h1⟩
theorem goodIn_app {big a b : List Cond} (ha : GoodIn big a) (hb : GoodIn big b) : GoodIn big (a ++ b) := fun w h => (List.mem_append.mp h).elim (ha w) (hb w)
theorem goodIn_ca {big a b : List Cond} {c : Cond} (ha : GoodIn big (c :: a)) (hb : GoodIn big b) : GoodIn big (c :: (a ++ b)) := fun w h => (List.mem_cons.mp h).elim (fun e => ha w (List.mem_cons.mpr (Or.inl e))) (fun h => (List.mem_append.mp h).elim (fun h => ha w (List.mem_cons.mpr (Or.inr h))) (hb w))
theorem goodIn_sub {big ws : List Cond} (hm : ∀ w ∈ ws, w ∈ big) (h : ws.all goodWord = true) : GoodIn big ws := fun w hw => ⟨hm w hw, good_of_word (List.all_eq_true.mp h w hw)⟩
/-! ===== END ===== -/

/-! ===== BEGIN exceptions that leave a method, and their catching by the caller (launches without stack traces) ===== -/
section VXA
/-! The laws vx_back, vx_callV, vx_callS, vx_callSW, vx_throw0, vx_throwS follow proofs of the library, with one case more: JvmDerived/Free/Laws.lean (Back.of_free), Shelf42/LK1.lean (callV, callS), Shelf/KitTraced.lean (throwNew0V, throwNewS). -/
/-- where a method has thrown q: the class by its name, the cell, what was written, the world -/
def vx_T (XC : String → State → State → Prop) (st : State) (q : Addr) (t : State) (mc ms : Nat) (free : Addr → Prop) : Prop :=
  ∃ (E : String) (ce : Cell) (L : List Loc), XC E st t ∧ t.heap[q]? = some ce ∧ ce.vm = .none ∧ st.vm.findClass E = some ce.cls ∧ st.WarmedH t.vm ∧ st.sameButNew ({ t with vm := st.vm } : State) L mc ms ∧ ∀ z ∈ L, free z.base
def vx_Q (Qc : Array Value → State → Outcome → State → Prop) (XC : String → State → State → Prop) (mc ms : Nat) (free : Addr → Prop) : Array Value → State → Outcome → State → Prop := fun a st o t =>
  (Qc a st o t ∧ ∃ L, FrameEnd st o t L mc ms ∧ ∀ q ∈ L, free q.base) ∨ ∃ q, o = .threw q ∧ vx_T XC st q t mc ms free
/-- a callee that returns or throws -/
def vx_Met (l : Launch) (y : MethodName) (ws : List Cond) (rm : Room) (Pc : Array Value → State → Prop) (Qc : Array Value → State → Outcome → State → Prop) (XC : String → State → State → Prop) (mc ms : Nat) (free : Addr → Prop) : Prop :=
  MetFree l y (headSpec ws rm) Pc (fun _ _ _ _ _ => True) (vx_Q Qc XC mc ms free)
def vx_Post (XC : String → State → State → Prop) (mc ms : Nat) (free : Addr → Prop) : Pt → Array Value → Addr → Pt → Prop := fun A a q B =>
  ∃ (g : JFrame) (mk : MethodId) (t : State) (L : List Loc) (E : String) (ce : Cell), B.U.heap = t.heap ∧ B.U.vm = t.vm ∧ XC E (A.U.calling g mk a) t ∧ t.heap[q]? = some ce ∧ ce.vm = .none ∧ A.U.vm.findClass E = some ce.cls ∧ B.locs = A.locs ++ L ∧ (∀ z ∈ L, free z.base) ∧ B.cells = A.cells + mc ∧ B.slots = A.slots + ms
def vx_Back (l : Launch) (R : Room) (p : Program) (e : Env) (below : List Frame) (s : State) (sargs : Array Value) (y : MethodName) (len W9 : Nat)
    (Pre : Pt → Array Value → Prop) (Post : Pt → Array Value → Option Value → Pt → Prop) (PostX : Pt → Array Value → Addr → Pt → Prop) : Prop :=
  ∀ (m : MethodId) (meth : Method) (c : Code) (A : Pt) (g : JFrame) (ig : Instr) (mk : MethodId) (a : Array Value),
    Stand p l e R s m sargs below meth c A.U A.locs A.cells A.slots → g.method = m → g.locals.size = c.maxLocals → decode c.code g.pc = .ok (ig, len) →
    2 * g.monitorRoom + (g.stack.map fun v => v.category).sum ≤ W9 → A.U.methodNamed? y = some mk → Pre A a →
    (∃ (v : Option Value) (B : Pt), Stand p l e R s m sargs below meth c B.U B.locs B.cells B.slots ∧ Post A a v B ∧
      Steps p.tables e below (doInvoke e (A.U.setTop g) [] mk a).1 (B.U.setTop { g with pc := g.pc + len, stack := v.toList ++ g.stack })) ∨
    (∃ (q : Addr) (B : Pt), Stand p l e R s m sargs below meth c B.U B.locs B.cells B.slots ∧ PostX A a q B ∧
      Steps p.tables e below (doInvoke e (A.U.setTop g) [] mk a).1 ((B.U.setTop g).pushFrame (.throwing q)))
section Payer
variable {l : Launch} {R : Room} {p : Program} {e : Env} {below : List Frame} {s : State} {sargs : Array Value} {y : MethodName} {len W9 : Nat}
theorem vx_back {ws : List Cond} {rm : Room} {Pc : Array Value → State → Prop} {Qc : Array Value → State → Outcome → State → Prop} {XC : String → State → State → Prop} {mc ms : Nat} {free : Addr → Prop} {bytes : ByteArray} {maxL : Nat} {ret : Option FieldType}
    (hM : vx_Met l y ws rm Pc Qc XC mc ms free) (hblind : FrameBlind Pc) (hrc : rm.cells = mc) (hrs : rm.slots = ms)
    (hframes : rm.frames + 1 ≤ R.frames) (hlocals : W9 + (maxL + 11) + rm.locals ≤ R.locals)
    (hws : ∀ w ∈ ws, ∀ a' U, s.WarmedH U.vm → w.before a' U = true) (hcode : Cond.code y bytes maxL ret ∈ ws) (hinit : ∀ a' U, s.WarmedH U.vm → (Cond.initialized y.cls).before a' U = true) :
    vx_Back l R p e below s sargs y len W9 (PreOf R mc ms Pc) (PostOf Qc mc ms free) (vx_Post XC mc ms free) := by
  intro m meth c A g ig mk a X hg hsize hdg hW hn hp
  have h1 : (headSpec ws rm).pre.before a A.U = true := atoms_intro fun w hw => hws w hw _ _ X.warmed
  have h2 : (Cond.code y bytes maxL ret).before a A.U = true := hws _ hcode _ _ X.warmed
  have h3 : (Cond.initialized y.cls).before a A.U = true := hinit _ _ X.warmed
  have h4 : A.cells + (headSpec ws rm).room.cells ≤ R.cells := by rw [show (headSpec ws rm).room.cells = mc from hrc]; exact hp.1
  have h5 : A.slots + (headSpec ws rm).room.slots ≤ R.slots := by rw [show (headSpec ws rm).room.slots = ms from hrs]; exact hp.2.1
  have hPc : Pc a (A.U.calling g mk a) := hblind _ _ _ _ hp.2.2
  obtain ⟨U, Ls, c0, s0⟩ := A
  dsimp only [Pt.U, Pt.locs, Pt.cells, Pt.slots] at h1 h2 h3 h4 h5 X hn hPc ⊢
  obtain ⟨methY, cY, hmY, hcY, -, hlY, -, -, -, -⟩ := Cond.code_spec hn h2
  obtain ⟨kY, hkY, -⟩ := className_of_methodNamed hn
  have hinitY : kY.init = .initialized := Cond.initialized_spec (findClass_of_methodNamed hn) hkY h3
  have h : At U g.method c below := by rw [hg]; exact X.here
  have hlocals9 : W9 + (maxL + 11) + (headSpec ws rm).room.locals ≤ R.locals := hlocals
  have happ : (headSpec ws rm).appliesLoose y e.platform (U.calling g mk a) = true :=
    Spec.appliesLoose_calling (g := g) h hdg hn hkY hinitY
      (X.room_calling (g := g) (R' := (headSpec ws rm).room) hsize hmY hcY hframes (by rw [hlY]; omega) h4 h5) h1
  obtain ⟨mid, hmid⟩ := h.above
  have hfr : (U.setTop g).frames = (.java g :: mid) ++ below := by rw [State.frames_setTop' g h.top, hmid]; rfl
  obtain ⟨o, s₂, hsteps, -, hend, hq⟩ := Steps.callFree hM p X.admits X.cas X.clock (acts := []) hfr happ hPc trivial
  have hq' : vx_Q Qc XC mc ms free a (U.calling g mk a) o s₂ := hq
  rw [State.frames_setTop' g h.top] at hend
  obtain ⟨g₀, hg0⟩ := Option.isSome_iff_exists.mp h.top
  obtain ⟨r, hr⟩ := State.topJava?_eq_some.mp hg0
  have hr' : (({ U with heap := s₂.heap, slotsUsed := s₂.slotsUsed } : State).setVm s₂.vm).frames = .java g₀ :: r := hr
  rcases hq' with ⟨hqc, L, hfe, hL⟩ | ⟨q, rfl, E, ce, L, hx, hce, hcv, hcl, hW₂, hsm, hL⟩
  · obtain ⟨⟨v, rfl⟩, hW₂, e2, q2, q3, q4, q5, q6⟩ := id hfe
    have e3 : s₂ = ({ (U.calling g mk a).setFrames s₂.frames with heap := s₂.heap, slotsUsed := s₂.slotsUsed } : State).setVm s₂.vm := by
      have : s₂ = ({ s₂ with vm := (U.calling g mk a).vm } : State).setVm s₂.vm := rfl
      rw [e2] at this
      exact this
    obtain ⟨c₂, i₂, len₂, hc₂, hd₂, hf₂⟩ := hend
    have hW' : U.WarmedH s₂.vm := hW₂
    have hcc : c₂ = c := by
      have h1 : s₂.code? g.method = U.code? g.method := by
        rw [State.code?_eq, State.code?_eq, hW'.alike.method?]
      exact Option.some.inj (hc₂.symm.trans (h1.trans h.code))
    subst hcc
    have hlen : len₂ = len := by rw [hdg] at hd₂; cases hd₂; rfl
    subst hlen
    have hs₂ : s₂ = (({ U with heap := s₂.heap, slotsUsed := s₂.slotsUsed } : State).setVm s₂.vm).setTop { g with pc := g.pc + len₂, stack := v.toList ++ g.stack } := by
      refine e3.trans ?_
      rw [hf₂, State.calling_eq h.top, State.setFrames_setFrames, State.setTop_of_frames _ hr', hr]
      rfl
    have hsame : U.sameButNew ({ U with heap := s₂.heap, slotsUsed := s₂.slotsUsed } : State) L mc ms := by
      refine ⟨?_, q2, q3, q4, q5, q6⟩
      obtain ⟨t, ht, -⟩ := State.frames_cons hr
      show ({ U with heap := s₂.heap, slotsUsed := s₂.slotsUsed } : State) = { U.setFrames U.frames with heap := s₂.heap, slotsUsed := s₂.slotsUsed }
      rw [State.setFrames_self ht]
    subst hg
    refine Or.inl ⟨v, ⟨(({ U with heap := s₂.heap, slotsUsed := s₂.slotsUsed } : State).setVm s₂.vm), Ls ++ L, c0 + mc, s0 + ms⟩,
      ⟨X.admits, X.cas, X.clock, X.frames, X.room, X.hears, X.method, X.code, (X.here.setHeapUsed s₂.heap s₂.slotsUsed).setVm hW'.alike, X.tail, State.WarmedH.trans X.warmed hW', X.limits, X.bytes, X.same.trans (hsame.setVm s.vm)⟩,
      ⟨g, mk, s₂, L, rfl, rfl, hqc, rfl, hL, rfl, rfl⟩, ?_⟩
    show Steps p.tables e below _ ((({ U with heap := s₂.heap, slotsUsed := s₂.slotsUsed } : State).setVm s₂.vm).setTop { g with pc := g.pc + len₂, stack := v.toList ++ g.stack })
    rw [← hs₂]
    exact hsteps
  · obtain ⟨e2, q2, q3, q4, q5, q6⟩ := id hsm
    have e3 : s₂ = ({ (U.calling g mk a).setFrames s₂.frames with heap := s₂.heap, slotsUsed := s₂.slotsUsed } : State).setVm s₂.vm := by
      have : s₂ = ({ s₂ with vm := (U.calling g mk a).vm } : State).setVm s₂.vm := rfl
      rw [e2] at this
      exact this
    have hf₂ : s₂.frames = .throwing q :: .java g :: U.frames.tail := hend
    have hW' : U.WarmedH s₂.vm := hW₂
    have hs₂ : s₂ = ((({ U with heap := s₂.heap, slotsUsed := s₂.slotsUsed } : State).setVm s₂.vm).setTop g).pushFrame (.throwing q) := by
      refine e3.trans ?_
      rw [hf₂, State.calling_eq h.top, State.setFrames_setFrames, State.pushFrame, State.frames_setTop _ hr', State.setTop_of_frames _ hr', State.setFrames_setFrames, hr]
      rfl
    have hsame : U.sameButNew ({ U with heap := s₂.heap, slotsUsed := s₂.slotsUsed } : State) L mc ms := by
      refine ⟨?_, q2, q3, q4, q5, q6⟩
      obtain ⟨t, ht, -⟩ := State.frames_cons hr
      show ({ U with heap := s₂.heap, slotsUsed := s₂.slotsUsed } : State) = { U.setFrames U.frames with heap := s₂.heap, slotsUsed := s₂.slotsUsed }
      rw [State.setFrames_self ht]
    subst hg
    refine Or.inr ⟨q, ⟨(({ U with heap := s₂.heap, slotsUsed := s₂.slotsUsed } : State).setVm s₂.vm), Ls ++ L, c0 + mc, s0 + ms⟩,
      ⟨X.admits, X.cas, X.clock, X.frames, X.room, X.hears, X.method, X.code, (X.here.setHeapUsed s₂.heap s₂.slotsUsed).setVm hW'.alike, X.tail, State.WarmedH.trans X.warmed hW', X.limits, X.bytes, X.same.trans (hsame.setVm s.vm)⟩,
      ⟨g, mk, s₂, L, E, ce, rfl, rfl, hx, hce, hcv, hcl, rfl, hL, rfl, rfl⟩, ?_⟩
    show Steps p.tables e below _ (((({ U with heap := s₂.heap, slotsUsed := s₂.slotsUsed } : State).setVm s₂.vm).setTop g).pushFrame (.throwing q))
    rw [← hs₂]
    exact hsteps
end Payer
section Calls
variable {p : Program} {l : Launch} {e : Env} {R : Room} {s : State} {m : MethodId} {args : Array Value} {below : List Frame} {meth : Method} {c : Code} {T : State} {locs : List Loc} {cells slots : Nat}
theorem vx_callV (X : Stand p l e R s m args below meth c T locs cells slots) (hexec : p.tables.exec = Jvm.exec) {own C : String} {index : Nat} {y : MethodName} {bytes : ByteArray} {maxL : Nat} {ret : Option FieldType}
    (hown : s.vm.findClass own = some m.cls) (hlink : (Cond.methodLink own index y).before args s = true) (hinst : (Cond.instanceMethod y).before args s = true) (hsel : (Cond.selects C y y).before args s = true)
    (hcode : (Cond.code y bytes maxL ret).before args s = true) (hy : y.cls ≠ "java/lang/invoke/MethodHandle" ∧ y.cls ≠ "java/lang/invoke/VarHandle")
    {W9 : Nat} {Pre : Pt → Array Value → Prop} {Post : Pt → Array Value → Option Value → Pt → Prop} {PostX : Pt → Array Value → Addr → Pt → Prop} (hK : vx_Back l R p e below s args y 3 W9 Pre Post PostX)
    {b : Addr} {cellB : Cell} (hcell : T.heap[b]? = some cellB) (hobj : cellB.vm.isStatics = false) (hcls : s.vm.findClass C = some cellB.cls)
    {g : JFrame} (hg : g.method = m) (hsize : g.locals.size = c.maxLocals) {argsL rest : List Value} (hlen : ∀ sig, parseMethodDescriptor y.desc = some sig → argsL.length = sig.parameters.length)
    (hstack : g.stack = argsL.reverse ++ .ref b :: rest) (hW : 2 * g.monitorRoom + (rest.map fun v => v.category).sum ≤ W9) (hdg : decode c.code g.pc = .ok (.invokevirtual index, 3))
    (hpre : ∀ vm₁, s.WarmedH vm₁ → Pre ⟨T.setVm vm₁, locs, cells, slots⟩ (Value.ref b :: argsL).toArray) :
    (∃ (v : Option Value) (vm₁ : Vm) (B : Pt), s.WarmedH vm₁ ∧ Stand p l e R s m args below meth c B.U B.locs B.cells B.slots ∧ Post ⟨T.setVm vm₁, locs, cells, slots⟩ (Value.ref b :: argsL).toArray v B ∧
      ∀ target, Steps p.tables e below (B.U.setTop { g with pc := g.pc + 3, stack := v.toList ++ rest }) target → Steps p.tables e below (T.setTop g) target) ∨
    (∃ (q : Addr) (vm₁ : Vm) (B : Pt), s.WarmedH vm₁ ∧ Stand p l e R s m args below meth c B.U B.locs B.cells B.slots ∧ PostX ⟨T.setVm vm₁, locs, cells, slots⟩ (Value.ref b :: argsL).toArray q B ∧
      Steps p.tables e below (T.setTop g) ((B.U.setTop { g with stack := rest }).pushFrame (.throwing q))) := by
  obtain ⟨mk, methM, hnamed, hmethM, hstM, habM⟩ := Cond.instanceMethod_spec hinst
  obtain ⟨methM', cM, hmethM', -, -, -, -, -, -, hsigM⟩ := Cond.code_spec hnamed hcode
  cases hmethM.symm.trans hmethM'
  obtain ⟨c2, r2, m2, q1, q2, q3, q4, kP, hkP, hkPi⟩ := Cond.selects_spec hsel
  cases hcls.symm.trans q1
  cases (State.methodFound?_of_named hnamed hy).symm.trans q2
  cases hnamed.symm.trans q3
  have hselP : selectMethod e.platform s.vm cellB.cls mk = .method mk := by rw [Launch.admits_selectMethod X.admits]; exact q4
  obtain ⟨vm₁, X₁, hstep₁⟩ := X.invokevirtual hexec hown hlink hnamed hmethM hstM hkP hkPi hy (a := b) (cell := cellB) hcell
    (fun z h => by rw [h] at hobj; cases hobj) hselP hmethM habM hkP hkPi (g := g) hg (argsL := argsL) (rest := rest) (hlen _ hsigM) hstack hdg
  rcases hK m meth c ⟨T.setVm vm₁, locs, cells, slots⟩ { g with stack := rest } (.invokevirtual index) mk (Value.ref b :: argsL).toArray X₁ hg hsize hdg hW (X₁.named hnamed) (hpre vm₁ X₁.warmed) with ⟨v, B, X', hpost, hsteps⟩ | ⟨q, B, X', hpost, hsteps⟩
  · exact Or.inl ⟨v, vm₁, B, X₁.warmed, X', hpost, fun target h => hstep₁ _ fun acts => by rw [doInvoke_state]; exact hsteps.trans h⟩
  · exact Or.inr ⟨q, vm₁, B, X₁.warmed, X', hpost, hstep₁ _ fun acts => by rw [doInvoke_state]; exact hsteps⟩
theorem vx_callS (X : Stand p l e R s m args below meth c T locs cells slots) (hexec : p.tables.exec = Jvm.exec) {own : String} {index : Nat} {y : MethodName} {bytes : ByteArray} {maxL : Nat} {ret : Option FieldType}
    (hown : s.vm.findClass own = some m.cls) (hlink : (Cond.methodLink own index y).before args s = true) (hstat : (Cond.static y).before args s = true) (hinit : (Cond.initialized y.cls).before args s = true)
    (hcode : (Cond.code y bytes maxL ret).before args s = true) (hy : y.cls ≠ "java/lang/invoke/MethodHandle" ∧ y.cls ≠ "java/lang/invoke/VarHandle")
    {W9 : Nat} {Pre : Pt → Array Value → Prop} {Post : Pt → Array Value → Option Value → Pt → Prop} {PostX : Pt → Array Value → Addr → Pt → Prop} (hK : vx_Back l R p e below s args y 3 W9 Pre Post PostX)
    {g : JFrame} (hg : g.method = m) (hsize : g.locals.size = c.maxLocals) {argsL rest : List Value} (hlen : ∀ sig, parseMethodDescriptor y.desc = some sig → argsL.length = sig.parameters.length)
    (hstack : g.stack = argsL.reverse ++ rest) (hW : 2 * g.monitorRoom + (rest.map fun v => v.category).sum ≤ W9) (hdg : decode c.code g.pc = .ok (.invokestatic index, 3))
    (hpre : ∀ vm₁, s.WarmedH vm₁ → Pre ⟨T.setVm vm₁, locs, cells, slots⟩ argsL.toArray) :
    (∃ (v : Option Value) (vm₁ : Vm) (B : Pt), s.WarmedH vm₁ ∧ Stand p l e R s m args below meth c B.U B.locs B.cells B.slots ∧ Post ⟨T.setVm vm₁, locs, cells, slots⟩ argsL.toArray v B ∧
      ∀ target, Steps p.tables e below (B.U.setTop { g with pc := g.pc + 3, stack := v.toList ++ rest }) target → Steps p.tables e below (T.setTop g) target) ∨
    (∃ (q : Addr) (vm₁ : Vm) (B : Pt), s.WarmedH vm₁ ∧ Stand p l e R s m args below meth c B.U B.locs B.cells B.slots ∧ PostX ⟨T.setVm vm₁, locs, cells, slots⟩ argsL.toArray q B ∧
      Steps p.tables e below (T.setTop g) ((B.U.setTop { g with stack := rest }).pushFrame (.throwing q))) := by
  obtain ⟨mk, hnamed⟩ := Cond.code_named hcode
  obtain ⟨methM, cM, hmethM, -, -, -, -, -, -, hsigM⟩ := Cond.code_spec hnamed hcode
  have hstatic : methM.isStatic = true := Cond.static_spec hnamed hmethM hstat
  obtain ⟨kP, hkP, -⟩ := className_of_methodNamed hnamed
  have hinitP : kP.init = .initialized := Cond.initialized_spec (findClass_of_methodNamed hnamed) hkP hinit
  obtain ⟨vm₁, X₁, hstep₁⟩ := X.invokestatic hexec hown hlink hnamed hmethM hstatic hkP hinitP hy (g := g) hg (argsL := argsL) (rest := rest) (hlen _ hsigM) hstack hdg
  rcases hK m meth c ⟨T.setVm vm₁, locs, cells, slots⟩ { g with stack := rest } (.invokestatic index) mk argsL.toArray X₁ hg hsize hdg hW (X₁.named hnamed) (hpre vm₁ X₁.warmed) with ⟨v, B, X', hpost, hsteps⟩ | ⟨q, B, X', hpost, hsteps⟩
  · exact Or.inl ⟨v, vm₁, B, X₁.warmed, X', hpost, fun target h => hstep₁ _ fun acts => by rw [doInvoke_state]; exact hsteps.trans h⟩
  · exact Or.inr ⟨q, vm₁, B, X₁.warmed, X', hpost, hstep₁ _ fun acts => by rw [doInvoke_state]; exact hsteps⟩
end Calls
theorem vx_cls {s : State} {T : State} {vm₁ : Vm} {E : String} {k : ClassId} (hW : s.WarmedH vm₁) (h : (T.setVm vm₁).vm.findClass E = some k) : s.vm.findClass E = some k := by
  have h1 : vm₁.findClass E = some k := h
  rw [hW.alike.findClass] at h1
  exact h1
/-- the method's frame g, with q thrown over it -/
def vx_W (p : Program) (l : Launch) (e : Env) (R : Room) (s : State) (m : MethodId) (args : Array Value) (below : List Frame) (meth : Method) (c : Code) (H : Heap) (locs : List Loc) (cells slots : Nat) (Q : State → Prop) (g : JFrame) (q : Addr) : Prop :=
  ∀ T : State, T.heap = H → Stand p l e R s m args below meth c T locs cells slots → ∃ t, Steps p.tables e below ((T.setTop g).pushFrame (.throwing q)) t ∧ Q t
def vx_Run (p : Program) (l : Launch) (e : Env) (R : Room) (s : State) (m : MethodId) (args : Array Value) (below : List Frame) (meth : Method) (c : Code) (H : Heap) (locs : List Loc) (cells slots mc ms : Nat) (g : JFrame) (rest : List Value) (Qa : State → Outcome → State → Prop) (XC : String → State → State → Prop) (free : Addr → Prop) : Prop :=
  ∀ T : State, T.heap = H → Stand p l e R s m args below meth c T locs cells slots →
    (∃ (v : Option Value) (st₀ t T' : State) (L : List Loc), st₀.heap = H ∧ Stand p l e R s m args below meth c T' (locs ++ L) (cells + mc) (slots + ms) ∧ (∀ q ∈ L, free q.base) ∧ T'.heap = t.heap ∧ T'.vm = t.vm ∧ Qa st₀ (.returned v) t ∧
      Goes p e below T g T' { g with pc := g.pc + 3, stack := v.toList ++ rest }) ∨
    (∃ (q : Addr) (st₀ t T' : State) (L : List Loc) (E : String) (ce : Cell), st₀.heap = H ∧ Stand p l e R s m args below meth c T' (locs ++ L) (cells + mc) (slots + ms) ∧ (∀ z ∈ L, free z.base) ∧ T'.heap = t.heap ∧ T'.vm = t.vm ∧ XC E st₀ t ∧ t.heap[q]? = some ce ∧ ce.vm = .none ∧ s.vm.findClass E = some ce.cls ∧
      Steps p.tables e below (T.setTop g) ((T'.setTop { g with stack := rest }).pushFrame (.throwing q)))
def vx_X {S : Type} (px : S → Prop) (B : String → S → State → Prop) (A : Nat → Prop) : String → State → State → Prop := fun E st t => ∃ u : S, px u ∧ B E u t ∧ va_F A st t
section Runs
variable {p : Program} {l : Launch} {e : Env} {R : Room} {s : State} {m : MethodId} {args : Array Value} {below : List Frame} {meth : Method} {c : Code} {H : Heap} {locs : List Loc} {cells slots : Nat}
variable {y : MethodName} {bytes cc : ByteArray} {maxL nL mc ms n index : Nat} {ret : Option FieldType} {ws : List Cond} {rm : Room} {Pc : Array Value → State → Prop} {Qc : Array Value → State → Outcome → State → Prop} {XC : String → State → State → Prop} {free : Addr → Prop} {Ts : List Cond} {own C : String} {b : Addr} {As rest : List Value} {g : JFrame}
theorem vx_callBack (cb : CallB R s args own index y bytes maxL ret ws rm mc ms n) (hM : vx_Met l y ws rm Pc Qc XC mc ms free) (hbl : FrameBlind Pc) : vx_Back l R p e below s args y 3 8 (PreOf R mc ms Pc) (PostOf Qc mc ms free) (vx_Post XC mc ms free) := by
  obtain ⟨hrc, hrs, hfr, hlo, hws, hcw, -, hini, -⟩ := cb
  exact vx_back (bytes := bytes) (maxL := maxL) (ret := ret) hM hbl hrc hrs hfr hlo hws hcw (fun a' U hW => word_at hW (Or.inl (by first | rfl | simp [Cond.onTables, Cond.keeps, Cond.steady])) hini)
theorem vx_runV (S : CallFix p m c cc nL s args Ts own) (hM : vx_Met l y ws rm Pc Qc XC mc ms free) (cw : CallW R s args own C index y bytes maxL ret ws rm mc ms n) (hp : PreV s H C b Pc As)
    (hg : g.method = m) (hn : As.length = n) (hsize : g.locals.size = nL) (hstack : g.stack = As.reverse ++ .ref b :: rest) (hW : 2 * g.monitorRoom + (rest.map fun v => v.category).sum ≤ 8) (hdg : decode cc g.pc = .ok (.invokevirtual index, 3)) (hf : cells + mc ≤ R.cells ∧ slots + ms ≤ R.slots) :
    vx_Run p l e R s m args below meth c H locs cells slots mc ms g rest (Qc (Value.ref b :: As).toArray) XC free := by
  have hK : vx_Back l R p e below s args y 3 8 (PreOf R mc ms Pc) (PostOf Qc mc ms free) (vx_Post XC mc ms free) := vx_callBack cw.1 hM hp.1
  obtain ⟨⟨-, -, -, -, -, -, hcode, -, hy, hlen, hl⟩, hin, hse⟩ := cw
  obtain ⟨hx, hb, hml, ho, -⟩ := S
  obtain ⟨-, ⟨cellB, hcB, hoB, hclB⟩, hPc⟩ := hp
  intro T hT X
  rcases vx_callV X hx (C := C) (bytes := bytes) (maxL := maxL) (ret := ret) ho hl hin hse hcode hy hK (by rw [hT]; exact hcB) hoB hclB hg (hsize.trans hml.symm) (argsL := As) (rest := rest) (fun sig h => hn.trans (hlen sig h)) hstack hW (by rw [hb]; exact hdg)
    (fun vm₁ hW₁ => ⟨hf.1, hf.2, hPc (T.setVm vm₁) hT hW₁⟩) with ⟨v, vm₁, ⟨U', l2, c2, s2⟩, hW₁, X', ⟨g', mk, t, L, e1, e2, hq, h1, hL, h2, h3⟩, st⟩ | ⟨q, vm₁, ⟨U', l2, c2, s2⟩, hW₁, X', ⟨g', mk, t, L, E, ce, e1, e2, hq, hce, hcv, hcl, h1, hL, h2, h3⟩, st⟩
  · dsimp only [Pt.U, Pt.locs, Pt.cells, Pt.slots] at X' e1 e2 h1 h2 h3 st
    subst h1; subst h2; subst h3
    exact Or.inl ⟨v, (T.setVm vm₁).calling g' mk (Value.ref b :: As).toArray, t, U', L, hT, X', hL, e1, e2, hq, st⟩
  · dsimp only [Pt.U, Pt.locs, Pt.cells, Pt.slots] at X' e1 e2 h1 h2 h3 st hcl
    subst h1; subst h2; subst h3
    exact Or.inr ⟨q, (T.setVm vm₁).calling g' mk (Value.ref b :: As).toArray, t, U', L, E, ce, hT, X', hL, e1, e2, hq, hce, hcv, vx_cls hW₁ hcl, st⟩
theorem vx_runS (S : CallFix p m c cc nL s args Ts own) (hM : vx_Met l y ws rm Pc Qc XC mc ms free) (cw : CallB R s args own index y bytes maxL ret ws rm mc ms n ∧ (Cond.static y).before args s = true) (hp : PreS s H Pc As)
    (hg : g.method = m) (hn : As.length = n) (hsize : g.locals.size = nL) (hstack : g.stack = As.reverse ++ rest) (hW : 2 * g.monitorRoom + (rest.map fun v => v.category).sum ≤ 8) (hdg : decode cc g.pc = .ok (.invokestatic index, 3)) (hf : cells + mc ≤ R.cells ∧ slots + ms ≤ R.slots) :
    vx_Run p l e R s m args below meth c H locs cells slots mc ms g rest (Qc As.toArray) XC free := by
  have hK : vx_Back l R p e below s args y 3 8 (PreOf R mc ms Pc) (PostOf Qc mc ms free) (vx_Post XC mc ms free) := vx_callBack cw.1 hM hp.1
  obtain ⟨⟨-, -, -, -, -, -, hcode, hini, hy, hlen, hl⟩, hstt⟩ := cw
  obtain ⟨hx, hb, hml, ho, -⟩ := S
  intro T hT X
  rcases vx_callS X hx (bytes := bytes) (maxL := maxL) (ret := ret) ho hl hstt hini hcode hy hK hg (hsize.trans hml.symm) (argsL := As) (rest := rest) (fun sig h => hn.trans (hlen sig h)) hstack hW (by rw [hb]; exact hdg)
    (fun vm₁ hW₁ => ⟨hf.1, hf.2, hp.2 (T.setVm vm₁) hT hW₁⟩) with ⟨v, vm₁, ⟨U', l2, c2, s2⟩, hW₁, X', ⟨g', mk, t, L, e1, e2, hq, h1, hL, h2, h3⟩, st⟩ | ⟨q, vm₁, ⟨U', l2, c2, s2⟩, hW₁, X', ⟨g', mk, t, L, E, ce, e1, e2, hq, hce, hcv, hcl, h1, hL, h2, h3⟩, st⟩
  · dsimp only [Pt.U, Pt.locs, Pt.cells, Pt.slots] at X' e1 e2 h1 h2 h3 st
    subst h1; subst h2; subst h3
    exact Or.inl ⟨v, (T.setVm vm₁).calling g' mk As.toArray, t, U', L, hT, X', hL, e1, e2, hq, st⟩
  · dsimp only [Pt.U, Pt.locs, Pt.cells, Pt.slots] at X' e1 e2 h1 h2 h3 st hcl
    subst h1; subst h2; subst h3
    exact Or.inr ⟨q, (T.setVm vm₁).calling g' mk As.toArray, t, U', L, E, ce, hT, X', hL, e1, e2, hq, hce, hcv, vx_cls hW₁ hcl, st⟩
end Runs
section Rows
variable {p : Program} {l : Launch} {e : Env} {R : Room} {s : State} {m : MethodId} {args : Array Value} {below : List Frame} {meth : Method} {c : Code} {H : Heap} {locs : List Loc} {cells slots : Nat} {Q : State → Prop}
variable {mc ms : Nat} {free : Addr → Prop} {A0 A1 : Nat → Prop} {H0 : Heap} {a : Array Value} {pc : Nat} {ls : Array Slot} {st0 rest : List Value}
theorem vx_keep {st₀ t T' : State} {L : List Loc} (h0 : st₀.heap = H) (e1 : T'.heap = t.heap) (hS : va_S A0 H0 H locs) (hA : ∀ q, q < H.size → A1 q → A0 q) (hf : ∀ q, free q → A0 q) (hL : ∀ q ∈ L, free q.base) (hF : va_F A1 st₀ t) :
    H.size ≤ T'.heap.size ∧ (∀ q : Nat, q < H.size → ¬ A1 q → T'.heap[q]? = H[q]?) ∧ va_S A0 H0 T'.heap (locs ++ L) := by
  obtain ⟨hz, hk⟩ := hF
  rw [h0] at hz hk
  exact ⟨by rw [e1]; exact hz, fun q h1 h2 => by rw [e1]; exact hk q h1 h2,
    ⟨Nat.le_trans hS.1 (by rw [e1]; exact hz), fun q h1 h2 => by rw [e1, hk q (Nat.lt_of_lt_of_le h1 hS.1) (fun z => h2 (hA q (Nat.lt_of_lt_of_le h1 hS.1) z))]; exact hS.2.1 q h1 h2, fun q hq => by
      rcases List.mem_append.mp hq with h | h
      · exact hS.2.2 q h
      · exact hf _ (hL q h)⟩⟩
theorem vx_calli {S SX : Type} {post : Int32 → S → Prop} {px : SX → Prop} {B : S → State → Prop} {BX : String → SX → State → Prop} {AX : Nat → Prop} (hr : vx_Run p l e R s m args below meth c H locs cells slots mc ms (F0 m pc ls st0) rest (va_Qi post B A1 a) (vx_X px BX AX) free) (hS : va_S A0 H0 H locs) (hA : ∀ q, q < H.size → A1 q → A0 q) (hf : ∀ q, free q → A0 q) (hAX : ∀ q, q < H.size → AX q → A0 q)
    (kx : ∀ (E : String) (ce : Cell) (q9 : Addr) (u : SX) (t : State) (H1 : Heap) (locs1 : List Loc), t.heap = H1 → s.vm.Alike t.vm → px u → BX E u t → H.size ≤ H1.size → (∀ q : Nat, q < H.size → ¬ AX q → H1[q]? = H[q]?) → va_S A0 H0 H1 locs1 → H1[q9]? = some ce → ce.vm = .none → s.vm.findClass E = some ce.cls → vx_W p l e R s m args below meth c H1 locs1 (cells + mc) (slots + ms) Q (F0 m pc ls rest) q9)
    (kk : ∀ (r : Int32) (u : S) (t : State) (H1 : Heap) (locs1 : List Loc), t.heap = H1 → s.vm.Alike t.vm → post r u → B u t → H.size ≤ H1.size → (∀ q : Nat, q < H.size → ¬ A1 q → H1[q]? = H[q]?) → va_S A0 H0 H1 locs1 → W p l e R s m args below meth c H1 locs1 (cells + mc) (slots + ms) Q (F0 m (pc + 3) ls (.int r :: rest))) : W p l e R s m args below meth c H locs cells slots Q (F0 m pc ls st0) := by
  intro T hT X
  rcases hr T hT X with ⟨v, st₀, t, T', L, h0, X', hL, e1, e2, ⟨⟨r, u, hv, hp, hb⟩, hF⟩, st⟩ | ⟨q, st₀, t, T', L, E, ce, h0, X', hL, e1, e2, ⟨u, hp, hb, hF⟩, hce, hcv, hcl, st⟩
  · cases hv
    obtain ⟨k1, k2, k3⟩ := vx_keep h0 e1 hS hA hf hL hF
    obtain ⟨t2, a1, b1⟩ := kk r u t T'.heap (locs ++ L) e1.symm (by rw [← e2]; exact X'.warmed.alike) hp hb k1 k2 k3 T' rfl X'
    exact ⟨t2, st t2 a1, b1⟩
  · obtain ⟨k1, k2, k3⟩ := vx_keep h0 e1 hS hAX hf hL hF
    obtain ⟨t2, a1, b1⟩ := kx E ce q u t T'.heap (locs ++ L) e1.symm (by rw [← e2]; exact X'.warmed.alike) hp hb k1 k2 k3 (by rw [e1]; exact hce) hcv hcl T' rfl X'
    exact ⟨t2, st.trans a1, b1⟩
theorem vx_calll {S SX : Type} {post : Int64 → S → Prop} {px : SX → Prop} {B : S → State → Prop} {BX : String → SX → State → Prop} {AX : Nat → Prop} (hr : vx_Run p l e R s m args below meth c H locs cells slots mc ms (F0 m pc ls st0) rest (va_Ql post B A1 a) (vx_X px BX AX) free) (hS : va_S A0 H0 H locs) (hA : ∀ q, q < H.size → A1 q → A0 q) (hf : ∀ q, free q → A0 q) (hAX : ∀ q, q < H.size → AX q → A0 q)
    (kx : ∀ (E : String) (ce : Cell) (q9 : Addr) (u : SX) (t : State) (H1 : Heap) (locs1 : List Loc), t.heap = H1 → s.vm.Alike t.vm → px u → BX E u t → H.size ≤ H1.size → (∀ q : Nat, q < H.size → ¬ AX q → H1[q]? = H[q]?) → va_S A0 H0 H1 locs1 → H1[q9]? = some ce → ce.vm = .none → s.vm.findClass E = some ce.cls → vx_W p l e R s m args below meth c H1 locs1 (cells + mc) (slots + ms) Q (F0 m pc ls rest) q9)
    (kk : ∀ (r : Int64) (u : S) (t : State) (H1 : Heap) (locs1 : List Loc), t.heap = H1 → s.vm.Alike t.vm → post r u → B u t → H.size ≤ H1.size → (∀ q : Nat, q < H.size → ¬ A1 q → H1[q]? = H[q]?) → va_S A0 H0 H1 locs1 → W p l e R s m args below meth c H1 locs1 (cells + mc) (slots + ms) Q (F0 m (pc + 3) ls (.long r :: rest))) : W p l e R s m args below meth c H locs cells slots Q (F0 m pc ls st0) := by
  intro T hT X
  rcases hr T hT X with ⟨v, st₀, t, T', L, h0, X', hL, e1, e2, ⟨⟨r, u, hv, hp, hb⟩, hF⟩, st⟩ | ⟨q, st₀, t, T', L, E, ce, h0, X', hL, e1, e2, ⟨u, hp, hb, hF⟩, hce, hcv, hcl, st⟩
  · cases hv
    obtain ⟨k1, k2, k3⟩ := vx_keep h0 e1 hS hA hf hL hF
    obtain ⟨t2, a1, b1⟩ := kk r u t T'.heap (locs ++ L) e1.symm (by rw [← e2]; exact X'.warmed.alike) hp hb k1 k2 k3 T' rfl X'
    exact ⟨t2, st t2 a1, b1⟩
  · obtain ⟨k1, k2, k3⟩ := vx_keep h0 e1 hS hAX hf hL hF
    obtain ⟨t2, a1, b1⟩ := kx E ce q u t T'.heap (locs ++ L) e1.symm (by rw [← e2]; exact X'.warmed.alike) hp hb k1 k2 k3 (by rw [e1]; exact hce) hcv hcl T' rfl X'
    exact ⟨t2, st.trans a1, b1⟩
theorem vx_callf {S SX : Type} {post : UInt32 → S → Prop} {px : SX → Prop} {B : S → State → Prop} {BX : String → SX → State → Prop} {AX : Nat → Prop} (hr : vx_Run p l e R s m args below meth c H locs cells slots mc ms (F0 m pc ls st0) rest (va_Qf post B A1 a) (vx_X px BX AX) free) (hS : va_S A0 H0 H locs) (hA : ∀ q, q < H.size → A1 q → A0 q) (hf : ∀ q, free q → A0 q) (hAX : ∀ q, q < H.size → AX q → A0 q)
    (kx : ∀ (E : String) (ce : Cell) (q9 : Addr) (u : SX) (t : State) (H1 : Heap) (locs1 : List Loc), t.heap = H1 → s.vm.Alike t.vm → px u → BX E u t → H.size ≤ H1.size → (∀ q : Nat, q < H.size → ¬ AX q → H1[q]? = H[q]?) → va_S A0 H0 H1 locs1 → H1[q9]? = some ce → ce.vm = .none → s.vm.findClass E = some ce.cls → vx_W p l e R s m args below meth c H1 locs1 (cells + mc) (slots + ms) Q (F0 m pc ls rest) q9)
    (kk : ∀ (r : UInt32) (u : S) (t : State) (H1 : Heap) (locs1 : List Loc), t.heap = H1 → s.vm.Alike t.vm → post r u → B u t → H.size ≤ H1.size → (∀ q : Nat, q < H.size → ¬ A1 q → H1[q]? = H[q]?) → va_S A0 H0 H1 locs1 → W p l e R s m args below meth c H1 locs1 (cells + mc) (slots + ms) Q (F0 m (pc + 3) ls (.float r :: rest))) : W p l e R s m args below meth c H locs cells slots Q (F0 m pc ls st0) := by
  intro T hT X
  rcases hr T hT X with ⟨v, st₀, t, T', L, h0, X', hL, e1, e2, ⟨⟨r, u, hv, hp, hb⟩, hF⟩, st⟩ | ⟨q, st₀, t, T', L, E, ce, h0, X', hL, e1, e2, ⟨u, hp, hb, hF⟩, hce, hcv, hcl, st⟩
  · cases hv
    obtain ⟨k1, k2, k3⟩ := vx_keep h0 e1 hS hA hf hL hF
    obtain ⟨t2, a1, b1⟩ := kk r u t T'.heap (locs ++ L) e1.symm (by rw [← e2]; exact X'.warmed.alike) hp hb k1 k2 k3 T' rfl X'
    exact ⟨t2, st t2 a1, b1⟩
  · obtain ⟨k1, k2, k3⟩ := vx_keep h0 e1 hS hAX hf hL hF
    obtain ⟨t2, a1, b1⟩ := kx E ce q u t T'.heap (locs ++ L) e1.symm (by rw [← e2]; exact X'.warmed.alike) hp hb k1 k2 k3 (by rw [e1]; exact hce) hcv hcl T' rfl X'
    exact ⟨t2, st.trans a1, b1⟩
theorem vx_calld {S SX : Type} {post : UInt64 → S → Prop} {px : SX → Prop} {B : S → State → Prop} {BX : String → SX → State → Prop} {AX : Nat → Prop} (hr : vx_Run p l e R s m args below meth c H locs cells slots mc ms (F0 m pc ls st0) rest (va_Qd post B A1 a) (vx_X px BX AX) free) (hS : va_S A0 H0 H locs) (hA : ∀ q, q < H.size → A1 q → A0 q) (hf : ∀ q, free q → A0 q) (hAX : ∀ q, q < H.size → AX q → A0 q)
    (kx : ∀ (E : String) (ce : Cell) (q9 : Addr) (u : SX) (t : State) (H1 : Heap) (locs1 : List Loc), t.heap = H1 → s.vm.Alike t.vm → px u → BX E u t → H.size ≤ H1.size → (∀ q : Nat, q < H.size → ¬ AX q → H1[q]? = H[q]?) → va_S A0 H0 H1 locs1 → H1[q9]? = some ce → ce.vm = .none → s.vm.findClass E = some ce.cls → vx_W p l e R s m args below meth c H1 locs1 (cells + mc) (slots + ms) Q (F0 m pc ls rest) q9)
    (kk : ∀ (r : UInt64) (u : S) (t : State) (H1 : Heap) (locs1 : List Loc), t.heap = H1 → s.vm.Alike t.vm → post r u → B u t → H.size ≤ H1.size → (∀ q : Nat, q < H.size → ¬ A1 q → H1[q]? = H[q]?) → va_S A0 H0 H1 locs1 → W p l e R s m args below meth c H1 locs1 (cells + mc) (slots + ms) Q (F0 m (pc + 3) ls (.double r :: rest))) : W p l e R s m args below meth c H locs cells slots Q (F0 m pc ls st0) := by
  intro T hT X
  rcases hr T hT X with ⟨v, st₀, t, T', L, h0, X', hL, e1, e2, ⟨⟨r, u, hv, hp, hb⟩, hF⟩, st⟩ | ⟨q, st₀, t, T', L, E, ce, h0, X', hL, e1, e2, ⟨u, hp, hb, hF⟩, hce, hcv, hcl, st⟩
  · cases hv
    obtain ⟨k1, k2, k3⟩ := vx_keep h0 e1 hS hA hf hL hF
    obtain ⟨t2, a1, b1⟩ := kk r u t T'.heap (locs ++ L) e1.symm (by rw [← e2]; exact X'.warmed.alike) hp hb k1 k2 k3 T' rfl X'
    exact ⟨t2, st t2 a1, b1⟩
  · obtain ⟨k1, k2, k3⟩ := vx_keep h0 e1 hS hAX hf hL hF
    obtain ⟨t2, a1, b1⟩ := kx E ce q u t T'.heap (locs ++ L) e1.symm (by rw [← e2]; exact X'.warmed.alike) hp hb k1 k2 k3 (by rw [e1]; exact hce) hcv hcl T' rfl X'
    exact ⟨t2, st.trans a1, b1⟩
theorem vx_callv {S SX : Type} {post : S → Prop} {px : SX → Prop} {B : S → State → Prop} {BX : String → SX → State → Prop} {AX : Nat → Prop} (hr : vx_Run p l e R s m args below meth c H locs cells slots mc ms (F0 m pc ls st0) rest (va_Qv post B A1 a) (vx_X px BX AX) free) (hS : va_S A0 H0 H locs) (hA : ∀ q, q < H.size → A1 q → A0 q) (hf : ∀ q, free q → A0 q) (hAX : ∀ q, q < H.size → AX q → A0 q)
    (kx : ∀ (E : String) (ce : Cell) (q9 : Addr) (u : SX) (t : State) (H1 : Heap) (locs1 : List Loc), t.heap = H1 → s.vm.Alike t.vm → px u → BX E u t → H.size ≤ H1.size → (∀ q : Nat, q < H.size → ¬ AX q → H1[q]? = H[q]?) → va_S A0 H0 H1 locs1 → H1[q9]? = some ce → ce.vm = .none → s.vm.findClass E = some ce.cls → vx_W p l e R s m args below meth c H1 locs1 (cells + mc) (slots + ms) Q (F0 m pc ls rest) q9)
    (kk : ∀ (u : S) (t : State) (H1 : Heap) (locs1 : List Loc), t.heap = H1 → s.vm.Alike t.vm → post u → B u t → H.size ≤ H1.size → (∀ q : Nat, q < H.size → ¬ A1 q → H1[q]? = H[q]?) → va_S A0 H0 H1 locs1 → W p l e R s m args below meth c H1 locs1 (cells + mc) (slots + ms) Q (F0 m (pc + 3) ls (rest))) : W p l e R s m args below meth c H locs cells slots Q (F0 m pc ls st0) := by
  intro T hT X
  rcases hr T hT X with ⟨v, st₀, t, T', L, h0, X', hL, e1, e2, ⟨⟨u, hv, hp, hb⟩, hF⟩, st⟩ | ⟨q, st₀, t, T', L, E, ce, h0, X', hL, e1, e2, ⟨u, hp, hb, hF⟩, hce, hcv, hcl, st⟩
  · cases hv
    obtain ⟨k1, k2, k3⟩ := vx_keep h0 e1 hS hA hf hL hF
    obtain ⟨t2, a1, b1⟩ := kk u t T'.heap (locs ++ L) e1.symm (by rw [← e2]; exact X'.warmed.alike) hp hb k1 k2 k3 T' rfl X'
    exact ⟨t2, st t2 a1, b1⟩
  · obtain ⟨k1, k2, k3⟩ := vx_keep h0 e1 hS hAX hf hL hF
    obtain ⟨t2, a1, b1⟩ := kx E ce q u t T'.heap (locs ++ L) e1.symm (by rw [← e2]; exact X'.warmed.alike) hp hb k1 k2 k3 (by rw [e1]; exact hce) hcv hcl T' rfl X'
    exact ⟨t2, st.trans a1, b1⟩
/-- caught by the row x of this method's table; the rows ahead don't take it -/
theorem vx_catch {own name : String} {E : String} {ce : Cell} {q : Addr} (hown : s.vm.findClass own = some m.cls) (pre : List ExceptionTableEntry) (x : ExceptionTableEntry) (suf : List ExceptionTableEntry) (hsplit : c.exceptionTable.toList = pre ++ x :: suf)
    (hpass : ∀ z ∈ pre, covers z pc = false ∨ (z.catchType ≠ 0 ∧ ∃ nm : String, (Cond.classLink own z.catchType nm).before args s = true ∧ va_Nc E nm s)) (hx : covers x pc = true) (h0 : x.catchType ≠ 0)
    (hlink : (Cond.classLink own x.catchType name).before args s = true) (hcast : (Cond.castable E name).before args s = true) (hcell : H[q]? = some ce) (hv : ce.vm = .none) (hcl : s.vm.findClass E = some ce.cls)
    (kk : W p l e R s m args below meth c H locs cells slots Q (F0 m x.handlerPc ls [.ref q])) : vx_W p l e R s m args below meth c H locs cells slots Q (F0 m pc ls rest) q := by
  intro T hT X
  have hpl : e.platform.magicAccessors = ({} : Platform).magicAccessors := by rw [X.admits.platform]
  obtain ⟨c3, c4, hc3, hc4, hasg⟩ := Cond.castable_spec hcast
  cases Option.some.inj (hc3.symm.trans hcl)
  obtain ⟨c5, hc5, hcl5⟩ := Cond.classLink_spec hown hlink e.platform hpl
  cases Option.some.inj (hc4.symm.trans hc5)
  obtain ⟨vm', X', st⟩ := X.thenCaughtThrough q (g := F0 m pc ls rest) rfl (Steps.refl _) (by rw [hT]; exact hcell) (by rw [hv]; rfl) (by obtain ⟨k9, h9, -⟩ := Vm.findClass_spec hcl; exact ⟨k9, h9⟩) pre x suf hsplit
    (fun z hz => by
      rcases hpass z hz with h | ⟨hz0, nm, hl1, hn1⟩
      · exact Or.inl h
      · obtain ⟨c6, hc6, hcl6⟩ := Cond.classLink_spec hown hl1 e.platform hpl
        obtain ⟨a8, b8, h1, h2, h3⟩ := hn1
        cases Option.some.inj (h1.symm.trans hcl)
        cases Option.some.inj (h2.symm.trans hc6)
        exact Or.inr ⟨hz0, _, hcl6, h3⟩) hx (Or.inr ⟨h0, c4, hcl5, hasg⟩)
  obtain ⟨t, a1, b1⟩ := kk (T.setVm vm') hT X'
  exact ⟨t, st.trans a1, b1⟩
end Rows
section Ends
variable {p : Program} {l : Launch} {e : Env} {R : Room} {s : State} {m : MethodId} {args : Array Value} {below : List Frame} {meth : Method} {c : Code} {H : Heap} {locs : List Loc} {cells slots : Nat} {Q : State → Prop}
variable {mc ms : Nat} {free : Addr → Prop} {A0 A1 : Nat → Prop} {H0 : Heap} {a : Array Value} {ls : Array Slot} {st0 rest : List Value}
variable {Qc : Array Value → State → Outcome → State → Prop} {XC : String → State → State → Prop}
/-- what a body that may throw owes at its end -/
def vx_MQ (below : List Frame) (Qc : Array Value → State → Outcome → State → Prop) (XC : String → State → State → Prop) (a : Array Value) (s : State) (mc ms : Nat) (free : Addr → Prop) : State → Prop := fun t =>
  ∃ o, t.status = .running ∧ Ended t below o ∧ vx_Q Qc XC mc ms free a s o t
theorem vx_ret {g : JFrame} {mc ms : Nat} (k : W p l e R s m args below meth c H locs cells slots (MQ below Qc args s mc ms free) g) : W p l e R s m args below meth c H locs cells slots (vx_MQ below Qc XC args s mc ms free) g := by
  intro T hT X
  obtain ⟨t, a1, o, b1, b2, b3, b4⟩ := k T hT X
  exact ⟨t, a1, o, b1, b2, Or.inl ⟨b3, b4⟩⟩
/-- not caught here: it goes on to the caller -/
theorem vx_widen {g : JFrame} {q : Addr} {k n : Nat} (h1 : cells ≤ k) (h2 : slots ≤ n) (kk : vx_W p l e R s m args below meth c H locs k n Q g q) : vx_W p l e R s m args below meth c H locs cells slots Q g q := fun T hT X => kk T hT (stand_widen X h1 h2)
theorem vx_out {pc : Nat} {E : String} {ce : Cell} {q : Addr} {mc ms : Nat} (hout : ∀ x ∈ c.exceptionTable.toList, covers x pc = false) (hlocks : meth.locks = false) (hcell : H[q]? = some ce) (hv : ce.vm = .none) (hcl : s.vm.findClass E = some ce.cls)
    (hx : ∀ t : State, t.heap = H → s.vm.Alike t.vm → XC E s t) (hf : ∀ z ∈ locs, free z.base) (hc : cells ≤ mc) (hs : slots ≤ ms) :
    vx_W p l e R s m args below meth c H locs cells slots (vx_MQ below Qc XC args s mc ms free) (F0 m pc ls rest) q := by
  intro T hT X
  obtain ⟨st1, hrun, hend, hW, hsm⟩ := X.leaveThrown q (g := F0 m pc ls rest) rfl rfl rfl hout hlocks
  have hcell9 : (T.setFrames (.throwing q :: below)).heap[q]? = some ce := by
    show T.heap[q]? = some ce
    rw [hT]; exact hcell
  exact ⟨_, st1, .threw q, hrun, hend, Or.inr ⟨q, rfl, E, ce, locs, hx _ hT hW.alike, hcell9, hv, hcl, hW, hsm.mono hc hs, hf⟩⟩
theorem vx_frame {U : State} {k n : Nat} (h : s.sameButNew ({ U with vm := s.vm } : State) locs k n) : s.heap.size ≤ U.heap.size ∧ ∀ q : Nat, q < s.heap.size → (∀ z ∈ locs, z.base ≠ q) → U.heap[q]? = s.heap[q]? := by
  obtain ⟨-, h2, -, -, -, h6⟩ := h
  refine ⟨h2, fun q hq hz => ?_⟩
  obtain ⟨c9, e1, e2, e3, e4⟩ := h6 q _ (Array.getElem?_eq_getElem hq)
  have hs : c9.slots = (s.heap[q]).slots := Array.ext_getElem? fun i => e4 i fun hm => hz _ hm rfl
  have h9 : c9 = s.heap[q] := by
    rw [hs] at e2
    exact e2
  have e5 : U.heap[q]? = some c9 := e1
  rw [e5, h9, Array.getElem?_eq_getElem hq]
/-- the words of a throw but the four that speak of the heap -/
def vx_no (w : Cond) : Bool := decide (w ≠ .isRef (.static Bundle.tN "UNASSIGNED_STACK" Bundle.steD)) && decide (w ≠ .isRef (.static Bundle.tN "SUPPRESSED_SENTINEL" Bundle.listD)) && decide (w ≠ .laysStatic Bundle.tN "UNASSIGNED_STACK" Bundle.steD) && decide (w ≠ .laysStatic Bundle.tN "SUPPRESSED_SENTINEL" Bundle.listD)
def vx_at0 (own : String) (ic : Nat) (X : String) (names : List String) : List Cond := (Bundle.ownAtoms0 own ic X names).filter vx_no
def vx_atS (own : String) (ic : Nat) (X : String) (names : List String) : List Cond := (Bundle.ownAtoms own ic X names).filter vx_no
/-- a word that the tables alone decide, or a good one -/
def vx_ot (w : Cond) : Bool := w.onTables || goodWord w
theorem vx_ot_at {args a' : Array Value} {s U : State} {w : Cond} (hW : s.WarmedH U.vm) (hvm : s.vm = U.vm) (hg : vx_ot w = true) (h : w.before args s = true) : w.before a' U = true := by
  simp only [vx_ot, Bool.or_eq_true] at hg
  rcases hg with hg | hg
  · exact va_tabs hg hvm h
  · exact word_at hW (good_of_word hg) h
/-- a list's words: the good ones out of the method's own list, the others by premises of their own -/
theorem vx_hat {args : Array Value} {s : State} {L B : List Cond} (h1 : ∀ w ∈ L.filter goodWord, w.before args s = true) (h2 : ∀ w ∈ L.filter (fun w => !goodWord w), w ∈ B) (h3 : ∀ w ∈ B, w.before args s = true) : ∀ w ∈ L, w.before args s = true := by
  intro w hw
  by_cases g : goodWord w = true
  · exact h1 w (List.mem_filter.mpr ⟨hw, g⟩)
  · refine h3 w (h2 w (List.mem_filter.mpr ⟨hw, ?_⟩))
    show (!goodWord w) = true
    cases hgw : goodWord w
    · rfl
    · exact absurd hgw g
theorem vx_c {args : Array Value} {s : State} {w : Cond} {B : List Cond} (h : w.before args s = true) (t : ∀ w ∈ B, w.before args s = true) : ∀ w' ∈ w :: B, w'.before args s = true := fun w' h' => (List.mem_cons.mp h').elim (fun e => by rw [e]; exact h) (t w')
theorem vx_n {args : Array Value} {s : State} : ∀ w ∈ ([] : List Cond), w.before args s = true := fun _ h => nomatch h
theorem vx_own {args : Array Value} {s : State} {L : List Cond} (h1 : ∀ w ∈ L.filter vx_no, w.before args s = true)
    (hU : (Cond.isRef (.static Bundle.tN "UNASSIGNED_STACK" Bundle.steD)).before args s = true) (hN : (Cond.isRef (.static Bundle.tN "SUPPRESSED_SENTINEL" Bundle.listD)).before args s = true)
    (lU : (Cond.laysStatic Bundle.tN "UNASSIGNED_STACK" Bundle.steD).before args s = true) (lN : (Cond.laysStatic Bundle.tN "SUPPRESSED_SENTINEL" Bundle.listD).before args s = true) : ∀ w ∈ L, w.before args s = true := by
  intro w hw
  by_cases e1 : w = .isRef (.static Bundle.tN "UNASSIGNED_STACK" Bundle.steD)
  · rw [e1]; exact hU
  · by_cases e2 : w = .isRef (.static Bundle.tN "SUPPRESSED_SENTINEL" Bundle.listD)
    · rw [e2]; exact hN
    · by_cases e3 : w = .laysStatic Bundle.tN "UNASSIGNED_STACK" Bundle.steD
      · rw [e3]; exact lU
      · by_cases e4 : w = .laysStatic Bundle.tN "SUPPRESSED_SENTINEL" Bundle.listD
        · rw [e4]; exact lN
        · exact h1 w (List.mem_filter.mpr ⟨hw, by unfold vx_no; rw [decide_eq_true e1, decide_eq_true e2, decide_eq_true e3, decide_eq_true e4]; rfl⟩)
/-- where a static field lies, its class's statics cell in H -/
def vx_L (C n d : String) (A : Nat → Prop) (U : State) (H : Heap) : Prop := ∃ (c : ClassId) (k : Class) (i : Nat) (f : Field) (a : Nat) (cell : Cell), U.vm.findClass C = some c ∧ U.fieldFound? C n d = some (c, k, i, f) ∧ f.isStatic = true ∧ k.statics = some a ∧ H[a]? = some cell ∧ cell.vm.isStatics = true ∧ cell.cls = c ∧ f.slot < cell.slots.size ∧ k.staticTypes[f.slot]? = some f.type ∧ ¬ A a
theorem vx_L.moved {C n d : String} {A : Nat → Prop} {u U : State} {H : Heap} (hvm : u.vm.Alike U.vm) (h : vx_L C n d A u H) : vx_L C n d A U H := by
  obtain ⟨c, k, i, f, a, cell, h1, h2, h3, h4, h5, h6, h7, h8, h9, h10⟩ := h
  obtain ⟨k', hi', he⟩ := State.fieldFound?_setVm hvm h2
  exact ⟨c, k', i, f, a, cell, by rw [hvm.findClass]; exact h1, hi', h3, by rw [he]; exact h4, h5, h6, h7, h8, by rw [he]; exact h9, h10⟩
theorem vx_L.kept {C n d : String} {A : Nat → Prop} {U : State} {H H1 : Heap} (h : vx_L C n d A U H) (hq : ∀ a : Nat, a < H.size → ¬ A a → H1[a]? = H[a]?) : vx_L C n d A U H1 := by
  obtain ⟨c, k, i, f, a, cell, h1, h2, h3, h4, h5, h6, h7, h8, h9, h10⟩ := h
  exact ⟨c, k, i, f, a, cell, h1, h2, h3, h4, by rw [hq a (Array.getElem?_eq_some_iff.mp h5).1 h10]; exact h5, h6, h7, h8, h9, h10⟩
theorem vx_L.narrow {C n d : String} {A B : Nat → Prop} {U : State} {H : Heap} (h : vx_L C n d A U H) (hAB : ∀ q, B q → A q) : vx_L C n d B U H := by
  obtain ⟨c, k, i, f, a, cell, h1, h2, h3, h4, h5, h6, h7, h8, h9, h10⟩ := h
  exact ⟨c, k, i, f, a, cell, h1, h2, h3, h4, h5, h6, h7, h8, h9, fun z => h10 (hAB _ z)⟩
theorem vx_L.word {C n d : String} {A : Nat → Prop} {s : State} {args : Array Value} (h : vx_L C n d A s s.heap) : (Cond.laysStatic C n d).before args s = true := by
  obtain ⟨c, k, i, f, a, cell, h1, h2, h3, h4, h5, h6, h7, h8, h9, -⟩ := h
  show (Cond.laysStatic C n d).holds args s none s [] = true
  exact Cond.laysStatic_of h1 h2 h3 h4 h5 h6 h7 h8 h9
/-- .. and what it holds: null or some reference -/
def vx_Zq (C n d : String) (A : Nat → Prop) (U : State) (H : Heap) : Prop := va_Zq C n d A U H ∧ vx_L C n d A U H
theorem vx_Zq.moved {C n d : String} {A : Nat → Prop} {u U : State} {H : Heap} (hvm : u.vm.Alike U.vm) (h : vx_Zq C n d A u H) : vx_Zq C n d A U H := ⟨va_Zq.moved hvm h.1, vx_L.moved hvm h.2⟩
theorem vx_Zq.kept {C n d : String} {A : Nat → Prop} {U : State} {H H1 : Heap} (h : vx_Zq C n d A U H) (hq : ∀ a : Nat, a < H.size → ¬ A a → H1[a]? = H[a]?) : vx_Zq C n d A U H1 := ⟨va_Zq.kept h.1 hq, vx_L.kept h.2 hq⟩
theorem vx_Zq.narrow {C n d : String} {A B : Nat → Prop} {U : State} {H : Heap} (h : vx_Zq C n d A U H) (hAB : ∀ q, B q → A q) : vx_Zq C n d B U H := ⟨va_Zq.narrow h.1 hAB, vx_L.narrow h.2 hAB⟩
theorem vx_Zqof {args : Array Value} {s : State} {C n d : String} {A : Nat → Prop} (hl : (Cond.laysStatic C n d).before args s = true) (hini : (Cond.initialized C).before args s = true) (h : (Cond.isRef (.static C n d)).before args s = true) (hA : ∀ a : Nat, a < s.heap.size → ¬ A a) : vx_Zq C n d A s s.heap := by
  refine ⟨va_Zqof hl hini h hA, ?_⟩
  obtain ⟨c, k, i, f, a, cell, h1, h2, h3, h4, h5, h6, h7, h8, h9⟩ := Cond.laysStatic_spec hl
  exact ⟨c, k, i, f, a, cell, h1, h2, h3, h4, h5, h6, h7, h8, h9, hA a (Array.getElem?_eq_some_iff.mp h5).1⟩
theorem vx_isRef {C n d : String} {v : Value} {A : Nat → Prop} {s : State} {args : Array Value} (h : va_Z C n d v A s s.heap) (hv : v.isRef = true) : (Cond.isRef (.static C n d)).before args s = true := by
  obtain ⟨cf, kf, fi, f, a, cell, h1, h2, h3, h4, h5, h6, h7, -⟩ := h
  have he : (Term.static C n d).eval args s none [] s = some v := by
    simp [Term.eval, State.fieldNamed?, h1, h2, h4, h5, h6, h7]
  simp only [Cond.before, Cond.holds, Cond.value, he]
  cases v <;> simp_all [Value.isRef]
theorem vx_isRefq {C n d : String} {A : Nat → Prop} {s : State} {args : Array Value} (h : va_Zq C n d A s s.heap) : (Cond.isRef (.static C n d)).before args s = true := by
  rcases h with h | ⟨t, h⟩
  · exact vx_isRef h rfl
  · exact vx_isRef h rfl
/-- the same frame, seen from here: as if the method were called anew in this heap -/
theorem vx_rebase {T : State} (X : Stand p l e R s m args below meth c T locs cells slots) {R' : Room} (hf : R'.frames ≤ R.frames) (hl : R'.locals ≤ R.locals) (hc : cells + R'.cells ≤ R.cells) (hs : slots + R'.slots ≤ R.slots) :
    Stand p l e R' ((T.setVm s.vm).setFrames (.invoking m args :: below)) m args below meth c T [] 0 0 := by
  have htop : (T.setVm s.vm).topJava?.isSome := X.here.top
  have hF : ((T.setVm s.vm).setFrames (.invoking m args :: below)).frames = .invoking m args :: below := State.frames_setFrames _ (State.cur_lt_of_top htop)
  obtain ⟨g₀, hg0⟩ := Option.isSome_iff_exists.mp htop
  obtain ⟨r, hr⟩ := State.topJava?_eq_some.mp hg0
  have hl9 : e.platform.stackLimits (T.setVm s.vm).me = e.platform.stackLimits s.me := X.limits
  have hb9 : (T.setVm s.vm).me.stackBytes = s.me.stackBytes := X.bytes
  refine ⟨X.admits, X.cas, X.clock, hF, ?_, X.hears, X.method, X.code, X.here, X.tail, X.warmed, ?_, ?_, ?_⟩
  · have h := X.room
    have hU : ((T.setVm s.vm).setFrames (.invoking m args :: below)).localsInUse = s.localsInUse := by
      rw [State.localsInUse_invoking hF (meth := meth) (c := c) X.method X.code, State.localsInUse_invoking X.frames X.method X.code]
    simp only [State.hasRoom, Bool.and_eq_true, decide_eq_true_eq] at h ⊢
    obtain ⟨⟨⟨⟨h1, h2, h3, h4, h5, h6⟩, h7⟩, h8⟩, h9⟩ := h
    rw [X.frames, List.length_cons] at h2 h3
    have q1 := X.heapSize
    have q2 := X.used
    simp only [hF, hU, List.length_cons, State.stackLimits_setFrames, State.stackBytes_setFrames, hl9, hb9]
    refine ⟨⟨⟨⟨by omega, by omega, by omega, by omega, by omega, h6⟩, ?_⟩, ?_⟩, X.book⟩
    · show T.heap.size + R'.cells ≤ e.platform.maxCells
      omega
    · show T.slotsUsed + R'.slots ≤ e.platform.maxSlots
      omega
  · rw [State.stackLimits_setFrames]; rfl
  · rw [State.stackBytes_setFrames]; rfl
  · refine ⟨?_, Nat.le_refl _, Nat.le_refl _, ?_, ?_, fun a c9 h9 => ⟨c9, h9, rfl, rfl, fun _ _ => rfl⟩⟩
    · obtain ⟨t, ht, -⟩ := State.frames_cons hr
      show T.setVm s.vm = { ((T.setVm s.vm).setFrames (.invoking m args :: below)).setFrames (T.setVm s.vm).frames with heap := T.heap, slotsUsed := T.slotsUsed }
      rw [State.setFrames_setFrames, State.setFrames_self ht]
      rfl
    · show T.slotsUsed = T.slotsUsed + ((T.heap.toList.drop T.heap.size).map (·.slots.size)).sum
      rw [List.drop_eq_nil_of_le (Nat.le_of_eq Array.length_toList)]
      rfl
    · show ((T.heap.toList.drop T.heap.size).map (·.slots.size)).sum ≤ 0
      rw [List.drop_eq_nil_of_le (Nat.le_of_eq Array.length_toList)]
      exact Nat.le_refl _
/-- 'throw new E()': new; dup; invokespecial; athrow -/
theorem vx_throw0 {cc : ByteArray} {pc : Nat} (hexec : p.tables.exec = Jvm.exec) (hb : c.code = cc) (hl : l.stackTraces = false) {own cls : String} {names : List String} {ik ic mc ms : Nat} {A : Nat → Prop}
    (hown : s.vm.findClass own = some m.cls) (hcls : Bundle.fit cls = true) (hnames : ∀ n ∈ names, Bundle.fit n = true)
    (hk : (Cond.classLink own ik cls).before args s = true) (hini : (Cond.initialized cls).before args s = true) (hat : ∀ w ∈ vx_at0 own ic cls names, w.before args s = true)
    (hgood : ∀ w ∈ Cond.classLink own ik cls :: Cond.initialized cls :: vx_at0 own ic cls names, vx_ot w = true)
    (hU : vx_Zq Bundle.tN "UNASSIGNED_STACK" Bundle.steD A s s.heap) (hN : vx_Zq Bundle.tN "SUPPRESSED_SENTINEL" Bundle.listD A s s.heap) (hS : va_S A s.heap H locs) (hsize : ls.size = c.maxLocals)
    (d0 : decode cc pc = .ok (.new ik, 3)) (d3 : decode cc (pc + 3) = .ok (.dup, 1)) (d4 : decode cc (pc + 4) = .ok (.invokespecial ic, 3)) (d7 : decode cc (pc + 7) = .ok (.athrow, 1))
    (hout : ∀ x ∈ c.exceptionTable.toList, covers x (pc + 7) = false)
    (hRframes : names.length + 3 < R.frames) (hRlocals : (rest.map fun v => v.category).sum + (13 * (names.length + 1) + 42) ≤ R.locals) (hRcells : cells + 1 ≤ R.cells) (hRslots : slots + 6 ≤ R.slots) (hlocks : meth.locks = false)
    (hx : ∀ t : State, s.vm.Alike t.vm → H.size ≤ t.heap.size → (∀ q : Nat, q < H.size → t.heap[q]? = H[q]?) → XC cls s t)
    (hf : ∀ z ∈ locs, free z.base) (hc : cells + 1 ≤ mc) (hs : slots + 6 ≤ ms) :
    W p l e R s m args below meth c H locs cells slots (vx_MQ below Qc XC args s mc ms free) (F0 m pc ls rest) := by
  intro T hT X
  have htr : e.platform.stackTraces = false := (show e.platform.stackTraces = l.stackTraces by rw [X.admits.platform]).trans hl
  have Y := vx_rebase X (R' := { frames := R.frames, locals := R.locals, cells := 1, slots := 6 }) (Nat.le_refl _) (Nat.le_refl _) hRcells hRslots
  obtain ⟨s', hA⟩ : ∃ z, z = (T.setVm s.vm).setFrames (.invoking m args :: below) := ⟨_, rfl⟩
  rw [← hA] at Y
  have hvm : s'.vm = s.vm := by rw [hA]; rfl
  have hhp : s'.heap = H := by rw [hA]; exact hT
  have hW0 : s.WarmedH s'.vm := by rw [hvm]; exact State.WarmedH.refl s
  have hat' : ∀ w ∈ vx_at0 own ic cls names, w.before args s' = true := fun w hw => vx_ot_at hW0 hvm.symm (hgood w (List.mem_cons_of_mem _ (List.mem_cons_of_mem _ hw))) (hat w hw)
  have hk' : (Cond.classLink own ik cls).before args s' = true := vx_ot_at hW0 hvm.symm (hgood _ List.mem_cons_self) hk
  have hini' : (Cond.initialized cls).before args s' = true := vx_ot_at hW0 hvm.symm (hgood _ (List.mem_cons_of_mem _ List.mem_cons_self)) hini
  have hU' : vx_Zq Bundle.tN "UNASSIGNED_STACK" Bundle.steD A s' s'.heap := by rw [hhp]; exact vx_Zq.moved hW0.alike (hU.kept hS.2.1)
  have hN' : vx_Zq Bundle.tN "SUPPRESSED_SENTINEL" Bundle.listD A s' s'.heap := by rw [hhp]; exact vx_Zq.moved hW0.alike (hN.kept hS.2.1)
  have h : ∀ w ∈ Bundle.ownAtoms0 own ic cls names, w.before args s' = true := vx_own hat' (vx_isRefq hU'.1) (vx_isRefq hN'.1) hU'.2.word hN'.2.word
  have hown' : s'.vm.findClass own = some m.cls := by rw [hvm]; exact hown
  have hins : (Cond.instantiable cls 6).before args s' = true := h _ (by simp [Bundle.ownAtoms0])
  obtain ⟨vm₁, cX, kX, hfX, hkX, -, -, X₁, st1⟩ := Y.newCold hexec (own := own) (C := cls) (index := ik) (n := 6) hown' hk' hins hini'
    (g := F0 m pc ls rest) rfl (by rw [hb]; exact d0) (Nat.le_refl _) (Nat.le_refl _)
  generalize hT1 : (T.setVm vm₁).pushCell { cls := cX, slots := kX.instanceTypes.map defaultValue, vm := .none } = T1 at X₁ st1
  have hcat : (Value.ref T.heap.size).category = 1 := rfl
  have hcellA : T1.heap[T.heap.size]? = some (freshCell cX kX) := by rw [← hT1]; exact State.heap_pushCell_size _ _
  have d3' : decode c.code (pc + 3) = .ok (.dup, 1) := by rw [hb]; exact d3
  obtain ⟨U, hsteps, hrun, hend, hW, hsame, ce, hce, hO⟩ := X₁.ctorThrow0 hexec htr (own := own) (cls := cls) (names := names) (ic := ic) hown' hcls hnames h (fun x hx => nomatch hx) hfX hkX hcellA (by rw [hhp, hT]; exact Nat.le_refl _)
    (g := { method := m, pc := pc + 4, locals := ls, stack := .ref T.heap.size :: .ref T.heap.size :: rest, locked := none }) rfl hsize rfl rfl (rest := rest) rfl
    (by rw [hb]; exact d4) (by rw [hb]; exact d7) hout hRframes (by simp only [List.map_cons, List.sum_cons, hcat]; omega) hlocks
  obtain ⟨f1, f2⟩ := vx_frame hsame
  rw [hhp] at f1 f2
  have hWs : s.WarmedH U.vm := State.WarmedH.trans hW0 hW
  have hcl : s.vm.findClass cls = some ce.cls := by
    have h9 := hO.cls
    rw [hvm] at h9
    exact h9
  have hall : s.sameButNew ({ U with vm := s.vm } : State) locs mc ms := by
    subst hA
    obtain ⟨e1, e2⟩ := hsame
    rw [State.setFrames_setFrames] at e1
    have h2 : (T.setVm s.vm).sameButNew ({ U with vm := s.vm } : State) [] (0 + 1) (0 + 6) := ⟨e1, e2⟩
    have h3 := X.same.trans h2
    rw [List.append_nil] at h3
    exact h3.mono hc hs
  refine ⟨U, ?_, .threw T.heap.size, hrun, hend, Or.inr ⟨T.heap.size, rfl, cls, ce, locs, hx U hWs.alike f1 (fun q hq => f2 q hq (fun z hz => nomatch hz)), hce, hO.vm, hcl, hWs, hall, hf⟩⟩
  refine st1 _ ?_
  show Steps p.tables e below (T1.setTop { method := m, pc := pc + 3, locals := ls, stack := .ref T.heap.size :: rest, locked := none }) _
  jvm_step X₁.here [X₁.here.top, hexec, d3', Value.category]
  exact hsteps
/-- 'throw new E("text")': new; dup; ldc; invokespecial; athrow -/
theorem vx_throwS {cc : ByteArray} {pc : Nat} (hexec : p.tables.exec = Jvm.exec) (hb : c.code = cc) (hl : l.stackTraces = false) {own cls text : String} {names : List String} {ik is ic mc ms sa : Nat} {A : Nat → Prop}
    (hown : s.vm.findClass own = some m.cls) (hcls : Bundle.fit cls = true) (hnames : ∀ n ∈ names, Bundle.fit n = true)
    (hk : (Cond.classLink own ik cls).before args s = true) (hini : (Cond.initialized cls).before args s = true) (hstr : vk_R own is text sa s) (hat : ∀ w ∈ vx_atS own ic cls names, w.before args s = true)
    (hgood : ∀ w ∈ Cond.classLink own ik cls :: Cond.initialized cls :: vx_atS own ic cls names, vx_ot w = true)
    (hU : vx_Zq Bundle.tN "UNASSIGNED_STACK" Bundle.steD A s s.heap) (hN : vx_Zq Bundle.tN "SUPPRESSED_SENTINEL" Bundle.listD A s s.heap) (hS : va_S A s.heap H locs) (hsize : ls.size = c.maxLocals)
    (d0 : decode cc pc = .ok (.new ik, 3)) (d3 : decode cc (pc + 3) = .ok (.dup, 1)) (d4 : decode cc (pc + 4) = .ok (.ldc is, 2)) (d6 : decode cc (pc + 6) = .ok (.invokespecial ic, 3)) (d9 : decode cc (pc + 9) = .ok (.athrow, 1))
    (hout : ∀ x ∈ c.exceptionTable.toList, covers x (pc + 9) = false)
    (hRframes : names.length + 3 < R.frames) (hRlocals : (rest.map fun v => v.category).sum + (13 * (names.length + 1) + 43) ≤ R.locals) (hRcells : cells + 1 ≤ R.cells) (hRslots : slots + 6 ≤ R.slots) (hlocks : meth.locks = false)
    (hx : ∀ t : State, s.vm.Alike t.vm → H.size ≤ t.heap.size → (∀ q : Nat, q < H.size → t.heap[q]? = H[q]?) → XC cls s t)
    (hf : ∀ z ∈ locs, free z.base) (hc : cells + 1 ≤ mc) (hs : slots + 6 ≤ ms) :
    W p l e R s m args below meth c H locs cells slots (vx_MQ below Qc XC args s mc ms free) (F0 m pc ls rest) := by
  intro T hT X
  have htr : e.platform.stackTraces = false := (show e.platform.stackTraces = l.stackTraces by rw [X.admits.platform]).trans hl
  have Y := vx_rebase X (R' := { frames := R.frames, locals := R.locals, cells := 1, slots := 6 }) (Nat.le_refl _) (Nat.le_refl _) hRcells hRslots
  obtain ⟨s', hA⟩ : ∃ z, z = (T.setVm s.vm).setFrames (.invoking m args :: below) := ⟨_, rfl⟩
  rw [← hA] at Y
  have hvm : s'.vm = s.vm := by rw [hA]; rfl
  have hhp : s'.heap = H := by rw [hA]; exact hT
  have hW0 : s.WarmedH s'.vm := by rw [hvm]; exact State.WarmedH.refl s
  have hat' : ∀ w ∈ vx_atS own ic cls names, w.before args s' = true := fun w hw => vx_ot_at hW0 hvm.symm (hgood w (List.mem_cons_of_mem _ (List.mem_cons_of_mem _ hw))) (hat w hw)
  have hk' : (Cond.classLink own ik cls).before args s' = true := vx_ot_at hW0 hvm.symm (hgood _ List.mem_cons_self) hk
  have hini' : (Cond.initialized cls).before args s' = true := vx_ot_at hW0 hvm.symm (hgood _ (List.mem_cons_of_mem _ List.mem_cons_self)) hini
  have hU' : vx_Zq Bundle.tN "UNASSIGNED_STACK" Bundle.steD A s' s'.heap := by rw [hhp]; exact vx_Zq.moved hW0.alike (hU.kept hS.2.1)
  have hN' : vx_Zq Bundle.tN "SUPPRESSED_SENTINEL" Bundle.listD A s' s'.heap := by rw [hhp]; exact vx_Zq.moved hW0.alike (hN.kept hS.2.1)
  have h : ∀ w ∈ Bundle.ownAtoms own ic cls names, w.before args s' = true := vx_own hat' (vx_isRefq hU'.1) (vx_isRefq hN'.1) hU'.2.word hN'.2.word
  have hown' : s'.vm.findClass own = some m.cls := by rw [hvm]; exact hown
  have hins : (Cond.instantiable cls 6).before args s' = true := h _ (by simp [Bundle.ownAtoms])
  obtain ⟨vm₁, cX, kX, hfX, hkX, -, -, X₁, st1⟩ := Y.newCold hexec (own := own) (C := cls) (index := ik) (n := 6) hown' hk' hins hini'
    (g := F0 m pc ls rest) rfl (by rw [hb]; exact d0) (Nat.le_refl _) (Nat.le_refl _)
  generalize hT1 : (T.setVm vm₁).pushCell { cls := cX, slots := kX.instanceTypes.map defaultValue, vm := .none } = T1 at X₁ st1
  have hcat : (Value.ref T.heap.size).category = 1 := rfl
  have hcellA : T1.heap[T.heap.size]? = some (freshCell cX kX) := by rw [← hT1]; exact State.heap_pushCell_size _ _
  have d3' : decode c.code (pc + 3) = .ok (.dup, 1) := by rw [hb]; exact d3
  have d4' : decode c.code (pc + 4) = .ok (.ldc is, 2) := by rw [hb]; exact d4
  have hstr' : vk_R own is text sa s' := vk_R.warm hW0 hstr
  obtain ⟨U, hsteps, hrun, hend, hW, hsame, ce, hce, hO⟩ := X₁.ctorThrowS hexec htr (own := own) (cls := cls) (names := names) (ic := ic) hown' hcls hnames h (fun x hx => nomatch hx) hfX hkX hcellA (by rw [hhp, hT]; exact Nat.le_refl _) (msg := .ref sa) rfl
    (g := { method := m, pc := pc + 6, locals := ls, stack := .ref sa :: .ref T.heap.size :: .ref T.heap.size :: rest, locked := none }) rfl hsize rfl rfl (rest := rest) rfl
    (by rw [hb]; exact d6) (by rw [hb]; exact d9) hout hRframes (by simp only [List.map_cons, List.sum_cons, hcat]; omega) hlocks
  obtain ⟨f1, f2⟩ := vx_frame hsame
  rw [hhp] at f1 f2
  have hWs : s.WarmedH U.vm := State.WarmedH.trans hW0 hW
  have hcl : s.vm.findClass cls = some ce.cls := by
    have h9 := hO.cls
    rw [hvm] at h9
    exact h9
  have hall : s.sameButNew ({ U with vm := s.vm } : State) locs mc ms := by
    subst hA
    obtain ⟨e1, e2⟩ := hsame
    rw [State.setFrames_setFrames] at e1
    have h2 : (T.setVm s.vm).sameButNew ({ U with vm := s.vm } : State) [] (0 + 1) (0 + 6) := ⟨e1, e2⟩
    have h3 := X.same.trans h2
    rw [List.append_nil] at h3
    exact h3.mono hc hs
  refine ⟨U, ?_, .threw T.heap.size, hrun, hend, Or.inr ⟨T.heap.size, rfl, cls, ce, locs, hx U hWs.alike f1 (fun q hq => f2 q hq (fun z hz => nomatch hz)), hce, hO.vm, hcl, hWs, hall, hf⟩⟩
  refine st1 _ ?_
  show Steps p.tables e below (T1.setTop { method := m, pc := pc + 3, locals := ls, stack := .ref T.heap.size :: rest, locked := none }) _
  jvm_step X₁.here [X₁.here.top, hexec, d3', Value.category]
  exact X₁.ldcString hexec (own := own) (text := text) (index := is) (a := sa) hown' hstr'.1 hstr'.2
    (g := { method := m, pc := pc + 4, locals := ls, stack := .ref T.heap.size :: .ref T.heap.size :: rest, locked := none }) rfl d4' _ hsteps
/-- 'throw new E("text")', the text by a wide index -/
theorem vx_throwSW {cc : ByteArray} {pc : Nat} (hexec : p.tables.exec = Jvm.exec) (hb : c.code = cc) (hl : l.stackTraces = false) {own cls text : String} {names : List String} {ik is ic mc ms sa : Nat} {A : Nat → Prop}
    (hown : s.vm.findClass own = some m.cls) (hcls : Bundle.fit cls = true) (hnames : ∀ n ∈ names, Bundle.fit n = true)
    (hk : (Cond.classLink own ik cls).before args s = true) (hini : (Cond.initialized cls).before args s = true) (hstr : vk_R own is text sa s) (hat : ∀ w ∈ vx_atS own ic cls names, w.before args s = true)
    (hgood : ∀ w ∈ Cond.classLink own ik cls :: Cond.initialized cls :: vx_atS own ic cls names, vx_ot w = true)
    (hU : vx_Zq Bundle.tN "UNASSIGNED_STACK" Bundle.steD A s s.heap) (hN : vx_Zq Bundle.tN "SUPPRESSED_SENTINEL" Bundle.listD A s s.heap) (hS : va_S A s.heap H locs) (hsize : ls.size = c.maxLocals)
    (d0 : decode cc pc = .ok (.new ik, 3)) (d3 : decode cc (pc + 3) = .ok (.dup, 1)) (d4 : decode cc (pc + 4) = .ok (.ldc_w is, 3)) (d7 : decode cc (pc + 7) = .ok (.invokespecial ic, 3)) (d10 : decode cc (pc + 10) = .ok (.athrow, 1))
    (hout : ∀ x ∈ c.exceptionTable.toList, covers x (pc + 10) = false)
    (hRframes : names.length + 3 < R.frames) (hRlocals : (rest.map fun v => v.category).sum + (13 * (names.length + 1) + 43) ≤ R.locals) (hRcells : cells + 1 ≤ R.cells) (hRslots : slots + 6 ≤ R.slots) (hlocks : meth.locks = false)
    (hx : ∀ t : State, s.vm.Alike t.vm → H.size ≤ t.heap.size → (∀ q : Nat, q < H.size → t.heap[q]? = H[q]?) → XC cls s t)
    (hf : ∀ z ∈ locs, free z.base) (hc : cells + 1 ≤ mc) (hs : slots + 6 ≤ ms) :
    W p l e R s m args below meth c H locs cells slots (vx_MQ below Qc XC args s mc ms free) (F0 m pc ls rest) := by
  intro T hT X
  have htr : e.platform.stackTraces = false := (show e.platform.stackTraces = l.stackTraces by rw [X.admits.platform]).trans hl
  have Y := vx_rebase X (R' := { frames := R.frames, locals := R.locals, cells := 1, slots := 6 }) (Nat.le_refl _) (Nat.le_refl _) hRcells hRslots
  obtain ⟨s', hA⟩ : ∃ z, z = (T.setVm s.vm).setFrames (.invoking m args :: below) := ⟨_, rfl⟩
  rw [← hA] at Y
  have hvm : s'.vm = s.vm := by rw [hA]; rfl
  have hhp : s'.heap = H := by rw [hA]; exact hT
  have hW0 : s.WarmedH s'.vm := by rw [hvm]; exact State.WarmedH.refl s
  have hat' : ∀ w ∈ vx_atS own ic cls names, w.before args s' = true := fun w hw => vx_ot_at hW0 hvm.symm (hgood w (List.mem_cons_of_mem _ (List.mem_cons_of_mem _ hw))) (hat w hw)
  have hk' : (Cond.classLink own ik cls).before args s' = true := vx_ot_at hW0 hvm.symm (hgood _ List.mem_cons_self) hk
  have hini' : (Cond.initialized cls).before args s' = true := vx_ot_at hW0 hvm.symm (hgood _ (List.mem_cons_of_mem _ List.mem_cons_self)) hini
  have hU' : vx_Zq Bundle.tN "UNASSIGNED_STACK" Bundle.steD A s' s'.heap := by rw [hhp]; exact vx_Zq.moved hW0.alike (hU.kept hS.2.1)
  have hN' : vx_Zq Bundle.tN "SUPPRESSED_SENTINEL" Bundle.listD A s' s'.heap := by rw [hhp]; exact vx_Zq.moved hW0.alike (hN.kept hS.2.1)
  have h : ∀ w ∈ Bundle.ownAtoms own ic cls names, w.before args s' = true := vx_own hat' (vx_isRefq hU'.1) (vx_isRefq hN'.1) hU'.2.word hN'.2.word
  have hown' : s'.vm.findClass own = some m.cls := by rw [hvm]; exact hown
  have hins : (Cond.instantiable cls 6).before args s' = true := h _ (by simp [Bundle.ownAtoms])
  obtain ⟨vm₁, cX, kX, hfX, hkX, -, -, X₁, st1⟩ := Y.newCold hexec (own := own) (C := cls) (index := ik) (n := 6) hown' hk' hins hini'
    (g := F0 m pc ls rest) rfl (by rw [hb]; exact d0) (Nat.le_refl _) (Nat.le_refl _)
  generalize hT1 : (T.setVm vm₁).pushCell { cls := cX, slots := kX.instanceTypes.map defaultValue, vm := .none } = T1 at X₁ st1
  have hcat : (Value.ref T.heap.size).category = 1 := rfl
  have hcellA : T1.heap[T.heap.size]? = some (freshCell cX kX) := by rw [← hT1]; exact State.heap_pushCell_size _ _
  have d3' : decode c.code (pc + 3) = .ok (.dup, 1) := by rw [hb]; exact d3
  have d4' : decode c.code (pc + 4) = .ok (.ldc_w is, 3) := by rw [hb]; exact d4
  have hstr' : vk_R own is text sa s' := vk_R.warm hW0 hstr
  obtain ⟨U, hsteps, hrun, hend, hW, hsame, ce, hce, hO⟩ := X₁.ctorThrowS hexec htr (own := own) (cls := cls) (names := names) (ic := ic) hown' hcls hnames h (fun x hx => nomatch hx) hfX hkX hcellA (by rw [hhp, hT]; exact Nat.le_refl _) (msg := .ref sa) rfl
    (g := { method := m, pc := pc + 7, locals := ls, stack := .ref sa :: .ref T.heap.size :: .ref T.heap.size :: rest, locked := none }) rfl hsize rfl rfl (rest := rest) rfl
    (by rw [hb]; exact d7) (by rw [hb]; exact d10) hout hRframes (by simp only [List.map_cons, List.sum_cons, hcat]; omega) hlocks
  obtain ⟨f1, f2⟩ := vx_frame hsame
  rw [hhp] at f1 f2
  have hWs : s.WarmedH U.vm := State.WarmedH.trans hW0 hW
  have hcl : s.vm.findClass cls = some ce.cls := by
    have h9 := hO.cls
    rw [hvm] at h9
    exact h9
  have hall : s.sameButNew ({ U with vm := s.vm } : State) locs mc ms := by
    subst hA
    obtain ⟨e1, e2⟩ := hsame
    rw [State.setFrames_setFrames] at e1
    have h2 : (T.setVm s.vm).sameButNew ({ U with vm := s.vm } : State) [] (0 + 1) (0 + 6) := ⟨e1, e2⟩
    have h3 := X.same.trans h2
    rw [List.append_nil] at h3
    exact h3.mono hc hs
  refine ⟨U, ?_, .threw T.heap.size, hrun, hend, Or.inr ⟨T.heap.size, rfl, cls, ce, locs, hx U hWs.alike f1 (fun q hq => f2 q hq (fun z hz => nomatch hz)), hce, hO.vm, hcl, hWs, hall, hf⟩⟩
  refine st1 _ ?_
  show Steps p.tables e below (T1.setTop { method := m, pc := pc + 3, locals := ls, stack := .ref T.heap.size :: rest, locked := none }) _
  jvm_step X₁.here [X₁.here.top, hexec, d3', Value.category]
  exact X₁.ldcStringW hexec (own := own) (text := text) (index := is) (a := sa) hown' hstr'.1 hstr'.2
    (g := { method := m, pc := pc + 4, locals := ls, stack := .ref T.heap.size :: .ref T.heap.size :: rest, locked := none }) rfl d4' _ hsteps
end Ends
section Bodies
variable {l : Launch}
theorem vx_ofW {y : MethodName} {ws ws' : List Cond} {rm : Room} {Pc : Array Value → State → Prop} {Qc : Array Value → State → Outcome → State → Prop} {XC : String → State → State → Prop} {mc ms : Nat} {free : Addr → Prop} {cc : ByteArray} {maxL : Nat} {ret : Option FieldType}
    (hy : plainName y.cls = true) (hw : ws = Cond.code y cc maxL ret :: ws')
    (body : ∀ p e s m args below meth c s₁, BodyLoose p l y (headSpec ws rm) cc maxL ret e s m args below meth c s₁ → c.maxLocals = maxL → (∀ x ∈ c.exceptionTable.toList, False) → Pc args s →
      W p l e (headSpec ws rm).room s m args below meth c s.heap [] 0 0 (vx_MQ below Qc XC args s mc ms free) (entryFrame m args maxL)) : vx_Met l y ws rm Pc Qc XC mc ms free := by
  refine MetFree.of_bodyS (code := cc) (maxLocals := maxL) (ret := ret) hy ?_ ?_
  · intro args s m h hn
    obtain ⟨meth, c, h1, h2, h3, h4, h5, h6, -, -⟩ := Cond.code_spec hn (atoms_spec (ws := ws) h _ (by rw [hw]; exact List.mem_cons_self))
    exact ⟨meth, c, h1, h2, h3, h4, h5, h6⟩
  · intro p e s m args below meth c s₁ B hml hP _
    have hh0 : s₁.heap = s.heap := by rw [B.state]; rfl
    have ht : ∀ x ∈ c.exceptionTable.toList, False := by
      obtain ⟨meth9, c9, h1, h2, -, -, -, -, h7, -⟩ := Cond.code_spec B.named (atoms_spec (ws := ws) B.pre _ (by rw [hw]; exact List.mem_cons_self))
      cases Option.some.inj (h1.symm.trans B.method)
      cases Option.some.inj (h2.symm.trans (Stand.of_body B).code)
      intro x hx
      rw [Array.isEmpty_iff.mp h7] at hx
      cases hx
    obtain ⟨t, a1, o, b1, b2, b3⟩ := body p e s m args below meth c s₁ B hml ht hP s₁ hh0 (Stand.of_body B)
    exact ⟨t, o, a1, b1, b2, b3⟩
/-- the table of a body with handlers -/
theorem vx_table {p : Program} {x y : MethodName} {S : Spec} {cc bytes : ByteArray} {maxL maxL' : Nat} {ret ret' : Option FieldType} {e : Env} {s s₁ : State} {m : MethodId} {args : Array Value} {below : List Frame} {meth : Method} {c : Code} {hh : List (Nat × Nat × Nat × Nat)}
    (B : BodyLoose p l y S cc maxL ret e s m args below meth c s₁) (h : (Cond.codeWith y bytes maxL' ret' hh).before args s = true) : c.exceptionTable.toList = tableOf hh := by
  obtain ⟨m9, meth9, c9, hn9, h1, h2, -, -, h6, -⟩ := Cond.codeWith_spec h
  cases Option.some.inj (hn9.symm.trans B.named)
  cases Option.some.inj (h1.symm.trans B.method)
  cases Option.some.inj (h2.symm.trans (Stand.of_body B).code)
  rw [← h6, table_eq]
end Bodies
end VXA
/-! ===== END ===== -/
/-! ===== BEGIN a static call of a method with an exception table ===== -/
section VXS
variable {p : Program} {l : Launch} {e : Env} {R : Room} {s : State} {m : MethodId} {args : Array Value} {below : List Frame} {meth : Method} {c : Code} {T : State} {H : Heap} {locs : List Loc} {cells slots : Nat}
abbrev vx_CSW (R : Room) (s : State) (args : Array Value) (own : String) (index : Nat) (y : MethodName) (bytes : ByteArray) (maxL : Nat) (ret : Option FieldType) (hh : List (Nat × Nat × Nat × Nat)) (ws : List Cond) (rm : Room) (mc ms n : Nat) : Prop :=
  (rm.cells = mc ∧ rm.slots = ms ∧ rm.frames + 1 ≤ R.frames ∧ 8 + (maxL + 11) + rm.locals ≤ R.locals ∧ (∀ w ∈ ws, ∀ (a' : Array Value) (U : State), s.WarmedH U.vm → w.before a' U = true) ∧ Cond.codeWith y bytes maxL ret hh ∈ ws) ∧
  (Cond.codeWith y bytes maxL ret hh).before args s = true ∧ (Cond.initialized y.cls).before args s = true ∧ (y.cls ≠ "java/lang/invoke/MethodHandle" ∧ y.cls ≠ "java/lang/invoke/VarHandle") ∧
  (∀ sig, parseMethodDescriptor y.desc = some sig → n = sig.parameters.length) ∧ (Cond.methodLink own index y).before args s = true ∧ (Cond.static y).before args s = true
theorem vx_cwSW {own : String} {index maxL mc ms : Nat} {y : MethodName} {bytes : ByteArray} {ret : Option FieldType} {hh : List (Nat × Nat × Nat × Nat)} {Ts ws ws' : List Cond} {rm : Room} (n : Nat) (ht : ∀ w ∈ Ts, w.before args s = true) (hT : GoodIn Ts (va_wsS own index y ws)) (hw : ws = Cond.codeWith y bytes maxL ret hh :: ws') (hrc : rm.cells = mc) (hrs : rm.slots = ms)
    (hd : y.cls ≠ "java/lang/invoke/MethodHandle" ∧ y.cls ≠ "java/lang/invoke/VarHandle" ∧ (parseMethodDescriptor y.desc).map (fun d => d.parameters.length) = some n) (hR : rm.frames + 1 ≤ R.frames ∧ 8 + (maxL + 11) + rm.locals ≤ R.locals) :
    vx_CSW R s args own index y bytes maxL ret hh ws rm mc ms n := by
  have ok : ∀ w ∈ va_wsS own index y ws, w.before args s = true := fun w h => ht w (hT w h).1
  have hG : GoodIn Ts ws := fun w h => hT w (by unfold va_wsS; exact List.mem_append_right _ h)
  have hc : Cond.codeWith y bytes maxL ret hh ∈ ws := by rw [hw]; exact List.mem_cons_self
  refine ⟨⟨hrc, hrs, hR.1, hR.2, pay_in ht hG, hc⟩, ht _ (hG _ hc).1, ok _ (by simp [va_wsS]), ⟨hd.1, hd.2.1⟩, fun sig h => ?_, ok _ (by simp [va_wsS]), ok _ (by simp [va_wsS])⟩
  have h2 := hd.2.2
  rw [h] at h2
  exact (Option.some.inj h2).symm
theorem vx_callSW (X : Stand p l e R s m args below meth c T locs cells slots) (hexec : p.tables.exec = Jvm.exec) {own : String} {index : Nat} {y : MethodName} {bytes : ByteArray} {maxL : Nat} {ret : Option FieldType} {hh : List (Nat × Nat × Nat × Nat)}
    (hown : s.vm.findClass own = some m.cls) (hlink : (Cond.methodLink own index y).before args s = true) (hstat : (Cond.static y).before args s = true) (hinit : (Cond.initialized y.cls).before args s = true)
    (hcode : (Cond.codeWith y bytes maxL ret hh).before args s = true) (hy : y.cls ≠ "java/lang/invoke/MethodHandle" ∧ y.cls ≠ "java/lang/invoke/VarHandle")
    {W9 : Nat} {Pre : Pt → Array Value → Prop} {Post : Pt → Array Value → Option Value → Pt → Prop} (hK : Back l R p e below s args y 3 W9 Pre Post)
    {g : JFrame} (hg : g.method = m) (hsize : g.locals.size = c.maxLocals) {argsL rest : List Value} (hlen : ∀ sig, parseMethodDescriptor y.desc = some sig → argsL.length = sig.parameters.length)
    (hstack : g.stack = argsL.reverse ++ rest) (hW : 2 * g.monitorRoom + (rest.map fun v => v.category).sum ≤ W9) (hdg : decode c.code g.pc = .ok (.invokestatic index, 3))
    (hpre : ∀ vm₁, s.WarmedH vm₁ → Pre ⟨T.setVm vm₁, locs, cells, slots⟩ argsL.toArray) :
    ∃ (v : Option Value) (vm₁ : Vm) (B : Pt), s.WarmedH vm₁ ∧ Stand p l e R s m args below meth c B.U B.locs B.cells B.slots ∧ Post ⟨T.setVm vm₁, locs, cells, slots⟩ argsL.toArray v B ∧
      ∀ target, Steps p.tables e below (B.U.setTop { g with pc := g.pc + 3, stack := v.toList ++ rest }) target → Steps p.tables e below (T.setTop g) target := by
  obtain ⟨mk, methM, cM, hnamed, hmethM, -, -, -, -, -, -, hsigM⟩ := Cond.codeWith_spec hcode
  have hstatic : methM.isStatic = true := Cond.static_spec hnamed hmethM hstat
  obtain ⟨kP, hkP, -⟩ := className_of_methodNamed hnamed
  have hinitP : kP.init = .initialized := Cond.initialized_spec (findClass_of_methodNamed hnamed) hkP hinit
  obtain ⟨vm₁, X₁, hstep₁⟩ := X.invokestatic hexec hown hlink hnamed hmethM hstatic hkP hinitP hy (g := g) hg (argsL := argsL) (rest := rest) (hlen _ hsigM) hstack hdg
  obtain ⟨v, B, X', hpost, hsteps⟩ := hK m meth c ⟨T.setVm vm₁, locs, cells, slots⟩ { g with stack := rest } (.invokestatic index) mk argsL.toArray X₁ hg hsize hdg hW (X₁.named hnamed) (hpre vm₁ X₁.warmed)
  exact ⟨v, vm₁, B, X₁.warmed, X', hpost, fun target h => hstep₁ _ fun acts => by rw [doInvoke_state]; exact hsteps.trans h⟩
theorem vx_runSW {y : MethodName} {bytes cc : ByteArray} {maxL nL mc ms n index : Nat} {ret : Option FieldType} {hh : List (Nat × Nat × Nat × Nat)} {ws : List Cond} {rm : Room} {Pc : Array Value → State → Prop} {Qc : Array Value → State → Outcome → State → Prop} {free : Addr → Prop} {Ts : List Cond} {own : String} {As rest : List Value} {g : JFrame}
    (S : CallFix p m c cc nL s args Ts own) (hM : Met l y ws rm Pc Qc mc ms free) (cw : vx_CSW R s args own index y bytes maxL ret hh ws rm mc ms n) (hp : PreS s H Pc As)
    (hg : g.method = m) (hn : As.length = n) (hsize : g.locals.size = nL) (hstack : g.stack = As.reverse ++ rest) (hW : 2 * g.monitorRoom + (rest.map fun v => v.category).sum ≤ 8) (hdg : decode cc g.pc = .ok (.invokestatic index, 3)) (hf : cells + mc ≤ R.cells ∧ slots + ms ≤ R.slots) :
    va_Run p l e R s m args below meth c H locs cells slots mc ms g rest (Qc As.toArray) (free) := by
  obtain ⟨⟨hrc, hrs, hfr, hlo, hws, hcw⟩, hcode, hini, hy, hlen, hl, hstt⟩ := cw
  have hK : Back l R p e below s args y 3 8 (PreOf R mc ms Pc) (PostOf Qc mc ms free) := va_backW (hh := hh) (bytes := bytes) (maxL := maxL) (ret := ret) hM hp.1 hrc hrs hfr hlo hws hcw (fun a' U hW => word_at hW (Or.inl (by first | rfl | simp [Cond.onTables, Cond.keeps, Cond.steady])) hini)
  obtain ⟨hx, hb, hml, ho, -⟩ := S
  intro T hT X
  obtain ⟨v, vm₁, ⟨U', l2, c2, s2⟩, hW₁, X', ⟨g', mk, t, L, e1, e2, hq, h1, hL, h2, h3⟩, st⟩ := vx_callSW X hx (hh := hh) (bytes := bytes) (maxL := maxL) (ret := ret) ho hl hstt hini hcode hy hK hg (hsize.trans hml.symm) (argsL := As) (rest := rest) (fun sig h => hn.trans (hlen sig h)) hstack hW (by rw [hb]; exact hdg)
    (fun vm₁ hW₁ => ⟨hf.1, hf.2, hp.2 (T.setVm vm₁) hT hW₁⟩)
  dsimp only [Pt.U, Pt.locs, Pt.cells, Pt.slots] at X' e1 e2 h1 h2 h3 st
  subst h1; subst h2; subst h3
  exact ⟨v, (T.setVm vm₁).calling g' mk As.toArray, t, U', L, hT, X', hL, e1, e2, hq, st⟩
/-- not caught here, past rows that name other classes: it goes on to the caller -/
theorem vx_outP {p : Program} {l : Launch} {e : Env} {R : Room} {s : State} {m : MethodId} {args : Array Value} {below : List Frame} {meth : Method} {c : Code} {H : Heap} {locs : List Loc} {cells slots : Nat} {free : Addr → Prop} {ls : Array Slot} {rest : List Value} {Qc : Array Value → State → Outcome → State → Prop} {XC : String → State → State → Prop}
    {pc : Nat} {own E : String} {ce : Cell} {q : Addr} {mc ms : Nat} (hown : s.vm.findClass own = some m.cls) (hlocks : meth.locks = false)
    (hpass : ∀ z ∈ c.exceptionTable.toList, covers z pc = false ∨ (z.catchType ≠ 0 ∧ ∃ nm : String, (Cond.classLink own z.catchType nm).before args s = true ∧ va_Nc E nm s)) (hcell : H[q]? = some ce) (hv : ce.vm = .none) (hcl : s.vm.findClass E = some ce.cls)
    (hx : ∀ t : State, t.heap = H → s.vm.Alike t.vm → XC E s t) (hf : ∀ z ∈ locs, free z.base) (hc : cells ≤ mc) (hs : slots ≤ ms) :
    vx_W p l e R s m args below meth c H locs cells slots (vx_MQ below Qc XC args s mc ms free) (F0 m pc ls rest) q := by
  intro T hT X
  have hpl : e.platform.magicAccessors = ({} : Platform).magicAccessors := by rw [X.admits.platform]
  obtain ⟨vm', hW', X', st⟩ := X.outThrough hlocks q (g := F0 m pc ls rest) rfl rfl rfl (cell := ce) (by rw [hT]; exact hcell) (by rw [hv]; rfl)
    (by obtain ⟨k9, h9, -⟩ := Vm.findClass_spec hcl; exact ⟨k9, h9⟩) (fun z hz => by
      rcases hpass z hz with h | ⟨hz0, nm, hl1, hn1⟩
      · exact Or.inl h
      · obtain ⟨c6, hc6, hcl6⟩ := Cond.classLink_spec hown hl1 e.platform hpl
        obtain ⟨a8, b8, h1, h2, h3⟩ := hn1
        cases Option.some.inj (h1.symm.trans hcl)
        cases Option.some.inj (h2.symm.trans hc6)
        exact Or.inr ⟨hz0, _, hcl6, h3⟩)
  obtain ⟨g₀, hfr⟩ := X'.frames_eq
  have hcell9 : ((T.setVm vm').setFrames (.throwing q :: below)).heap[q]? = some ce := by
    show T.heap[q]? = some ce
    rw [hT]; exact hcell
  have hend : Ended ((T.setVm vm').setFrames (.throwing q :: below)) below (.threw q) := State.frames_setFrames _ (State.cur_lt_of_frames hfr)
  refine ⟨(T.setVm vm').setFrames (.throwing q :: below), ?_, .threw q, X'.here.running, hend, Or.inr ⟨q, rfl, E, ce, locs, hx _ hT (X'.ends _).1.alike, hcell9, hv, hcl, (X'.ends _).1, (X'.ends _).2.mono hc hs, hf⟩⟩
  rw [X.pushThrowing_eq]
  exact st
/-- a thing of a world lies in the heap -/
theorem vx_lt {D : va_G} {cl : List vw_C} {ws : va_W} {H1 : Heap} (h : va_P D cl ws H1) {k : Nat} {q : Nat × va_E} (hk : ws[k]? = some q) : q.1 < H1.size := (h k q hk).lt
end VXS
/-! ===== END ===== -/
/-! ===== BEGIN methods with a table of their own: called by a name, returning or throwing ===== -/
section VXH
/-! vx_backW, vx_callVX, vx_callSX, vx_callVW, vx_runVW, vx_runVX, vx_runSX, vx_ofWH follow the same proofs as their sisters above (Free/Laws.lean, Shelf42/LK1.lean); vx_outP calls Shelf42/NT130.lean (outThrough). -/
section
variable {l : Launch} {R : Room} {p : Program} {e : Env} {below : List Frame} {s : State} {sargs : Array Value} {y : MethodName} {len W9 : Nat}
theorem vx_backW {ws : List Cond} {rm : Room} {Pc : Array Value → State → Prop} {Qc : Array Value → State → Outcome → State → Prop} {XC : String → State → State → Prop} {mc ms : Nat} {free : Addr → Prop} {bytes : ByteArray} {maxL : Nat} {ret : Option FieldType} {hh : List (Nat × Nat × Nat × Nat)}
    (hM : vx_Met l y ws rm Pc Qc XC mc ms free) (hblind : FrameBlind Pc) (hrc : rm.cells = mc) (hrs : rm.slots = ms)
    (hframes : rm.frames + 1 ≤ R.frames) (hlocals : W9 + (maxL + 11) + rm.locals ≤ R.locals)
    (hws : ∀ w ∈ ws, ∀ a' U, s.WarmedH U.vm → w.before a' U = true) (hcode : Cond.codeWith y bytes maxL ret hh ∈ ws) (hinit : ∀ a' U, s.WarmedH U.vm → (Cond.initialized y.cls).before a' U = true) :
    vx_Back l R p e below s sargs y len W9 (PreOf R mc ms Pc) (PostOf Qc mc ms free) (vx_Post XC mc ms free) := by
  intro m meth c A g ig mk a X hg hsize hdg hW hn hp
  have h1 : (headSpec ws rm).pre.before a A.U = true := atoms_intro fun w hw => hws w hw _ _ X.warmed
  have h2 : (Cond.codeWith y bytes maxL ret hh).before a A.U = true := hws _ hcode _ _ X.warmed
  have h3 : (Cond.initialized y.cls).before a A.U = true := hinit _ _ X.warmed
  have h4 : A.cells + (headSpec ws rm).room.cells ≤ R.cells := by rw [show (headSpec ws rm).room.cells = mc from hrc]; exact hp.1
  have h5 : A.slots + (headSpec ws rm).room.slots ≤ R.slots := by rw [show (headSpec ws rm).room.slots = ms from hrs]; exact hp.2.1
  have hPc : Pc a (A.U.calling g mk a) := hblind _ _ _ _ hp.2.2
  obtain ⟨U, Ls, c0, s0⟩ := A
  dsimp only [Pt.U, Pt.locs, Pt.cells, Pt.slots] at h1 h2 h3 h4 h5 X hn hPc ⊢
  obtain ⟨m9, methY, cY, hn9, hmY, hcY, -, hlY, -⟩ := Cond.codeWith_spec h2
  cases Option.some.inj (hn9.symm.trans hn)
  obtain ⟨kY, hkY, -⟩ := className_of_methodNamed hn
  have hinitY : kY.init = .initialized := Cond.initialized_spec (findClass_of_methodNamed hn) hkY h3
  have h : At U g.method c below := by rw [hg]; exact X.here
  have hlocals9 : W9 + (maxL + 11) + (headSpec ws rm).room.locals ≤ R.locals := hlocals
  have happ : (headSpec ws rm).appliesLoose y e.platform (U.calling g mk a) = true :=
    Spec.appliesLoose_calling (g := g) h hdg hn hkY hinitY
      (X.room_calling (g := g) (R' := (headSpec ws rm).room) hsize hmY hcY hframes (by rw [hlY]; omega) h4 h5) h1
  obtain ⟨mid, hmid⟩ := h.above
  have hfr : (U.setTop g).frames = (.java g :: mid) ++ below := by rw [State.frames_setTop' g h.top, hmid]; rfl
  obtain ⟨o, s₂, hsteps, -, hend, hq⟩ := Steps.callFree hM p X.admits X.cas X.clock (acts := []) hfr happ hPc trivial
  have hq' : vx_Q Qc XC mc ms free a (U.calling g mk a) o s₂ := hq
  rw [State.frames_setTop' g h.top] at hend
  obtain ⟨g₀, hg0⟩ := Option.isSome_iff_exists.mp h.top
  obtain ⟨r, hr⟩ := State.topJava?_eq_some.mp hg0
  have hr' : (({ U with heap := s₂.heap, slotsUsed := s₂.slotsUsed } : State).setVm s₂.vm).frames = .java g₀ :: r := hr
  rcases hq' with ⟨hqc, L, hfe, hL⟩ | ⟨q, rfl, E, ce, L, hx, hce, hcv, hcl, hW₂, hsm, hL⟩
  · obtain ⟨⟨v, rfl⟩, hW₂, e2, q2, q3, q4, q5, q6⟩ := id hfe
    have e3 : s₂ = ({ (U.calling g mk a).setFrames s₂.frames with heap := s₂.heap, slotsUsed := s₂.slotsUsed } : State).setVm s₂.vm := by
      have : s₂ = ({ s₂ with vm := (U.calling g mk a).vm } : State).setVm s₂.vm := rfl
      rw [e2] at this
      exact this
    obtain ⟨c₂, i₂, len₂, hc₂, hd₂, hf₂⟩ := hend
    have hW' : U.WarmedH s₂.vm := hW₂
    have hcc : c₂ = c := by
      have h1 : s₂.code? g.method = U.code? g.method := by
        rw [State.code?_eq, State.code?_eq, hW'.alike.method?]
      exact Option.some.inj (hc₂.symm.trans (h1.trans h.code))
    subst hcc
    have hlen : len₂ = len := by rw [hdg] at hd₂; cases hd₂; rfl
    subst hlen
    have hs₂ : s₂ = (({ U with heap := s₂.heap, slotsUsed := s₂.slotsUsed } : State).setVm s₂.vm).setTop { g with pc := g.pc + len₂, stack := v.toList ++ g.stack } := by
      refine e3.trans ?_
      rw [hf₂, State.calling_eq h.top, State.setFrames_setFrames, State.setTop_of_frames _ hr', hr]
      rfl
    have hsame : U.sameButNew ({ U with heap := s₂.heap, slotsUsed := s₂.slotsUsed } : State) L mc ms := by
      refine ⟨?_, q2, q3, q4, q5, q6⟩
      obtain ⟨t, ht, -⟩ := State.frames_cons hr
      show ({ U with heap := s₂.heap, slotsUsed := s₂.slotsUsed } : State) = { U.setFrames U.frames with heap := s₂.heap, slotsUsed := s₂.slotsUsed }
      rw [State.setFrames_self ht]
    subst hg
    refine Or.inl ⟨v, ⟨(({ U with heap := s₂.heap, slotsUsed := s₂.slotsUsed } : State).setVm s₂.vm), Ls ++ L, c0 + mc, s0 + ms⟩,
      ⟨X.admits, X.cas, X.clock, X.frames, X.room, X.hears, X.method, X.code, (X.here.setHeapUsed s₂.heap s₂.slotsUsed).setVm hW'.alike, X.tail, State.WarmedH.trans X.warmed hW', X.limits, X.bytes, X.same.trans (hsame.setVm s.vm)⟩,
      ⟨g, mk, s₂, L, rfl, rfl, hqc, rfl, hL, rfl, rfl⟩, ?_⟩
    show Steps p.tables e below _ ((({ U with heap := s₂.heap, slotsUsed := s₂.slotsUsed } : State).setVm s₂.vm).setTop { g with pc := g.pc + len₂, stack := v.toList ++ g.stack })
    rw [← hs₂]
    exact hsteps
  · obtain ⟨e2, q2, q3, q4, q5, q6⟩ := id hsm
    have e3 : s₂ = ({ (U.calling g mk a).setFrames s₂.frames with heap := s₂.heap, slotsUsed := s₂.slotsUsed } : State).setVm s₂.vm := by
      have : s₂ = ({ s₂ with vm := (U.calling g mk a).vm } : State).setVm s₂.vm := rfl
      rw [e2] at this
      exact this
    have hf₂ : s₂.frames = .throwing q :: .java g :: U.frames.tail := hend
    have hW' : U.WarmedH s₂.vm := hW₂
    have hs₂ : s₂ = ((({ U with heap := s₂.heap, slotsUsed := s₂.slotsUsed } : State).setVm s₂.vm).setTop g).pushFrame (.throwing q) := by
      refine e3.trans ?_
      rw [hf₂, State.calling_eq h.top, State.setFrames_setFrames, State.pushFrame, State.frames_setTop _ hr', State.setTop_of_frames _ hr', State.setFrames_setFrames, hr]
      rfl
    have hsame : U.sameButNew ({ U with heap := s₂.heap, slotsUsed := s₂.slotsUsed } : State) L mc ms := by
      refine ⟨?_, q2, q3, q4, q5, q6⟩
      obtain ⟨t, ht, -⟩ := State.frames_cons hr
      show ({ U with heap := s₂.heap, slotsUsed := s₂.slotsUsed } : State) = { U.setFrames U.frames with heap := s₂.heap, slotsUsed := s₂.slotsUsed }
      rw [State.setFrames_self ht]
    subst hg
    refine Or.inr ⟨q, ⟨(({ U with heap := s₂.heap, slotsUsed := s₂.slotsUsed } : State).setVm s₂.vm), Ls ++ L, c0 + mc, s0 + ms⟩,
      ⟨X.admits, X.cas, X.clock, X.frames, X.room, X.hears, X.method, X.code, (X.here.setHeapUsed s₂.heap s₂.slotsUsed).setVm hW'.alike, X.tail, State.WarmedH.trans X.warmed hW', X.limits, X.bytes, X.same.trans (hsame.setVm s.vm)⟩,
      ⟨g, mk, s₂, L, E, ce, rfl, rfl, hx, hce, hcv, hcl, rfl, hL, rfl, rfl⟩, ?_⟩
    show Steps p.tables e below _ (((({ U with heap := s₂.heap, slotsUsed := s₂.slotsUsed } : State).setVm s₂.vm).setTop g).pushFrame (.throwing q))
    rw [← hs₂]
    exact hsteps
end
variable {p : Program} {l : Launch} {e : Env} {R : Room} {s : State} {m : MethodId} {args : Array Value} {below : List Frame} {meth : Method} {c : Code} {T : State} {H : Heap} {locs : List Loc} {cells slots : Nat}
theorem vx_callVX (X : Stand p l e R s m args below meth c T locs cells slots) (hexec : p.tables.exec = Jvm.exec) {own C : String} {index : Nat} {y : MethodName} {bytes : ByteArray} {maxL : Nat} {ret : Option FieldType} {hh : List (Nat × Nat × Nat × Nat)}
    (hown : s.vm.findClass own = some m.cls) (hlink : (Cond.methodLink own index y).before args s = true) (hinst : (Cond.instanceMethod y).before args s = true) (hsel : (Cond.selects C y y).before args s = true)
    (hcode : (Cond.codeWith y bytes maxL ret hh).before args s = true) (hy : y.cls ≠ "java/lang/invoke/MethodHandle" ∧ y.cls ≠ "java/lang/invoke/VarHandle")
    {W9 : Nat} {Pre : Pt → Array Value → Prop} {Post : Pt → Array Value → Option Value → Pt → Prop} {PostX : Pt → Array Value → Addr → Pt → Prop} (hK : vx_Back l R p e below s args y 3 W9 Pre Post PostX)
    {b : Addr} {cellB : Cell} (hcell : T.heap[b]? = some cellB) (hobj : cellB.vm.isStatics = false) (hcls : s.vm.findClass C = some cellB.cls)
    {g : JFrame} (hg : g.method = m) (hsize : g.locals.size = c.maxLocals) {argsL rest : List Value} (hlen : ∀ sig, parseMethodDescriptor y.desc = some sig → argsL.length = sig.parameters.length)
    (hstack : g.stack = argsL.reverse ++ .ref b :: rest) (hW : 2 * g.monitorRoom + (rest.map fun v => v.category).sum ≤ W9) (hdg : decode c.code g.pc = .ok (.invokevirtual index, 3))
    (hpre : ∀ vm₁, s.WarmedH vm₁ → Pre ⟨T.setVm vm₁, locs, cells, slots⟩ (Value.ref b :: argsL).toArray) :
    (∃ (v : Option Value) (vm₁ : Vm) (B : Pt), s.WarmedH vm₁ ∧ Stand p l e R s m args below meth c B.U B.locs B.cells B.slots ∧ Post ⟨T.setVm vm₁, locs, cells, slots⟩ (Value.ref b :: argsL).toArray v B ∧
      ∀ target, Steps p.tables e below (B.U.setTop { g with pc := g.pc + 3, stack := v.toList ++ rest }) target → Steps p.tables e below (T.setTop g) target) ∨
    (∃ (q : Addr) (vm₁ : Vm) (B : Pt), s.WarmedH vm₁ ∧ Stand p l e R s m args below meth c B.U B.locs B.cells B.slots ∧ PostX ⟨T.setVm vm₁, locs, cells, slots⟩ (Value.ref b :: argsL).toArray q B ∧
      Steps p.tables e below (T.setTop g) ((B.U.setTop { g with stack := rest }).pushFrame (.throwing q))) := by
  obtain ⟨mk, methM, hnamed, hmethM, hstM, habM⟩ := Cond.instanceMethod_spec hinst
  obtain ⟨m8, methM', cM, hn8, hmethM', -, -, -, -, -, -, hsigM⟩ := Cond.codeWith_spec hcode
  cases Option.some.inj (hn8.symm.trans hnamed)
  cases hmethM.symm.trans hmethM'
  obtain ⟨c2, r2, m2, q1, q2, q3, q4, kP, hkP, hkPi⟩ := Cond.selects_spec hsel
  cases hcls.symm.trans q1
  cases (State.methodFound?_of_named hnamed hy).symm.trans q2
  cases hnamed.symm.trans q3
  have hselP : selectMethod e.platform s.vm cellB.cls mk = .method mk := by rw [Launch.admits_selectMethod X.admits]; exact q4
  obtain ⟨vm₁, X₁, hstep₁⟩ := X.invokevirtual hexec hown hlink hnamed hmethM hstM hkP hkPi hy (a := b) (cell := cellB) hcell
    (fun z h => by rw [h] at hobj; cases hobj) hselP hmethM habM hkP hkPi (g := g) hg (argsL := argsL) (rest := rest) (hlen _ hsigM) hstack hdg
  rcases hK m meth c ⟨T.setVm vm₁, locs, cells, slots⟩ { g with stack := rest } (.invokevirtual index) mk (Value.ref b :: argsL).toArray X₁ hg hsize hdg hW (X₁.named hnamed) (hpre vm₁ X₁.warmed) with ⟨v, B, X', hpost, hsteps⟩ | ⟨q, B, X', hpost, hsteps⟩
  · exact Or.inl ⟨v, vm₁, B, X₁.warmed, X', hpost, fun target h => hstep₁ _ fun acts => by rw [doInvoke_state]; exact hsteps.trans h⟩
  · exact Or.inr ⟨q, vm₁, B, X₁.warmed, X', hpost, hstep₁ _ fun acts => by rw [doInvoke_state]; exact hsteps⟩
theorem vx_callSX (X : Stand p l e R s m args below meth c T locs cells slots) (hexec : p.tables.exec = Jvm.exec) {own : String} {index : Nat} {y : MethodName} {bytes : ByteArray} {maxL : Nat} {ret : Option FieldType} {hh : List (Nat × Nat × Nat × Nat)}
    (hown : s.vm.findClass own = some m.cls) (hlink : (Cond.methodLink own index y).before args s = true) (hstat : (Cond.static y).before args s = true) (hinit : (Cond.initialized y.cls).before args s = true)
    (hcode : (Cond.codeWith y bytes maxL ret hh).before args s = true) (hy : y.cls ≠ "java/lang/invoke/MethodHandle" ∧ y.cls ≠ "java/lang/invoke/VarHandle")
    {W9 : Nat} {Pre : Pt → Array Value → Prop} {Post : Pt → Array Value → Option Value → Pt → Prop} {PostX : Pt → Array Value → Addr → Pt → Prop} (hK : vx_Back l R p e below s args y 3 W9 Pre Post PostX)
    {g : JFrame} (hg : g.method = m) (hsize : g.locals.size = c.maxLocals) {argsL rest : List Value} (hlen : ∀ sig, parseMethodDescriptor y.desc = some sig → argsL.length = sig.parameters.length)
    (hstack : g.stack = argsL.reverse ++ rest) (hW : 2 * g.monitorRoom + (rest.map fun v => v.category).sum ≤ W9) (hdg : decode c.code g.pc = .ok (.invokestatic index, 3))
    (hpre : ∀ vm₁, s.WarmedH vm₁ → Pre ⟨T.setVm vm₁, locs, cells, slots⟩ argsL.toArray) :
    (∃ (v : Option Value) (vm₁ : Vm) (B : Pt), s.WarmedH vm₁ ∧ Stand p l e R s m args below meth c B.U B.locs B.cells B.slots ∧ Post ⟨T.setVm vm₁, locs, cells, slots⟩ argsL.toArray v B ∧
      ∀ target, Steps p.tables e below (B.U.setTop { g with pc := g.pc + 3, stack := v.toList ++ rest }) target → Steps p.tables e below (T.setTop g) target) ∨
    (∃ (q : Addr) (vm₁ : Vm) (B : Pt), s.WarmedH vm₁ ∧ Stand p l e R s m args below meth c B.U B.locs B.cells B.slots ∧ PostX ⟨T.setVm vm₁, locs, cells, slots⟩ argsL.toArray q B ∧
      Steps p.tables e below (T.setTop g) ((B.U.setTop { g with stack := rest }).pushFrame (.throwing q))) := by
  obtain ⟨mk, methM, cM, hnamed, hmethM, -, -, -, -, -, -, hsigM⟩ := Cond.codeWith_spec hcode
  have hstatic : methM.isStatic = true := Cond.static_spec hnamed hmethM hstat
  obtain ⟨kP, hkP, -⟩ := className_of_methodNamed hnamed
  have hinitP : kP.init = .initialized := Cond.initialized_spec (findClass_of_methodNamed hnamed) hkP hinit
  obtain ⟨vm₁, X₁, hstep₁⟩ := X.invokestatic hexec hown hlink hnamed hmethM hstatic hkP hinitP hy (g := g) hg (argsL := argsL) (rest := rest) (hlen _ hsigM) hstack hdg
  rcases hK m meth c ⟨T.setVm vm₁, locs, cells, slots⟩ { g with stack := rest } (.invokestatic index) mk argsL.toArray X₁ hg hsize hdg hW (X₁.named hnamed) (hpre vm₁ X₁.warmed) with ⟨v, B, X', hpost, hsteps⟩ | ⟨q, B, X', hpost, hsteps⟩
  · exact Or.inl ⟨v, vm₁, B, X₁.warmed, X', hpost, fun target h => hstep₁ _ fun acts => by rw [doInvoke_state]; exact hsteps.trans h⟩
  · exact Or.inr ⟨q, vm₁, B, X₁.warmed, X', hpost, hstep₁ _ fun acts => by rw [doInvoke_state]; exact hsteps⟩
theorem vx_callVW (X : Stand p l e R s m args below meth c T locs cells slots) (hexec : p.tables.exec = Jvm.exec) {own C : String} {index : Nat} {y : MethodName} {bytes : ByteArray} {maxL : Nat} {ret : Option FieldType} {hh : List (Nat × Nat × Nat × Nat)}
    (hown : s.vm.findClass own = some m.cls) (hlink : (Cond.methodLink own index y).before args s = true) (hinst : (Cond.instanceMethod y).before args s = true) (hsel : (Cond.selects C y y).before args s = true)
    (hcode : (Cond.codeWith y bytes maxL ret hh).before args s = true) (hy : y.cls ≠ "java/lang/invoke/MethodHandle" ∧ y.cls ≠ "java/lang/invoke/VarHandle")
    {W9 : Nat} {Pre : Pt → Array Value → Prop} {Post : Pt → Array Value → Option Value → Pt → Prop} (hK : Back l R p e below s args y 3 W9 Pre Post)
    {b : Addr} {cellB : Cell} (hcell : T.heap[b]? = some cellB) (hobj : cellB.vm.isStatics = false) (hcls : s.vm.findClass C = some cellB.cls)
    {g : JFrame} (hg : g.method = m) (hsize : g.locals.size = c.maxLocals) {argsL rest : List Value} (hlen : ∀ sig, parseMethodDescriptor y.desc = some sig → argsL.length = sig.parameters.length)
    (hstack : g.stack = argsL.reverse ++ .ref b :: rest) (hW : 2 * g.monitorRoom + (rest.map fun v => v.category).sum ≤ W9) (hdg : decode c.code g.pc = .ok (.invokevirtual index, 3))
    (hpre : ∀ vm₁, s.WarmedH vm₁ → Pre ⟨T.setVm vm₁, locs, cells, slots⟩ (Value.ref b :: argsL).toArray) :
    ∃ (v : Option Value) (vm₁ : Vm) (B : Pt), s.WarmedH vm₁ ∧ Stand p l e R s m args below meth c B.U B.locs B.cells B.slots ∧ Post ⟨T.setVm vm₁, locs, cells, slots⟩ (Value.ref b :: argsL).toArray v B ∧
      ∀ target, Steps p.tables e below (B.U.setTop { g with pc := g.pc + 3, stack := v.toList ++ rest }) target → Steps p.tables e below (T.setTop g) target := by
  obtain ⟨mk, methM, hnamed, hmethM, hstM, habM⟩ := Cond.instanceMethod_spec hinst
  obtain ⟨m8, methM', cM, hn8, hmethM', -, -, -, -, -, -, hsigM⟩ := Cond.codeWith_spec hcode
  cases Option.some.inj (hn8.symm.trans hnamed)
  cases hmethM.symm.trans hmethM'
  obtain ⟨c2, r2, m2, q1, q2, q3, q4, kP, hkP, hkPi⟩ := Cond.selects_spec hsel
  cases hcls.symm.trans q1
  cases (State.methodFound?_of_named hnamed hy).symm.trans q2
  cases hnamed.symm.trans q3
  have hselP : selectMethod e.platform s.vm cellB.cls mk = .method mk := by rw [Launch.admits_selectMethod X.admits]; exact q4
  obtain ⟨vm₁, X₁, hstep₁⟩ := X.invokevirtual hexec hown hlink hnamed hmethM hstM hkP hkPi hy (a := b) (cell := cellB) hcell
    (fun z h => by rw [h] at hobj; cases hobj) hselP hmethM habM hkP hkPi (g := g) hg (argsL := argsL) (rest := rest) (hlen _ hsigM) hstack hdg
  obtain ⟨v, B, X', hpost, hsteps⟩ := hK m meth c ⟨T.setVm vm₁, locs, cells, slots⟩ { g with stack := rest } (.invokevirtual index) mk (Value.ref b :: argsL).toArray X₁ hg hsize hdg hW (X₁.named hnamed) (hpre vm₁ X₁.warmed)
  exact ⟨v, vm₁, B, X₁.warmed, X', hpost, fun target h => hstep₁ _ fun acts => by rw [doInvoke_state]; exact hsteps.trans h⟩
abbrev vx_CVW (R : Room) (s : State) (args : Array Value) (own C : String) (index : Nat) (y : MethodName) (bytes : ByteArray) (maxL : Nat) (ret : Option FieldType) (hh : List (Nat × Nat × Nat × Nat)) (ws : List Cond) (rm : Room) (mc ms n : Nat) : Prop :=
  (rm.cells = mc ∧ rm.slots = ms ∧ rm.frames + 1 ≤ R.frames ∧ 8 + (maxL + 11) + rm.locals ≤ R.locals ∧ (∀ w ∈ ws, ∀ (a' : Array Value) (U : State), s.WarmedH U.vm → w.before a' U = true) ∧ Cond.codeWith y bytes maxL ret hh ∈ ws) ∧
  (Cond.codeWith y bytes maxL ret hh).before args s = true ∧ (Cond.initialized y.cls).before args s = true ∧ (y.cls ≠ "java/lang/invoke/MethodHandle" ∧ y.cls ≠ "java/lang/invoke/VarHandle") ∧
  (∀ sig, parseMethodDescriptor y.desc = some sig → n = sig.parameters.length) ∧ (Cond.methodLink own index y).before args s = true ∧ (Cond.instanceMethod y).before args s = true ∧ (Cond.selects C y y).before args s = true
theorem vx_cwVW {own C : String} {index maxL mc ms : Nat} {y : MethodName} {bytes : ByteArray} {ret : Option FieldType} {hh : List (Nat × Nat × Nat × Nat)} {Ts ws ws' : List Cond} {rm : Room} (n : Nat) (ht : ∀ w ∈ Ts, w.before args s = true) (hT : GoodIn Ts (wsV own index C y ws)) (hw : ws = Cond.codeWith y bytes maxL ret hh :: ws') (hrc : rm.cells = mc) (hrs : rm.slots = ms)
    (hd : y.cls = C ∧ y.cls ≠ "java/lang/invoke/MethodHandle" ∧ y.cls ≠ "java/lang/invoke/VarHandle" ∧ (parseMethodDescriptor y.desc).map (fun d => d.parameters.length) = some n) (hR : rm.frames + 1 ≤ R.frames ∧ 8 + (maxL + 11) + rm.locals ≤ R.locals) :
    vx_CVW R s args own C index y bytes maxL ret hh ws rm mc ms n := by
  obtain ⟨hC, hd⟩ := hd
  subst hC
  have ok : ∀ w ∈ wsV own index y.cls y ws, w.before args s = true := fun w h => ht w (hT w h).1
  have hG : GoodIn Ts ws := fun w h => hT w (by unfold wsV; exact List.mem_append_right _ h)
  have hc : Cond.codeWith y bytes maxL ret hh ∈ ws := by rw [hw]; exact List.mem_cons_self
  refine ⟨⟨hrc, hrs, hR.1, hR.2, pay_in ht hG, hc⟩, ht _ (hG _ hc).1, ok _ (by simp [wsV]), ⟨hd.1, hd.2.1⟩, fun sig h => ?_, ok _ (by simp [wsV]), ok _ (by simp [wsV]), ok _ (by simp [wsV])⟩
  have h2 := hd.2.2
  rw [h] at h2
  exact (Option.some.inj h2).symm
theorem vx_runVW {y : MethodName} {bytes cc : ByteArray} {maxL nL mc ms n index : Nat} {ret : Option FieldType} {hh : List (Nat × Nat × Nat × Nat)} {ws : List Cond} {rm : Room} {Pc : Array Value → State → Prop} {Qc : Array Value → State → Outcome → State → Prop} {free : Addr → Prop} {Ts : List Cond} {own C : String} {b : Addr} {As rest : List Value} {g : JFrame}
    (S : CallFix p m c cc nL s args Ts own) (hM : Met l y ws rm Pc Qc mc ms free) (cw : vx_CVW R s args own C index y bytes maxL ret hh ws rm mc ms n) (hp : PreV s H C b Pc As)
    (hg : g.method = m) (hn : As.length = n) (hsize : g.locals.size = nL) (hstack : g.stack = As.reverse ++ .ref b :: rest) (hW : 2 * g.monitorRoom + (rest.map fun v => v.category).sum ≤ 8) (hdg : decode cc g.pc = .ok (.invokevirtual index, 3)) (hf : cells + mc ≤ R.cells ∧ slots + ms ≤ R.slots) :
    va_Run p l e R s m args below meth c H locs cells slots mc ms g rest (Qc (Value.ref b :: As).toArray) free := by
  obtain ⟨⟨hrc, hrs, hfr, hlo, hws, hcw⟩, hcode, hini, hy, hlen, hl, hin, hse⟩ := cw
  have hK : Back l R p e below s args y 3 8 (PreOf R mc ms Pc) (PostOf Qc mc ms free) := va_backW (hh := hh) (bytes := bytes) (maxL := maxL) (ret := ret) hM hp.1 hrc hrs hfr hlo hws hcw (fun a' U hW => word_at hW (Or.inl (by first | rfl | simp [Cond.onTables, Cond.keeps, Cond.steady])) hini)
  obtain ⟨hx, hb, hml, ho, -⟩ := S
  obtain ⟨-, ⟨cellB, hcB, hoB, hclB⟩, hPc⟩ := hp
  intro T hT X
  obtain ⟨v, vm₁, ⟨U', l2, c2, s2⟩, hW₁, X', ⟨g', mk, t, L, e1, e2, hq, h1, hL, h2, h3⟩, st⟩ := vx_callVW X hx (C := C) (hh := hh) (bytes := bytes) (maxL := maxL) (ret := ret) ho hl hin hse hcode hy hK (by rw [hT]; exact hcB) hoB hclB hg (hsize.trans hml.symm) (argsL := As) (rest := rest) (fun sig h => hn.trans (hlen sig h)) hstack hW (by rw [hb]; exact hdg)
    (fun vm₁ hW₁ => ⟨hf.1, hf.2, hPc (T.setVm vm₁) hT hW₁⟩)
  dsimp only [Pt.U, Pt.locs, Pt.cells, Pt.slots] at X' e1 e2 h1 h2 h3 st
  subst h1; subst h2; subst h3
  exact ⟨v, (T.setVm vm₁).calling g' mk (Value.ref b :: As).toArray, t, U', L, hT, X', hL, e1, e2, hq, st⟩
section
variable {y : MethodName} {bytes cc : ByteArray} {maxL nL mc ms n index : Nat} {ret : Option FieldType} {ws : List Cond} {rm : Room} {Pc : Array Value → State → Prop} {Qc : Array Value → State → Outcome → State → Prop} {XC : String → State → State → Prop} {free : Addr → Prop} {Ts : List Cond} {own C : String} {b : Addr} {As rest : List Value} {g : JFrame}
theorem vx_runVX {hh : List (Nat × Nat × Nat × Nat)} (S : CallFix p m c cc nL s args Ts own) (hM : vx_Met l y ws rm Pc Qc XC mc ms free) (cw : vx_CVW R s args own C index y bytes maxL ret hh ws rm mc ms n) (hp : PreV s H C b Pc As)
    (hg : g.method = m) (hn : As.length = n) (hsize : g.locals.size = nL) (hstack : g.stack = As.reverse ++ .ref b :: rest) (hW : 2 * g.monitorRoom + (rest.map fun v => v.category).sum ≤ 8) (hdg : decode cc g.pc = .ok (.invokevirtual index, 3)) (hf : cells + mc ≤ R.cells ∧ slots + ms ≤ R.slots) :
    vx_Run p l e R s m args below meth c H locs cells slots mc ms g rest (Qc (Value.ref b :: As).toArray) XC free := by
  obtain ⟨⟨hrc, hrs, hfr, hlo, hws, hcw⟩, hcode, hini, hy, hlen, hl, hin, hse⟩ := cw
  have hK : vx_Back l R p e below s args y 3 8 (PreOf R mc ms Pc) (PostOf Qc mc ms free) (vx_Post XC mc ms free) := vx_backW (hh := hh) (bytes := bytes) (maxL := maxL) (ret := ret) hM hp.1 hrc hrs hfr hlo hws hcw (fun a' U hW => word_at hW (Or.inl (by first | rfl | simp [Cond.onTables, Cond.keeps, Cond.steady])) hini)
  obtain ⟨hx, hb, hml, ho, -⟩ := S
  obtain ⟨-, ⟨cellB, hcB, hoB, hclB⟩, hPc⟩ := hp
  intro T hT X
  rcases vx_callVX X hx (C := C) (hh := hh) (bytes := bytes) (maxL := maxL) (ret := ret) ho hl hin hse hcode hy hK (by rw [hT]; exact hcB) hoB hclB hg (hsize.trans hml.symm) (argsL := As) (rest := rest) (fun sig h => hn.trans (hlen sig h)) hstack hW (by rw [hb]; exact hdg)
    (fun vm₁ hW₁ => ⟨hf.1, hf.2, hPc (T.setVm vm₁) hT hW₁⟩) with ⟨v, vm₁, ⟨U', l2, c2, s2⟩, hW₁, X', ⟨g', mk, t, L, e1, e2, hq, h1, hL, h2, h3⟩, st⟩ | ⟨q, vm₁, ⟨U', l2, c2, s2⟩, hW₁, X', ⟨g', mk, t, L, E, ce, e1, e2, hq, hce, hcv, hcl, h1, hL, h2, h3⟩, st⟩
  · dsimp only [Pt.U, Pt.locs, Pt.cells, Pt.slots] at X' e1 e2 h1 h2 h3 st
    subst h1; subst h2; subst h3
    exact Or.inl ⟨v, (T.setVm vm₁).calling g' mk (Value.ref b :: As).toArray, t, U', L, hT, X', hL, e1, e2, hq, st⟩
  · dsimp only [Pt.U, Pt.locs, Pt.cells, Pt.slots] at X' e1 e2 h1 h2 h3 st hcl
    subst h1; subst h2; subst h3
    exact Or.inr ⟨q, (T.setVm vm₁).calling g' mk (Value.ref b :: As).toArray, t, U', L, E, ce, hT, X', hL, e1, e2, hq, hce, hcv, vx_cls hW₁ hcl, st⟩
theorem vx_runSX {hh : List (Nat × Nat × Nat × Nat)} (S : CallFix p m c cc nL s args Ts own) (hM : vx_Met l y ws rm Pc Qc XC mc ms free) (cw : vx_CSW R s args own index y bytes maxL ret hh ws rm mc ms n) (hp : PreS s H Pc As)
    (hg : g.method = m) (hn : As.length = n) (hsize : g.locals.size = nL) (hstack : g.stack = As.reverse ++ rest) (hW : 2 * g.monitorRoom + (rest.map fun v => v.category).sum ≤ 8) (hdg : decode cc g.pc = .ok (.invokestatic index, 3)) (hf : cells + mc ≤ R.cells ∧ slots + ms ≤ R.slots) :
    vx_Run p l e R s m args below meth c H locs cells slots mc ms g rest (Qc As.toArray) XC free := by
  obtain ⟨⟨hrc, hrs, hfr, hlo, hws, hcw⟩, hcode, hini, hy, hlen, hl, hstt⟩ := cw
  have hK : vx_Back l R p e below s args y 3 8 (PreOf R mc ms Pc) (PostOf Qc mc ms free) (vx_Post XC mc ms free) := vx_backW (hh := hh) (bytes := bytes) (maxL := maxL) (ret := ret) hM hp.1 hrc hrs hfr hlo hws hcw (fun a' U hW => word_at hW (Or.inl (by first | rfl | simp [Cond.onTables, Cond.keeps, Cond.steady])) hini)
  obtain ⟨hx, hb, hml, ho, -⟩ := S
  intro T hT X
  rcases vx_callSX X hx (hh := hh) (bytes := bytes) (maxL := maxL) (ret := ret) ho hl hstt hini hcode hy hK hg (hsize.trans hml.symm) (argsL := As) (rest := rest) (fun sig h => hn.trans (hlen sig h)) hstack hW (by rw [hb]; exact hdg)
    (fun vm₁ hW₁ => ⟨hf.1, hf.2, hp.2 (T.setVm vm₁) hT hW₁⟩) with ⟨v, vm₁, ⟨U', l2, c2, s2⟩, hW₁, X', ⟨g', mk, t, L, e1, e2, hq, h1, hL, h2, h3⟩, st⟩ | ⟨q, vm₁, ⟨U', l2, c2, s2⟩, hW₁, X', ⟨g', mk, t, L, E, ce, e1, e2, hq, hce, hcv, hcl, h1, hL, h2, h3⟩, st⟩
  · dsimp only [Pt.U, Pt.locs, Pt.cells, Pt.slots] at X' e1 e2 h1 h2 h3 st
    subst h1; subst h2; subst h3
    exact Or.inl ⟨v, (T.setVm vm₁).calling g' mk As.toArray, t, U', L, hT, X', hL, e1, e2, hq, st⟩
  · dsimp only [Pt.U, Pt.locs, Pt.cells, Pt.slots] at X' e1 e2 h1 h2 h3 st hcl
    subst h1; subst h2; subst h3
    exact Or.inr ⟨q, (T.setVm vm₁).calling g' mk As.toArray, t, U', L, E, ce, hT, X', hL, e1, e2, hq, hce, hcv, vx_cls hW₁ hcl, st⟩
end
end VXH
theorem vx_ofWH {l : Launch} {y : MethodName} {ws ws' : List Cond} {rm : Room} {Pc : Array Value → State → Prop} {Qc : Array Value → State → Outcome → State → Prop} {XC : String → State → State → Prop} {mc ms : Nat} {free : Addr → Prop} {cc : ByteArray} {maxL : Nat} {ret : Option FieldType} {hh : List (Nat × Nat × Nat × Nat)}
    (hy : plainName y.cls = true) (hw : ws = Cond.codeWith y cc maxL ret hh :: ws')
    (body : ∀ p e s m args below meth c s₁, BodyLoose p l y (headSpec ws rm) cc maxL ret e s m args below meth c s₁ → c.maxLocals = maxL → Pc args s →
      W p l e (headSpec ws rm).room s m args below meth c s.heap [] 0 0 (vx_MQ below Qc XC args s mc ms free) (entryFrame m args maxL)) : vx_Met l y ws rm Pc Qc XC mc ms free := by
  refine MetFree.of_bodyS (code := cc) (maxLocals := maxL) (ret := ret) hy ?_ ?_
  · intro args s m h hn
    obtain ⟨m9, meth, c, hn9, h1, h2, h3, h4, -, h5, h6, -⟩ := Cond.codeWith_spec (atoms_spec (ws := ws) h _ (by rw [hw]; exact List.mem_cons_self))
    cases hn.symm.trans hn9
    exact ⟨meth, c, h1, h2, h3, h4, h5, h6⟩
  · intro p e s m args below meth c s₁ B hml hP _
    have hh0 : s₁.heap = s.heap := by rw [B.state]; rfl
    obtain ⟨t, a1, o, b1, b2, b3⟩ := body p e s m args below meth c s₁ B hml hP s₁ hh0 (Stand.of_body B)
    exact ⟨t, o, a1, b1, b2, b3⟩
/-! ===== END ===== -/

/-! ===== BEGIN a constructor that throws (launches without stack traces) ===== -/
section VXIA
variable {p : Program} {l : Launch} {e : Env} {R : Room} {s : State} {m : MethodId} {args : Array Value} {below : List Frame} {meth : Method} {c : Code} {T : State} {locs : List Loc} {cells slots : Nat}
theorem vx_callI (X : Stand p l e R s m args below meth c T locs cells slots) (hexec : p.tables.exec = Jvm.exec) {own : String} {index : Nat} {y : MethodName} {bytes : ByteArray} {maxL : Nat}
    (hown : s.vm.findClass own = some m.cls) (hy1 : y.name = "<init>") (hlink : (Cond.methodLink own index y).before args s = true) (hinst : (Cond.instanceMethod y).before args s = true)
    (hcode : (Cond.code y bytes maxL none).before args s = true) (hy : y.cls ≠ "java/lang/invoke/MethodHandle" ∧ y.cls ≠ "java/lang/invoke/VarHandle")
    {W9 : Nat} {Pre : Pt → Array Value → Prop} {Post : Pt → Array Value → Option Value → Pt → Prop} {PostX : Pt → Array Value → Addr → Pt → Prop} (hK : vx_Back l R p e below s args y 3 W9 Pre Post PostX)
    {g : JFrame} (hg : g.method = m) (hsize : g.locals.size = c.maxLocals) {a : Addr} {argsL rest : List Value} (hlen : ∀ sig, parseMethodDescriptor y.desc = some sig → argsL.length = sig.parameters.length)
    (hstack : g.stack = argsL.reverse ++ .ref a :: rest) (hW : 2 * g.monitorRoom + (rest.map fun v => v.category).sum ≤ W9) (hdg : decode c.code g.pc = .ok (.invokespecial index, 3))
    (hpre : ∀ vm₁, s.WarmedH vm₁ → Pre ⟨T.setVm vm₁, locs, cells, slots⟩ (Value.ref a :: argsL).toArray) :
    (∃ (v : Option Value) (vm₁ : Vm) (B : Pt), s.WarmedH vm₁ ∧ Stand p l e R s m args below meth c B.U B.locs B.cells B.slots ∧ Post ⟨T.setVm vm₁, locs, cells, slots⟩ (Value.ref a :: argsL).toArray v B ∧
      ∀ target, Steps p.tables e below (B.U.setTop { g with pc := g.pc + 3, stack := v.toList ++ rest }) target → Steps p.tables e below (T.setTop g) target) ∨
    (∃ (q : Addr) (vm₁ : Vm) (B : Pt), s.WarmedH vm₁ ∧ Stand p l e R s m args below meth c B.U B.locs B.cells B.slots ∧ PostX ⟨T.setVm vm₁, locs, cells, slots⟩ (Value.ref a :: argsL).toArray q B ∧
      Steps p.tables e below (T.setTop g) ((B.U.setTop { g with stack := rest }).pushFrame (.throwing q))) := by
  subst hg
  have hpl : e.platform.magicAccessors = ({} : Platform).magicAccessors := by rw [X.admits.platform]
  obtain ⟨mk, methM, cM, kP, vm₁, hnamed, hmethM, hcodeM, -, hlocalsM, -, hkP, -, hW₁, hstep₁⟩ := Steps.initColdArgs (e := e) X.here hexec X.warmed hpl hown hy1 hy hlink hinst hcode (f := g) rfl hlen hstack hdg
  have X₁ := X.noted hW₁
  rcases hK g.method meth c ⟨T.setVm vm₁, locs, cells, slots⟩ { g with stack := rest } (.invokespecial index) mk (Value.ref a :: argsL).toArray X₁ rfl hsize hdg hW (X₁.named hnamed) (hpre vm₁ X₁.warmed) with ⟨v, B, X', hpost, hsteps⟩ | ⟨q, B, X', hpost, hsteps⟩
  · exact Or.inl ⟨v, vm₁, B, X₁.warmed, X', hpost, fun target h => hstep₁ _ fun acts => by rw [doInvoke_state]; exact hsteps.trans h⟩
  · exact Or.inr ⟨q, vm₁, B, X₁.warmed, X', hpost, hstep₁ _ fun acts => by rw [doInvoke_state]; exact hsteps⟩
end VXIA
section VXIB
variable {p : Program} {l : Launch} {e : Env} {R : Room} {s : State} {m : MethodId} {args : Array Value} {below : List Frame} {meth : Method} {c : Code} {H : Heap} {locs : List Loc} {cells slots : Nat}
variable {y : MethodName} {bytes cc : ByteArray} {maxL nL mc ms n index : Nat} {ret : Option FieldType} {ws : List Cond} {rm : Room} {Pc : Array Value → State → Prop} {Qc : Array Value → State → Outcome → State → Prop} {XC : String → State → State → Prop} {free : Addr → Prop} {Ts : List Cond} {own C : String} {b : Addr} {As rest : List Value} {g : JFrame}
theorem vx_runI (S : CallFix p m c cc nL s args Ts own) (hM : vx_Met l y ws rm Pc Qc XC mc ms free) (cw : CallB R s args own index y bytes maxL none ws rm mc ms n ∧ y.name = "<init>" ∧ (Cond.instanceMethod y).before args s = true) (hp : PreS s H Pc (.ref b :: As))
    (hg : g.method = m) (hn : As.length = n) (hsize : g.locals.size = nL) (hstack : g.stack = As.reverse ++ .ref b :: rest) (hW : 2 * g.monitorRoom + (rest.map fun v => v.category).sum ≤ 8) (hdg : decode cc g.pc = .ok (.invokespecial index, 3)) (hf : cells + mc ≤ R.cells ∧ slots + ms ≤ R.slots) :
    vx_Run p l e R s m args below meth c H locs cells slots mc ms g rest (Qc (Value.ref b :: As).toArray) XC free := by
  have hK : vx_Back l R p e below s args y 3 8 (PreOf R mc ms Pc) (PostOf Qc mc ms free) (vx_Post XC mc ms free) := vx_callBack cw.1 hM hp.1
  obtain ⟨⟨-, -, -, -, -, -, hcode, -, hy, hlen, hl⟩, hy1, hin⟩ := cw
  obtain ⟨hx, hb, hml, ho, -⟩ := S
  have hPc := hp.2
  intro T hT X
  rcases vx_callI X hx (bytes := bytes) (maxL := maxL) ho hy1 hl hin hcode hy hK hg (hsize.trans hml.symm) (a := b) (argsL := As) (rest := rest) (fun sig h => hn.trans (hlen sig h)) hstack hW (by rw [hb]; exact hdg)
    (fun vm₁ hW₁ => ⟨hf.1, hf.2, hPc (T.setVm vm₁) hT hW₁⟩) with ⟨v, vm₁, ⟨U', l2, c2, s2⟩, hW₁, X', ⟨g', mk, t, L, e1, e2, hq, h1, hL, h2, h3⟩, st⟩ | ⟨q, vm₁, ⟨U', l2, c2, s2⟩, hW₁, X', ⟨g', mk, t, L, E, ce, e1, e2, hq, hce, hcv, hcl, h1, hL, h2, h3⟩, st⟩
  · dsimp only [Pt.U, Pt.locs, Pt.cells, Pt.slots] at X' e1 e2 h1 h2 h3 st
    subst h1; subst h2; subst h3
    exact Or.inl ⟨v, (T.setVm vm₁).calling g' mk (Value.ref b :: As).toArray, t, U', L, hT, X', hL, e1, e2, hq, st⟩
  · dsimp only [Pt.U, Pt.locs, Pt.cells, Pt.slots] at X' e1 e2 h1 h2 h3 st hcl
    subst h1; subst h2; subst h3
    exact Or.inr ⟨q, (T.setVm vm₁).calling g' mk (Value.ref b :: As).toArray, t, U', L, E, ce, hT, X', hL, e1, e2, hq, hce, hcv, vx_cls hW₁ hcl, st⟩
end VXIB
/-! ===== END ===== -/
/-! ===== BEGIN a private constructor of a nest mate that throws ===== -/
section VXIC
variable {p : Program} {l : Launch} {e : Env} {R : Room} {s : State} {m : MethodId} {args : Array Value} {below : List Frame} {meth : Method} {c : Code} {T : State} {locs : List Loc} {cells slots : Nat}
theorem vx_callIN (X : Stand p l e R s m args below meth c T locs cells slots) (hexec : p.tables.exec = Jvm.exec) {own : String} {index : Nat} {host : String} {y : MethodName} {bytes : ByteArray} {maxL : Nat}
    (hown : s.vm.findClass own = some m.cls) (hy1 : y.name = "<init>") (hlink : (Cond.methodLinkNest own index y host).before args s = true) (hinst : (Cond.instanceMethod y).before args s = true)
    (hcode : (Cond.code y bytes maxL none).before args s = true) (hy : y.cls ≠ "java/lang/invoke/MethodHandle" ∧ y.cls ≠ "java/lang/invoke/VarHandle")
    {W9 : Nat} {Pre : Pt → Array Value → Prop} {Post : Pt → Array Value → Option Value → Pt → Prop} {PostX : Pt → Array Value → Addr → Pt → Prop} (hK : vx_Back l R p e below s args y 3 W9 Pre Post PostX)
    {g : JFrame} (hg : g.method = m) (hsize : g.locals.size = c.maxLocals) {a : Addr} {argsL rest : List Value} (hlen : ∀ sig, parseMethodDescriptor y.desc = some sig → argsL.length = sig.parameters.length)
    (hstack : g.stack = argsL.reverse ++ .ref a :: rest) (hW : 2 * g.monitorRoom + (rest.map fun v => v.category).sum ≤ W9) (hdg : decode c.code g.pc = .ok (.invokespecial index, 3))
    (hpre : ∀ vm₁, s.WarmedH vm₁ → Pre ⟨T.setVm vm₁, locs, cells, slots⟩ (Value.ref a :: argsL).toArray) :
    (∃ (v : Option Value) (vm₁ : Vm) (B : Pt), s.WarmedH vm₁ ∧ Stand p l e R s m args below meth c B.U B.locs B.cells B.slots ∧ Post ⟨T.setVm vm₁, locs, cells, slots⟩ (Value.ref a :: argsL).toArray v B ∧
      ∀ target, Steps p.tables e below (B.U.setTop { g with pc := g.pc + 3, stack := v.toList ++ rest }) target → Steps p.tables e below (T.setTop g) target) ∨
    (∃ (q : Addr) (vm₁ : Vm) (B : Pt), s.WarmedH vm₁ ∧ Stand p l e R s m args below meth c B.U B.locs B.cells B.slots ∧ PostX ⟨T.setVm vm₁, locs, cells, slots⟩ (Value.ref a :: argsL).toArray q B ∧
      Steps p.tables e below (T.setTop g) ((B.U.setTop { g with stack := rest }).pushFrame (.throwing q))) := by
  subst hg
  have hpl : e.platform.magicAccessors = ({} : Platform).magicAccessors := by rw [X.admits.platform]
  obtain ⟨mk, methM, cM, kP, vm₁, hnamed, hmethM, hcodeM, -, hlocalsM, -, hkP, -, hW₁, hstep₁⟩ := Steps.initColdArgsNest (e := e) X.here hexec X.warmed hpl hown hy1 hy hlink hinst hcode (f := g) rfl hlen hstack hdg
  have X₁ := X.noted hW₁
  rcases hK g.method meth c ⟨T.setVm vm₁, locs, cells, slots⟩ { g with stack := rest } (.invokespecial index) mk (Value.ref a :: argsL).toArray X₁ rfl hsize hdg hW (X₁.named hnamed) (hpre vm₁ X₁.warmed) with ⟨v, B, X', hpost, hsteps⟩ | ⟨q, B, X', hpost, hsteps⟩
  · exact Or.inl ⟨v, vm₁, B, X₁.warmed, X', hpost, fun target h => hstep₁ _ fun acts => by rw [doInvoke_state]; exact hsteps.trans h⟩
  · exact Or.inr ⟨q, vm₁, B, X₁.warmed, X', hpost, hstep₁ _ fun acts => by rw [doInvoke_state]; exact hsteps⟩
end VXIC
section VXID
variable {p : Program} {l : Launch} {e : Env} {R : Room} {s : State} {m : MethodId} {args : Array Value} {below : List Frame} {meth : Method} {c : Code} {H : Heap} {locs : List Loc} {cells slots : Nat}
theorem vx_runIN {y : MethodName} {bytes cc : ByteArray} {maxL nL mc ms n index : Nat} {ws : List Cond} {rm : Room} {Pc : Array Value → State → Prop} {Qc : Array Value → State → Outcome → State → Prop} {XC : String → State → State → Prop} {free : Addr → Prop} {Ts : List Cond} {own host : String} {b : Addr} {As rest : List Value} {g : JFrame}
    (S : CallFix p m c cc nL s args Ts own) (hM : vx_Met l y ws rm Pc Qc XC mc ms free) (cw : va_CN R s args own index y host bytes maxL none ws rm mc ms n ∧ y.name = "<init>" ∧ (Cond.instanceMethod y).before args s = true) (hp : PreS s H Pc (.ref b :: As))
    (hg : g.method = m) (hn : As.length = n) (hsize : g.locals.size = nL) (hstack : g.stack = As.reverse ++ .ref b :: rest) (hW : 2 * g.monitorRoom + (rest.map fun v => v.category).sum ≤ 8) (hdg : decode cc g.pc = .ok (.invokespecial index, 3)) (hf : cells + mc ≤ R.cells ∧ slots + ms ≤ R.slots) :
    vx_Run p l e R s m args below meth c H locs cells slots mc ms g rest (Qc (Value.ref b :: As).toArray) XC free := by
  obtain ⟨⟨⟨hrc, hrs, hfr, hlo, hws, hcw⟩, hcode, hini, hy, hlen, hl⟩, hx1, hx2⟩ := cw
  have hK : vx_Back l R p e below s args y 3 8 (PreOf R mc ms Pc) (PostOf Qc mc ms free) (vx_Post XC mc ms free) := vx_back (bytes := bytes) (maxL := maxL) (ret := none) hM hp.1 hrc hrs hfr hlo hws hcw (fun a' U hW => word_at hW (Or.inl (by first | rfl | simp [Cond.onTables, Cond.keeps, Cond.steady])) hini)
  obtain ⟨hx, hb, hml, ho, -⟩ := S
  have hPc := hp.2
  intro T hT X
  rcases vx_callIN X hx (bytes := bytes) (maxL := maxL) ho hx1 hl hx2 hcode hy hK hg (hsize.trans hml.symm) (a := b) (argsL := As) (rest := rest) (fun sig h => hn.trans (hlen sig h)) hstack hW (by rw [hb]; exact hdg)
    (fun vm₁ hW₁ => ⟨hf.1, hf.2, hPc (T.setVm vm₁) hT hW₁⟩) with ⟨v, vm₁, ⟨U', l2, c2, s2⟩, hW₁, X', ⟨g', mk, t, L, e1, e2, hq, h1, hL, h2, h3⟩, st⟩ | ⟨q, vm₁, ⟨U', l2, c2, s2⟩, hW₁, X', ⟨g', mk, t, L, E, ce, e1, e2, hq, hce, hcv, hcl, h1, hL, h2, h3⟩, st⟩
  · dsimp only [Pt.U, Pt.locs, Pt.cells, Pt.slots] at X' e1 e2 h1 h2 h3 st
    subst h1; subst h2; subst h3
    exact Or.inl ⟨v, (T.setVm vm₁).calling g' mk (Value.ref b :: As).toArray, t, U', L, hT, X', hL, e1, e2, hq, st⟩
  · dsimp only [Pt.U, Pt.locs, Pt.cells, Pt.slots] at X' e1 e2 h1 h2 h3 st hcl
    subst h1; subst h2; subst h3
    exact Or.inr ⟨q, (T.setVm vm₁).calling g' mk (Value.ref b :: As).toArray, t, U', L, E, ce, hT, X', hL, e1, e2, hq, hce, hcv, vx_cls hW₁ hcl, st⟩
end VXID
/-! ===== END ===== -/
end
section
-- ===== PART A: goes FIRST, ahead of the names: the tables' words, and 'selects' of the private methods out of them =====
/-- a private method of a class that the tables say can be made, by its rows of tables_1 -/
def lw_okq (q : MethodName × Nat) : Prop := (q.1.cls ≠ "java/lang/invoke/MethodHandle" ∧ q.1.cls ≠ "java/lang/invoke/VarHandle") ∧ Cond.instantiable q.1.cls q.2 ∈ tables_1 ∧ Cond.privateMethod q.1 ∈ tables_1 ∧ Cond.instanceMethod q.1 ∈ tables_1
theorem lw_p0 : lw_okq (⟨"TravelPurses$OrderReader", "readsSign", "(I)Z"⟩, 7) := ⟨⟨by decide +kernel, by decide +kernel⟩, List.mem_of_getElem? (i := 209) (by decide +kernel), List.mem_of_getElem? (i := 277) (by decide +kernel), List.mem_of_getElem? (i := 278) (by decide +kernel)⟩
theorem lw_p1 : lw_okq (⟨"TravelPurses$OrderReader", "digitsDue", "()I"⟩, 7) := ⟨⟨by decide +kernel, by decide +kernel⟩, List.mem_of_getElem? (i := 209) (by decide +kernel), List.mem_of_getElem? (i := 281) (by decide +kernel), List.mem_of_getElem? (i := 282) (by decide +kernel)⟩
theorem lw_p2 : lw_okq (⟨"TravelPurses$OrderReader", "readsDigit", "(I)Z"⟩, 7) := ⟨⟨by decide +kernel, by decide +kernel⟩, List.mem_of_getElem? (i := 209) (by decide +kernel), List.mem_of_getElem? (i := 285) (by decide +kernel), List.mem_of_getElem? (i := 286) (by decide +kernel)⟩
theorem lw_p3 : lw_okq (⟨"TravelPurses$OrderReader", "readsAmount", "(I)Z"⟩, 7) := ⟨⟨by decide +kernel, by decide +kernel⟩, List.mem_of_getElem? (i := 209) (by decide +kernel), List.mem_of_getElem? (i := 294) (by decide +kernel), List.mem_of_getElem? (i := 295) (by decide +kernel)⟩
theorem lw_p4 : lw_okq (⟨"java/lang/Throwable", "fillInStackTrace", "(I)Ljava/lang/Throwable;"⟩, 6) := ⟨⟨by decide +kernel, by decide +kernel⟩, List.mem_of_getElem? (i := 349) (by decide +kernel), List.mem_of_getElem? (i := 347) (by decide +kernel), List.mem_of_getElem? (i := 348) (by decide +kernel)⟩
theorem lw_p5 : lw_okq (⟨"TravelPurses", "mixWallet", "(JI)J"⟩, 6) := ⟨⟨by decide +kernel, by decide +kernel⟩, List.mem_of_getElem? (i := 18) (by decide +kernel), List.mem_of_getElem? (i := 403) (by decide +kernel), List.mem_of_getElem? (i := 404) (by decide +kernel)⟩
theorem lw_p6 : lw_okq (⟨"TravelPurses", "purseAt", "(II)LTravelPurses$Purse;"⟩, 6) := ⟨⟨by decide +kernel, by decide +kernel⟩, List.mem_of_getElem? (i := 18) (by decide +kernel), List.mem_of_getElem? (i := 411) (by decide +kernel), List.mem_of_getElem? (i := 412) (by decide +kernel)⟩
theorem lw_p7 : lw_okq (⟨"TravelPurses", "requireAmount", "(I)V"⟩, 6) := ⟨⟨by decide +kernel, by decide +kernel⟩, List.mem_of_getElem? (i := 18) (by decide +kernel), List.mem_of_getElem? (i := 475) (by decide +kernel), List.mem_of_getElem? (i := 476) (by decide +kernel)⟩
theorem lw_p8 : lw_okq (⟨"TravelPurses", "foreignPurseAt", "(II)LTravelPurses$Purse;"⟩, 6) := ⟨⟨by decide +kernel, by decide +kernel⟩, List.mem_of_getElem? (i := 18) (by decide +kernel), List.mem_of_getElem? (i := 502) (by decide +kernel), List.mem_of_getElem? (i := 503) (by decide +kernel)⟩
theorem lw_p9 : lw_okq (⟨"TravelPurses", "mixHolds", "(J)J"⟩, 6) := ⟨⟨by decide +kernel, by decide +kernel⟩, List.mem_of_getElem? (i := 18) (by decide +kernel), List.mem_of_getElem? (i := 515) (by decide +kernel), List.mem_of_getElem? (i := 516) (by decide +kernel)⟩
theorem lw_p10 : lw_okq (⟨"TravelPurses", "holdAt", "(I)LTravelPurses$Hold;"⟩, 6) := ⟨⟨by decide +kernel, by decide +kernel⟩, List.mem_of_getElem? (i := 18) (by decide +kernel), List.mem_of_getElem? (i := 523) (by decide +kernel), List.mem_of_getElem? (i := 524) (by decide +kernel)⟩
theorem lw_p11 : lw_okq (⟨"TravelPurses", "mixPayments", "(J)J"⟩, 6) := ⟨⟨by decide +kernel, by decide +kernel⟩, List.mem_of_getElem? (i := 18) (by decide +kernel), List.mem_of_getElem? (i := 528) (by decide +kernel), List.mem_of_getElem? (i := 529) (by decide +kernel)⟩
theorem lw_p12 : lw_okq (⟨"TravelPurses", "paymentAt", "(I)LTravelPurses$Payment;"⟩, 6) := ⟨⟨by decide +kernel, by decide +kernel⟩, List.mem_of_getElem? (i := 18) (by decide +kernel), List.mem_of_getElem? (i := 536) (by decide +kernel), List.mem_of_getElem? (i := 537) (by decide +kernel)⟩
theorem lw_p13 : lw_okq (⟨"TravelPurses", "mixBuffer", "(J)J"⟩, 6) := ⟨⟨by decide +kernel, by decide +kernel⟩, List.mem_of_getElem? (i := 18) (by decide +kernel), List.mem_of_getElem? (i := 545) (by decide +kernel), List.mem_of_getElem? (i := 546) (by decide +kernel)⟩
theorem lw_p14 : lw_okq (⟨"TravelPurses", "saveState", "()V"⟩, 6) := ⟨⟨by decide +kernel, by decide +kernel⟩, List.mem_of_getElem? (i := 18) (by decide +kernel), List.mem_of_getElem? (i := 580) (by decide +kernel), List.mem_of_getElem? (i := 581) (by decide +kernel)⟩
theorem lw_p15 : lw_okq (⟨"TravelPurses", "dropOldestState", "()V"⟩, 6) := ⟨⟨by decide +kernel, by decide +kernel⟩, List.mem_of_getElem? (i := 18) (by decide +kernel), List.mem_of_getElem? (i := 584) (by decide +kernel), List.mem_of_getElem? (i := 585) (by decide +kernel)⟩
def lw_privs_1 : List (MethodName × Nat) := [(⟨"TravelPurses$OrderReader", "readsSign", "(I)Z"⟩, 7), (⟨"TravelPurses$OrderReader", "digitsDue", "()I"⟩, 7), (⟨"TravelPurses$OrderReader", "readsDigit", "(I)Z"⟩, 7), (⟨"TravelPurses$OrderReader", "readsAmount", "(I)Z"⟩, 7), (⟨"java/lang/Throwable", "fillInStackTrace", "(I)Ljava/lang/Throwable;"⟩, 6), (⟨"TravelPurses", "mixWallet", "(JI)J"⟩, 6), (⟨"TravelPurses", "purseAt", "(II)LTravelPurses$Purse;"⟩, 6), (⟨"TravelPurses", "requireAmount", "(I)V"⟩, 6), (⟨"TravelPurses", "foreignPurseAt", "(II)LTravelPurses$Purse;"⟩, 6), (⟨"TravelPurses", "mixHolds", "(J)J"⟩, 6), (⟨"TravelPurses", "holdAt", "(I)LTravelPurses$Hold;"⟩, 6), (⟨"TravelPurses", "mixPayments", "(J)J"⟩, 6), (⟨"TravelPurses", "paymentAt", "(I)LTravelPurses$Payment;"⟩, 6), (⟨"TravelPurses", "mixBuffer", "(J)J"⟩, 6), (⟨"TravelPurses", "saveState", "()V"⟩, 6), (⟨"TravelPurses", "dropOldestState", "()V"⟩, 6)]
theorem lw_r1 : ∀ q ∈ lw_privs_1, lw_okq q := List.forall_mem_cons.mpr ⟨lw_p0, List.forall_mem_cons.mpr ⟨lw_p1, List.forall_mem_cons.mpr ⟨lw_p2, List.forall_mem_cons.mpr ⟨lw_p3, List.forall_mem_cons.mpr ⟨lw_p4, List.forall_mem_cons.mpr ⟨lw_p5, List.forall_mem_cons.mpr ⟨lw_p6, List.forall_mem_cons.mpr ⟨lw_p7, List.forall_mem_cons.mpr ⟨lw_p8, List.forall_mem_cons.mpr ⟨lw_p9, List.forall_mem_cons.mpr ⟨lw_p10, List.forall_mem_cons.mpr ⟨lw_p11, List.forall_mem_cons.mpr ⟨lw_p12, List.forall_mem_cons.mpr ⟨lw_p13, List.forall_mem_cons.mpr ⟨lw_p14, List.forall_mem_cons.mpr ⟨lw_p15, fun _ h => absurd h List.not_mem_nil⟩⟩⟩⟩⟩⟩⟩⟩⟩⟩⟩⟩⟩⟩⟩⟩
theorem lw_p16 : lw_okq (⟨"TravelPurses", "carryOutRow", "()I"⟩, 6) := ⟨⟨by decide +kernel, by decide +kernel⟩, List.mem_of_getElem? (i := 18) (by decide +kernel), List.mem_of_getElem? (i := 769) (by decide +kernel), List.mem_of_getElem? (i := 770) (by decide +kernel)⟩
theorem lw_p17 : lw_okq (⟨"TravelPurses", "carriesOutOrder", "()Z"⟩, 6) := ⟨⟨by decide +kernel, by decide +kernel⟩, List.mem_of_getElem? (i := 18) (by decide +kernel), List.mem_of_getElem? (i := 773) (by decide +kernel), List.mem_of_getElem? (i := 774) (by decide +kernel)⟩
theorem lw_p18 : lw_okq (⟨"TravelPursesModel", "canLoad", "(II)Z"⟩, 11) := ⟨⟨by decide +kernel, by decide +kernel⟩, List.mem_of_getElem? (i := 833) (by decide +kernel), List.mem_of_getElem? (i := 891) (by decide +kernel), List.mem_of_getElem? (i := 892) (by decide +kernel)⟩
theorem lw_p19 : lw_okq (⟨"TravelPursesModel", "of", "(III)I"⟩, 11) := ⟨⟨by decide +kernel, by decide +kernel⟩, List.mem_of_getElem? (i := 833) (by decide +kernel), List.mem_of_getElem? (i := 895) (by decide +kernel), List.mem_of_getElem? (i := 896) (by decide +kernel)⟩
theorem lw_p20 : lw_okq (⟨"TravelPursesModel", "save", "()V"⟩, 11) := ⟨⟨by decide +kernel, by decide +kernel⟩, List.mem_of_getElem? (i := 833) (by decide +kernel), List.mem_of_getElem? (i := 903) (by decide +kernel), List.mem_of_getElem? (i := 904) (by decide +kernel)⟩
theorem lw_p21 : lw_okq (⟨"TravelPursesModel", "loads", "(II)V"⟩, 11) := ⟨⟨by decide +kernel, by decide +kernel⟩, List.mem_of_getElem? (i := 833) (by decide +kernel), List.mem_of_getElem? (i := 907) (by decide +kernel), List.mem_of_getElem? (i := 908) (by decide +kernel)⟩
theorem lw_p22 : lw_okq (⟨"TravelPursesModel", "comeIn", "(III)V"⟩, 11) := ⟨⟨by decide +kernel, by decide +kernel⟩, List.mem_of_getElem? (i := 833) (by decide +kernel), List.mem_of_getElem? (i := 911) (by decide +kernel), List.mem_of_getElem? (i := 912) (by decide +kernel)⟩
theorem lw_p23 : lw_okq (⟨"TravelPursesModel", "whyNoExchange", "(IIII)I"⟩, 11) := ⟨⟨by decide +kernel, by decide +kernel⟩, List.mem_of_getElem? (i := 833) (by decide +kernel), List.mem_of_getElem? (i := 936) (by decide +kernel), List.mem_of_getElem? (i := 937) (by decide +kernel)⟩
theorem lw_p24 : lw_okq (⟨"TravelPursesModel", "freeOf", "(II)I"⟩, 11) := ⟨⟨by decide +kernel, by decide +kernel⟩, List.mem_of_getElem? (i := 833) (by decide +kernel), List.mem_of_getElem? (i := 943) (by decide +kernel), List.mem_of_getElem? (i := 944) (by decide +kernel)⟩
theorem lw_p25 : lw_okq (⟨"TravelPursesModel", "keptOf", "(II)I"⟩, 11) := ⟨⟨by decide +kernel, by decide +kernel⟩, List.mem_of_getElem? (i := 833) (by decide +kernel), List.mem_of_getElem? (i := 947) (by decide +kernel), List.mem_of_getElem? (i := 948) (by decide +kernel)⟩
theorem lw_p26 : lw_okq (⟨"TravelPursesModel", "isOf", "(III)Z"⟩, 11) := ⟨⟨by decide +kernel, by decide +kernel⟩, List.mem_of_getElem? (i := 833) (by decide +kernel), List.mem_of_getElem? (i := 951) (by decide +kernel), List.mem_of_getElem? (i := 952) (by decide +kernel)⟩
theorem lw_p27 : lw_okq (⟨"TravelPursesModel", "ofHold", "(II)I"⟩, 11) := ⟨⟨by decide +kernel, by decide +kernel⟩, List.mem_of_getElem? (i := 833) (by decide +kernel), List.mem_of_getElem? (i := 955) (by decide +kernel), List.mem_of_getElem? (i := 956) (by decide +kernel)⟩
theorem lw_p28 : lw_okq (⟨"TravelPursesModel", "exchanges", "(IIII)I"⟩, 11) := ⟨⟨by decide +kernel, by decide +kernel⟩, List.mem_of_getElem? (i := 833) (by decide +kernel), List.mem_of_getElem? (i := 959) (by decide +kernel), List.mem_of_getElem? (i := 960) (by decide +kernel)⟩
theorem lw_p29 : lw_okq (⟨"TravelPursesModel", "given", "(IIII)I"⟩, 11) := ⟨⟨by decide +kernel, by decide +kernel⟩, List.mem_of_getElem? (i := 833) (by decide +kernel), List.mem_of_getElem? (i := 963) (by decide +kernel), List.mem_of_getElem? (i := 964) (by decide +kernel)⟩
theorem lw_p30 : lw_okq (⟨"TravelPursesModel", "rateOf", "(II)I"⟩, 11) := ⟨⟨by decide +kernel, by decide +kernel⟩, List.mem_of_getElem? (i := 833) (by decide +kernel), List.mem_of_getElem? (i := 968) (by decide +kernel), List.mem_of_getElem? (i := 969) (by decide +kernel)⟩
theorem lw_p31 : lw_okq (⟨"TravelPursesModel", "isLocked", "(II)Z"⟩, 11) := ⟨⟨by decide +kernel, by decide +kernel⟩, List.mem_of_getElem? (i := 833) (by decide +kernel), List.mem_of_getElem? (i := 972) (by decide +kernel), List.mem_of_getElem? (i := 973) (by decide +kernel)⟩
def lw_privs_2 : List (MethodName × Nat) := [(⟨"TravelPurses", "carryOutRow", "()I"⟩, 6), (⟨"TravelPurses", "carriesOutOrder", "()Z"⟩, 6), (⟨"TravelPursesModel", "canLoad", "(II)Z"⟩, 11), (⟨"TravelPursesModel", "of", "(III)I"⟩, 11), (⟨"TravelPursesModel", "save", "()V"⟩, 11), (⟨"TravelPursesModel", "loads", "(II)V"⟩, 11), (⟨"TravelPursesModel", "comeIn", "(III)V"⟩, 11), (⟨"TravelPursesModel", "whyNoExchange", "(IIII)I"⟩, 11), (⟨"TravelPursesModel", "freeOf", "(II)I"⟩, 11), (⟨"TravelPursesModel", "keptOf", "(II)I"⟩, 11), (⟨"TravelPursesModel", "isOf", "(III)Z"⟩, 11), (⟨"TravelPursesModel", "ofHold", "(II)I"⟩, 11), (⟨"TravelPursesModel", "exchanges", "(IIII)I"⟩, 11), (⟨"TravelPursesModel", "given", "(IIII)I"⟩, 11), (⟨"TravelPursesModel", "rateOf", "(II)I"⟩, 11), (⟨"TravelPursesModel", "isLocked", "(II)Z"⟩, 11)]
theorem lw_r2 : ∀ q ∈ lw_privs_2, lw_okq q := List.forall_mem_cons.mpr ⟨lw_p16, List.forall_mem_cons.mpr ⟨lw_p17, List.forall_mem_cons.mpr ⟨lw_p18, List.forall_mem_cons.mpr ⟨lw_p19, List.forall_mem_cons.mpr ⟨lw_p20, List.forall_mem_cons.mpr ⟨lw_p21, List.forall_mem_cons.mpr ⟨lw_p22, List.forall_mem_cons.mpr ⟨lw_p23, List.forall_mem_cons.mpr ⟨lw_p24, List.forall_mem_cons.mpr ⟨lw_p25, List.forall_mem_cons.mpr ⟨lw_p26, List.forall_mem_cons.mpr ⟨lw_p27, List.forall_mem_cons.mpr ⟨lw_p28, List.forall_mem_cons.mpr ⟨lw_p29, List.forall_mem_cons.mpr ⟨lw_p30, List.forall_mem_cons.mpr ⟨lw_p31, fun _ h => absurd h List.not_mem_nil⟩⟩⟩⟩⟩⟩⟩⟩⟩⟩⟩⟩⟩⟩⟩⟩
theorem lw_p32 : lw_okq (⟨"TravelPursesModel", "spreadOf", "(I)I"⟩, 11) := ⟨⟨by decide +kernel, by decide +kernel⟩, List.mem_of_getElem? (i := 833) (by decide +kernel), List.mem_of_getElem? (i := 976) (by decide +kernel), List.mem_of_getElem? (i := 977) (by decide +kernel)⟩
theorem lw_p33 : lw_okq (⟨"TravelPursesModel", "whyNoHold", "(III)I"⟩, 11) := ⟨⟨by decide +kernel, by decide +kernel⟩, List.mem_of_getElem? (i := 833) (by decide +kernel), List.mem_of_getElem? (i := 984) (by decide +kernel), List.mem_of_getElem? (i := 985) (by decide +kernel)⟩
theorem lw_p34 : lw_okq (⟨"TravelPursesModel", "withTip", "(I)I"⟩, 11) := ⟨⟨by decide +kernel, by decide +kernel⟩, List.mem_of_getElem? (i := 833) (by decide +kernel), List.mem_of_getElem? (i := 988) (by decide +kernel), List.mem_of_getElem? (i := 989) (by decide +kernel)⟩
theorem lw_p35 : lw_okq (⟨"TravelPursesModel", "holds", "(III)I"⟩, 11) := ⟨⟨by decide +kernel, by decide +kernel⟩, List.mem_of_getElem? (i := 833) (by decide +kernel), List.mem_of_getElem? (i := 992) (by decide +kernel), List.mem_of_getElem? (i := 993) (by decide +kernel)⟩
theorem lw_p36 : lw_okq (⟨"TravelPursesModel", "isHold", "(I)Z"⟩, 11) := ⟨⟨by decide +kernel, by decide +kernel⟩, List.mem_of_getElem? (i := 833) (by decide +kernel), List.mem_of_getElem? (i := 1000) (by decide +kernel), List.mem_of_getElem? (i := 1001) (by decide +kernel)⟩
theorem lw_p37 : lw_okq (⟨"TravelPursesModel", "removeHold", "(I)V"⟩, 11) := ⟨⟨by decide +kernel, by decide +kernel⟩, List.mem_of_getElem? (i := 833) (by decide +kernel), List.mem_of_getElem? (i := 1004) (by decide +kernel), List.mem_of_getElem? (i := 1005) (by decide +kernel)⟩
theorem lw_p38 : lw_okq (⟨"TravelPursesModel", "isPayment", "(I)Z"⟩, 11) := ⟨⟨by decide +kernel, by decide +kernel⟩, List.mem_of_getElem? (i := 833) (by decide +kernel), List.mem_of_getElem? (i := 1016) (by decide +kernel), List.mem_of_getElem? (i := 1017) (by decide +kernel)⟩
theorem lw_p39 : lw_okq (⟨"TravelPursesModel", "canDispute", "(I)Z"⟩, 11) := ⟨⟨by decide +kernel, by decide +kernel⟩, List.mem_of_getElem? (i := 833) (by decide +kernel), List.mem_of_getElem? (i := 1020) (by decide +kernel), List.mem_of_getElem? (i := 1021) (by decide +kernel)⟩
theorem lw_p40 : lw_okq (⟨"TravelPursesModel", "ofPayment", "(II)I"⟩, 11) := ⟨⟨by decide +kernel, by decide +kernel⟩, List.mem_of_getElem? (i := 833) (by decide +kernel), List.mem_of_getElem? (i := 1024) (by decide +kernel), List.mem_of_getElem? (i := 1025) (by decide +kernel)⟩
theorem lw_p41 : lw_okq (⟨"TravelPursesModel", "takesBack", "(III)I"⟩, 11) := ⟨⟨by decide +kernel, by decide +kernel⟩, List.mem_of_getElem? (i := 833) (by decide +kernel), List.mem_of_getElem? (i := 1032) (by decide +kernel), List.mem_of_getElem? (i := 1033) (by decide +kernel)⟩
theorem lw_p42 : lw_okq (⟨"TravelPursesModel", "whyNoClosing", "(I)I"⟩, 11) := ⟨⟨by decide +kernel, by decide +kernel⟩, List.mem_of_getElem? (i := 833) (by decide +kernel), List.mem_of_getElem? (i := 1040) (by decide +kernel), List.mem_of_getElem? (i := 1041) (by decide +kernel)⟩
theorem lw_p43 : lw_okq (⟨"TravelPursesModel", "hasHold", "(I)Z"⟩, 11) := ⟨⟨by decide +kernel, by decide +kernel⟩, List.mem_of_getElem? (i := 833) (by decide +kernel), List.mem_of_getElem? (i := 1044) (by decide +kernel), List.mem_of_getElem? (i := 1045) (by decide +kernel)⟩
theorem lw_p44 : lw_okq (⟨"TravelPursesModel", "hasDispute", "(I)Z"⟩, 11) := ⟨⟨by decide +kernel, by decide +kernel⟩, List.mem_of_getElem? (i := 833) (by decide +kernel), List.mem_of_getElem? (i := 1048) (by decide +kernel), List.mem_of_getElem? (i := 1049) (by decide +kernel)⟩
theorem lw_p45 : lw_okq (⟨"TravelPursesModel", "hasDebt", "(I)Z"⟩, 11) := ⟨⟨by decide +kernel, by decide +kernel⟩, List.mem_of_getElem? (i := 833) (by decide +kernel), List.mem_of_getElem? (i := 1052) (by decide +kernel), List.mem_of_getElem? (i := 1053) (by decide +kernel)⟩
theorem lw_p46 : lw_okq (⟨"TravelPursesModel", "closes", "(I)I"⟩, 11) := ⟨⟨by decide +kernel, by decide +kernel⟩, List.mem_of_getElem? (i := 833) (by decide +kernel), List.mem_of_getElem? (i := 1056) (by decide +kernel), List.mem_of_getElem? (i := 1057) (by decide +kernel)⟩
theorem lw_p47 : lw_okq (⟨"TravelPursesModel", "dayPasses", "()I"⟩, 11) := ⟨⟨by decide +kernel, by decide +kernel⟩, List.mem_of_getElem? (i := 833) (by decide +kernel), List.mem_of_getElem? (i := 1064) (by decide +kernel), List.mem_of_getElem? (i := 1065) (by decide +kernel)⟩
def lw_privs_3 : List (MethodName × Nat) := [(⟨"TravelPursesModel", "spreadOf", "(I)I"⟩, 11), (⟨"TravelPursesModel", "whyNoHold", "(III)I"⟩, 11), (⟨"TravelPursesModel", "withTip", "(I)I"⟩, 11), (⟨"TravelPursesModel", "holds", "(III)I"⟩, 11), (⟨"TravelPursesModel", "isHold", "(I)Z"⟩, 11), (⟨"TravelPursesModel", "removeHold", "(I)V"⟩, 11), (⟨"TravelPursesModel", "isPayment", "(I)Z"⟩, 11), (⟨"TravelPursesModel", "canDispute", "(I)Z"⟩, 11), (⟨"TravelPursesModel", "ofPayment", "(II)I"⟩, 11), (⟨"TravelPursesModel", "takesBack", "(III)I"⟩, 11), (⟨"TravelPursesModel", "whyNoClosing", "(I)I"⟩, 11), (⟨"TravelPursesModel", "hasHold", "(I)Z"⟩, 11), (⟨"TravelPursesModel", "hasDispute", "(I)Z"⟩, 11), (⟨"TravelPursesModel", "hasDebt", "(I)Z"⟩, 11), (⟨"TravelPursesModel", "closes", "(I)I"⟩, 11), (⟨"TravelPursesModel", "dayPasses", "()I"⟩, 11)]
theorem lw_r3 : ∀ q ∈ lw_privs_3, lw_okq q := List.forall_mem_cons.mpr ⟨lw_p32, List.forall_mem_cons.mpr ⟨lw_p33, List.forall_mem_cons.mpr ⟨lw_p34, List.forall_mem_cons.mpr ⟨lw_p35, List.forall_mem_cons.mpr ⟨lw_p36, List.forall_mem_cons.mpr ⟨lw_p37, List.forall_mem_cons.mpr ⟨lw_p38, List.forall_mem_cons.mpr ⟨lw_p39, List.forall_mem_cons.mpr ⟨lw_p40, List.forall_mem_cons.mpr ⟨lw_p41, List.forall_mem_cons.mpr ⟨lw_p42, List.forall_mem_cons.mpr ⟨lw_p43, List.forall_mem_cons.mpr ⟨lw_p44, List.forall_mem_cons.mpr ⟨lw_p45, List.forall_mem_cons.mpr ⟨lw_p46, List.forall_mem_cons.mpr ⟨lw_p47, fun _ h => absurd h List.not_mem_nil⟩⟩⟩⟩⟩⟩⟩⟩⟩⟩⟩⟩⟩⟩⟩⟩
theorem lw_p48 : lw_okq (⟨"TravelPursesModel", "rightUpTo", "()I"⟩, 11) := ⟨⟨by decide +kernel, by decide +kernel⟩, List.mem_of_getElem? (i := 833) (by decide +kernel), List.mem_of_getElem? (i := 1090) (by decide +kernel), List.mem_of_getElem? (i := 1091) (by decide +kernel)⟩
theorem lw_p49 : lw_okq (⟨"TravelPursesModel", "takes", "(I)Z"⟩, 11) := ⟨⟨by decide +kernel, by decide +kernel⟩, List.mem_of_getElem? (i := 833) (by decide +kernel), List.mem_of_getElem? (i := 1094) (by decide +kernel), List.mem_of_getElem? (i := 1095) (by decide +kernel)⟩
theorem lw_p50 : lw_okq (⟨"TravelPursesModel", "takesPlace", "(I)Z"⟩, 11) := ⟨⟨by decide +kernel, by decide +kernel⟩, List.mem_of_getElem? (i := 833) (by decide +kernel), List.mem_of_getElem? (i := 1098) (by decide +kernel), List.mem_of_getElem? (i := 1099) (by decide +kernel)⟩
theorem lw_p51 : lw_okq (⟨"TravelPursesModel", "takesDigit", "(I)Z"⟩, 11) := ⟨⟨by decide +kernel, by decide +kernel⟩, List.mem_of_getElem? (i := 833) (by decide +kernel), List.mem_of_getElem? (i := 1102) (by decide +kernel), List.mem_of_getElem? (i := 1103) (by decide +kernel)⟩
theorem lw_p52 : lw_okq (⟨"TravelPursesModel", "carries", "(I)Z"⟩, 11) := ⟨⟨by decide +kernel, by decide +kernel⟩, List.mem_of_getElem? (i := 833) (by decide +kernel), List.mem_of_getElem? (i := 1110) (by decide +kernel), List.mem_of_getElem? (i := 1111) (by decide +kernel)⟩
theorem lw_p53 : lw_okq (⟨"TravelPursesModel", "purseNow", "(III)I"⟩, 11) := ⟨⟨by decide +kernel, by decide +kernel⟩, List.mem_of_getElem? (i := 833) (by decide +kernel), List.mem_of_getElem? (i := 1122) (by decide +kernel), List.mem_of_getElem? (i := 1123) (by decide +kernel)⟩
theorem lw_p54 : lw_okq (⟨"TravelPursesModel", "creditIn", "(II)I"⟩, 11) := ⟨⟨by decide +kernel, by decide +kernel⟩, List.mem_of_getElem? (i := 833) (by decide +kernel), List.mem_of_getElem? (i := 1126) (by decide +kernel), List.mem_of_getElem? (i := 1127) (by decide +kernel)⟩
theorem lw_p55 : lw_okq (⟨"TravelPursesModel", "paymentNow", "(II)I"⟩, 11) := ⟨⟨by decide +kernel, by decide +kernel⟩, List.mem_of_getElem? (i := 833) (by decide +kernel), List.mem_of_getElem? (i := 1138) (by decide +kernel), List.mem_of_getElem? (i := 1139) (by decide +kernel)⟩
theorem lw_p56 : lw_okq (⟨"TravelPursesModel", "counted", "(I)I"⟩, 11) := ⟨⟨by decide +kernel, by decide +kernel⟩, List.mem_of_getElem? (i := 833) (by decide +kernel), List.mem_of_getElem? (i := 1146) (by decide +kernel), List.mem_of_getElem? (i := 1147) (by decide +kernel)⟩
theorem lw_p57 : lw_okq (⟨"TravelPursesModel", "disputed", "()I"⟩, 11) := ⟨⟨by decide +kernel, by decide +kernel⟩, List.mem_of_getElem? (i := 833) (by decide +kernel), List.mem_of_getElem? (i := 1150) (by decide +kernel), List.mem_of_getElem? (i := 1151) (by decide +kernel)⟩
theorem lw_p58 : lw_okq (⟨"TravelPursesModel", "exchangedThen", "(IIII)I"⟩, 11) := ⟨⟨by decide +kernel, by decide +kernel⟩, List.mem_of_getElem? (i := 833) (by decide +kernel), List.mem_of_getElem? (i := 1162) (by decide +kernel), List.mem_of_getElem? (i := 1163) (by decide +kernel)⟩
theorem lw_p59 : lw_okq (⟨"TravelPursesModel", "brings", "(IIII)I"⟩, 11) := ⟨⟨by decide +kernel, by decide +kernel⟩, List.mem_of_getElem? (i := 833) (by decide +kernel), List.mem_of_getElem? (i := 1166) (by decide +kernel), List.mem_of_getElem? (i := 1167) (by decide +kernel)⟩
theorem lw_p60 : lw_okq (⟨"TravelPursesModel", "neededFor", "(III)I"⟩, 11) := ⟨⟨by decide +kernel, by decide +kernel⟩, List.mem_of_getElem? (i := 833) (by decide +kernel), List.mem_of_getElem? (i := 1174) (by decide +kernel), List.mem_of_getElem? (i := 1175) (by decide +kernel)⟩
theorem lw_p61 : lw_okq (⟨"TravelPursesModel", "roomOf", "(II)I"⟩, 11) := ⟨⟨by decide +kernel, by decide +kernel⟩, List.mem_of_getElem? (i := 833) (by decide +kernel), List.mem_of_getElem? (i := 1183) (by decide +kernel), List.mem_of_getElem? (i := 1184) (by decide +kernel)⟩
theorem lw_p62 : lw_okq (⟨"TravelPursesModel", "closedThen", "(I)I"⟩, 11) := ⟨⟨by decide +kernel, by decide +kernel⟩, List.mem_of_getElem? (i := 833) (by decide +kernel), List.mem_of_getElem? (i := 1195) (by decide +kernel), List.mem_of_getElem? (i := 1196) (by decide +kernel)⟩
theorem lw_p63 : lw_okq (⟨"TravelPursesModel", "share", "(II)D"⟩, 11) := ⟨⟨by decide +kernel, by decide +kernel⟩, List.mem_of_getElem? (i := 833) (by decide +kernel), List.mem_of_getElem? (i := 1203) (by decide +kernel), List.mem_of_getElem? (i := 1204) (by decide +kernel)⟩
def lw_privs_4 : List (MethodName × Nat) := [(⟨"TravelPursesModel", "rightUpTo", "()I"⟩, 11), (⟨"TravelPursesModel", "takes", "(I)Z"⟩, 11), (⟨"TravelPursesModel", "takesPlace", "(I)Z"⟩, 11), (⟨"TravelPursesModel", "takesDigit", "(I)Z"⟩, 11), (⟨"TravelPursesModel", "carries", "(I)Z"⟩, 11), (⟨"TravelPursesModel", "purseNow", "(III)I"⟩, 11), (⟨"TravelPursesModel", "creditIn", "(II)I"⟩, 11), (⟨"TravelPursesModel", "paymentNow", "(II)I"⟩, 11), (⟨"TravelPursesModel", "counted", "(I)I"⟩, 11), (⟨"TravelPursesModel", "disputed", "()I"⟩, 11), (⟨"TravelPursesModel", "exchangedThen", "(IIII)I"⟩, 11), (⟨"TravelPursesModel", "brings", "(IIII)I"⟩, 11), (⟨"TravelPursesModel", "neededFor", "(III)I"⟩, 11), (⟨"TravelPursesModel", "roomOf", "(II)I"⟩, 11), (⟨"TravelPursesModel", "closedThen", "(I)I"⟩, 11), (⟨"TravelPursesModel", "share", "(II)D"⟩, 11)]
theorem lw_r4 : ∀ q ∈ lw_privs_4, lw_okq q := List.forall_mem_cons.mpr ⟨lw_p48, List.forall_mem_cons.mpr ⟨lw_p49, List.forall_mem_cons.mpr ⟨lw_p50, List.forall_mem_cons.mpr ⟨lw_p51, List.forall_mem_cons.mpr ⟨lw_p52, List.forall_mem_cons.mpr ⟨lw_p53, List.forall_mem_cons.mpr ⟨lw_p54, List.forall_mem_cons.mpr ⟨lw_p55, List.forall_mem_cons.mpr ⟨lw_p56, List.forall_mem_cons.mpr ⟨lw_p57, List.forall_mem_cons.mpr ⟨lw_p58, List.forall_mem_cons.mpr ⟨lw_p59, List.forall_mem_cons.mpr ⟨lw_p60, List.forall_mem_cons.mpr ⟨lw_p61, List.forall_mem_cons.mpr ⟨lw_p62, List.forall_mem_cons.mpr ⟨lw_p63, fun _ h => absurd h List.not_mem_nil⟩⟩⟩⟩⟩⟩⟩⟩⟩⟩⟩⟩⟩⟩⟩⟩
theorem lw_p64 : lw_okq (⟨"TravelPursesModel", "mix", "(J)V"⟩, 11) := ⟨⟨by decide +kernel, by decide +kernel⟩, List.mem_of_getElem? (i := 833) (by decide +kernel), List.mem_of_getElem? (i := 1212) (by decide +kernel), List.mem_of_getElem? (i := 1213) (by decide +kernel)⟩
theorem lw_p65 : lw_okq (⟨"TravelPursesModel", "mixWallet", "(I)V"⟩, 11) := ⟨⟨by decide +kernel, by decide +kernel⟩, List.mem_of_getElem? (i := 833) (by decide +kernel), List.mem_of_getElem? (i := 1217) (by decide +kernel), List.mem_of_getElem? (i := 1218) (by decide +kernel)⟩
def lw_privs_5 : List (MethodName × Nat) := [(⟨"TravelPursesModel", "mix", "(J)V"⟩, 11), (⟨"TravelPursesModel", "mixWallet", "(I)V"⟩, 11)]
theorem lw_r5 : ∀ q ∈ lw_privs_5, lw_okq q := List.forall_mem_cons.mpr ⟨lw_p64, List.forall_mem_cons.mpr ⟨lw_p65, fun _ h => absurd h List.not_mem_nil⟩⟩
def lw_privs : List (MethodName × Nat) := lw_privs_1 ++ (lw_privs_2 ++ (lw_privs_3 ++ (lw_privs_4 ++ (lw_privs_5))))
def lw_tbl : List Cond := k2_sels lw_privs ++ tables_1
theorem lw_privs_ok : ∀ q ∈ lw_privs, lw_okq q := by
  show ∀ q ∈ lw_privs_1 ++ (lw_privs_2 ++ (lw_privs_3 ++ (lw_privs_4 ++ (lw_privs_5)))), lw_okq q
  exact List.forall_mem_append.mpr ⟨lw_r1, List.forall_mem_append.mpr ⟨lw_r2, List.forall_mem_append.mpr ⟨lw_r3, List.forall_mem_append.mpr ⟨lw_r4, lw_r5⟩⟩⟩⟩
/-- the streams that the claim lets the run draw from -/
abbrev lw_cs : List Choice := [Jvm.Choice.named "NaN.bits"]
theorem lw_bits : nanBits ∈ lw_cs := by first | decide | exact List.mem_cons_self | simp [lw_cs, nanBits]
end
section
def RX0 : String := "TravelPurses$Books"
def TX0 : u_T := fun k => match k with
  | 0 => ("TravelPurses$Books", "day", "I", false)
  | 1 => ("TravelPurses$Books", "settings", "[I", true)
  | 2 => ("TravelPurses$Books", "rates", "[I", true)
  | 3 => ("TravelPurses$Books", "purses", "[LTravelPurses$Purse;", true)
  | 4 => ("TravelPurses$Books", "holds", "[LTravelPurses$Hold;", true)
  | 5 => ("TravelPurses$Books", "openHolds", "I", false)
  | 6 => ("TravelPurses$Books", "payments", "[LTravelPurses$Payment;", true)
  | 7 => ("TravelPurses$Books", "paymentCount", "I", false)
  | 8 => ("TravelPurses$Books", "loaded", "I", false)
  | 9 => ("TravelPurses$Books", "paidOut", "I", false)
  | 10 => ("TravelPurses$Books", "exchanges", "I", false)
  | 11 => ("TravelPurses$Books", "homeSpread", "I", false)
  | 12 => ("TravelPurses$Books", "otherSpread", "I", false)
  | _ => ("TravelPurses$Books", "debtPaid", "I", false)
def tyX0 : Nat → FieldType := fun k => match k with
  | 0 => .int
  | 1 => .array .int
  | 2 => .array .int
  | 3 => .array (.object "TravelPurses$Purse")
  | 4 => .array (.object "TravelPurses$Hold")
  | 5 => .int
  | 6 => .array (.object "TravelPurses$Payment")
  | 7 => .int
  | 8 => .int
  | 9 => .int
  | 10 => .int
  | 11 => .int
  | 12 => .int
  | _ => .int
abbrev wsX00 : List Cond := u_ws RX0 TX0 14
theorem nmX0 : ∀ a, a < 14 → ∀ b, b < 14 → a ≠ b → (TX0 a).2.1 ≠ (TX0 b).2.1 := by decide +kernel
theorem tyX0_ok : ∀ k, k < 14 → parseFieldDescriptor (TX0 k).2.2.1 = some (tyX0 k) := by decide +kernel
abbrev cX0_init : ByteArray := prog_2_method_1_code
def yX0_init : MethodName := ⟨RX0, "<init>", "()V"⟩
abbrev cX0_copyFrom : ByteArray := prog_2_method_2_code
def yX0_copyFrom : MethodName := ⟨RX0, "copyFrom", "(LTravelPurses$Books;)V"⟩
abbrev cX0_takeIn : ByteArray := prog_2_method_3_code
def yX0_takeIn : MethodName := ⟨RX0, "takeIn", "(LTravelPurses$Purse;I)V"⟩
abbrev cX0_takeBack : ByteArray := prog_2_method_4_code
def yX0_takeBack : MethodName := ⟨RX0, "takeBack", "(LTravelPurses$Purse;I)I"⟩
abbrev cX0_mayLoad : ByteArray := prog_2_method_5_code
def yX0_mayLoad : MethodName := ⟨RX0, "mayLoad", "(LTravelPurses$Purse;I)Z"⟩
abbrev cX0_addLoad : ByteArray := prog_2_method_6_code
def yX0_addLoad : MethodName := ⟨RX0, "addLoad", "(LTravelPurses$Purse;I)V"⟩
abbrev cX0_payOut : ByteArray := prog_2_method_7_code
def yX0_payOut : MethodName := ⟨RX0, "payOut", "(LTravelPurses$Purse;)I"⟩
abbrev cX0_freeOf : ByteArray := prog_2_method_8_code
def yX0_freeOf : MethodName := ⟨RX0, "freeOf", "(LTravelPurses$Purse;)I"⟩
abbrev cX0_keptIn : ByteArray := prog_2_method_9_code
def yX0_keptIn : MethodName := ⟨RX0, "keptIn", "(LTravelPurses$Purse;)I"⟩
abbrev cX0_isLocked : ByteArray := prog_2_method_10_code
def yX0_isLocked : MethodName := ⟨RX0, "isLocked", "(LTravelPurses$Purse;)Z"⟩
abbrev cX0_rateOf : ByteArray := prog_2_method_11_code
def yX0_rateOf : MethodName := ⟨RX0, "rateOf", "(LTravelPurses$Purse;)I"⟩
abbrev cX0_isPair : ByteArray := prog_2_method_12_code
def yX0_isPair : MethodName := ⟨RX0, "isPair", "(LTravelPurses$Purse;LTravelPurses$Purse;)Z"⟩
abbrev cX0_grossOf : ByteArray := prog_2_method_13_code
def yX0_grossOf : MethodName := ⟨RX0, "grossOf", "(LTravelPurses$Purse;LTravelPurses$Purse;I)J"⟩
abbrev cX0_spreadOf : ByteArray := prog_2_method_14_code
def yX0_spreadOf : MethodName := ⟨RX0, "spreadOf", "(J)I"⟩
abbrev cX0_netOf : ByteArray := prog_2_method_15_code
def yX0_netOf : MethodName := ⟨RX0, "netOf", "(LTravelPurses$Purse;LTravelPurses$Purse;I)I"⟩
abbrev cX0_convert : ByteArray := prog_2_method_16_code
def yX0_convert : MethodName := ⟨RX0, "convert", "(LTravelPurses$Purse;LTravelPurses$Purse;I)I"⟩
abbrev cX0_exchangeReason : ByteArray := prog_2_method_17_code
def yX0_exchangeReason : MethodName := ⟨RX0, "exchangeReason", "(LTravelPurses$Purse;LTravelPurses$Purse;I)I"⟩
abbrev cX0_holdReason : ByteArray := prog_2_method_18_code
def yX0_holdReason : MethodName := ⟨RX0, "holdReason", "(LTravelPurses$Purse;I)I"⟩
abbrev cX0_closingReason : ByteArray := prog_2_method_19_code
def yX0_closingReason : MethodName := ⟨RX0, "closingReason", "(I)I"⟩
abbrev cX0_withTip : ByteArray := prog_2_method_20_code
def yX0_withTip : MethodName := ⟨RX0, "withTip", "(I)I"⟩
abbrev cX0_addHold : ByteArray := prog_2_method_21_code
def yX0_addHold : MethodName := ⟨RX0, "addHold", "(LTravelPurses$Purse;I)I"⟩
abbrev cX0_dropHold : ByteArray := prog_2_method_22_code
def yX0_dropHold : MethodName := ⟨RX0, "dropHold", "(I)V"⟩
abbrev cX0_dropOldHolds : ByteArray := prog_2_method_23_code
def yX0_dropOldHolds : MethodName := ⟨RX0, "dropOldHolds", "()I"⟩
abbrev cX0_addPayment : ByteArray := prog_2_method_24_code
def yX0_addPayment : MethodName := ⟨RX0, "addPayment", "(LTravelPurses$Purse;I)I"⟩
abbrev cX0_mayDispute : ByteArray := prog_2_method_25_code
def yX0_mayDispute : MethodName := ⟨RX0, "mayDispute", "(LTravelPurses$Payment;)Z"⟩
abbrev cX0_disputedPayments : ByteArray := prog_2_method_26_code
def yX0_disputedPayments : MethodName := ⟨RX0, "disputedPayments", "()I"⟩
abbrev cX0_creditIn : ByteArray := prog_2_method_27_code
def yX0_creditIn : MethodName := ⟨RX0, "creditIn", "(LTravelPurses$Purse;)I"⟩
abbrev cX0_paidFrom : ByteArray := prog_2_method_28_code
def yX0_paidFrom : MethodName := ⟨RX0, "paidFrom", "(LTravelPurses$Purse;)I"⟩
def RX1 : String := "TravelPurses$Hold"
def TX1 : u_T := fun k => match k with
  | 0 => ("TravelPurses$Hold", "wallet", "I", false)
  | 1 => ("TravelPurses$Hold", "currency", "I", false)
  | 2 => ("TravelPurses$Hold", "amount", "I", false)
  | 3 => ("TravelPurses$Hold", "keeps", "I", false)
  | _ => ("TravelPurses$Hold", "day", "I", false)
def tyX1 : Nat → FieldType := fun k => match k with
  | 0 => .int
  | 1 => .int
  | 2 => .int
  | 3 => .int
  | _ => .int
abbrev wsX10 : List Cond := u_ws RX1 TX1 5
theorem nmX1 : ∀ a, a < 5 → ∀ b, b < 5 → a ≠ b → (TX1 a).2.1 ≠ (TX1 b).2.1 := by decide +kernel
theorem tyX1_ok : ∀ k, k < 5 → parseFieldDescriptor (TX1 k).2.2.1 = some (tyX1 k) := by decide +kernel
abbrev cX1_init : ByteArray := prog_3_method_1_code
def yX1_init : MethodName := ⟨RX1, "<init>", "()V"⟩
abbrev cX1_isIn : ByteArray := prog_3_method_2_code
def yX1_isIn : MethodName := ⟨RX1, "isIn", "(LTravelPurses$Purse;)Z"⟩
abbrev cX1_copyFrom : ByteArray := prog_3_method_3_code
def yX1_copyFrom : MethodName := ⟨RX1, "copyFrom", "(LTravelPurses$Hold;)V"⟩
def RX2 : String := "TravelPurses$OrderReader"
def TX2 : u_T := fun k => match k with
  | 0 => ("TravelPurses$OrderReader", "sign", "I", false)
  | 1 => ("TravelPurses$OrderReader", "wallet", "I", false)
  | 2 => ("TravelPurses$OrderReader", "first", "I", false)
  | 3 => ("TravelPurses$OrderReader", "second", "I", false)
  | 4 => ("TravelPurses$OrderReader", "amount", "I", false)
  | 5 => ("TravelPurses$OrderReader", "digitsRead", "I", false)
  | _ => ("TravelPurses$OrderReader", "isMarked", "Z", false)
def tyX2 : Nat → FieldType := fun k => match k with
  | 0 => .int
  | 1 => .int
  | 2 => .int
  | 3 => .int
  | 4 => .int
  | 5 => .int
  | _ => .boolean
abbrev wsX20 : List Cond := u_ws RX2 TX2 7
theorem nmX2 : ∀ a, a < 7 → ∀ b, b < 7 → a ≠ b → (TX2 a).2.1 ≠ (TX2 b).2.1 := by decide +kernel
theorem tyX2_ok : ∀ k, k < 7 → parseFieldDescriptor (TX2 k).2.2.1 = some (tyX2 k) := by decide +kernel
abbrev cX2_init : ByteArray := prog_4_method_1_code
def yX2_init : MethodName := ⟨RX2, "<init>", "()V"⟩
abbrev cX2_startOrder : ByteArray := prog_4_method_2_code
def yX2_startOrder : MethodName := ⟨RX2, "startOrder", "()V"⟩
abbrev cX2_isOrderWhole : ByteArray := prog_4_method_3_code
def yX2_isOrderWhole : MethodName := ⟨RX2, "isOrderWhole", "()Z"⟩
abbrev cX2_reads : ByteArray := prog_4_method_4_code
def yX2_reads : MethodName := ⟨RX2, "reads", "(I)Z"⟩
abbrev cX2_readsSign : ByteArray := prog_4_method_5_code
def yX2_readsSign : MethodName := ⟨RX2, "readsSign", "(I)Z"⟩
abbrev cX2_digitsDue : ByteArray := prog_4_method_6_code
def yX2_digitsDue : MethodName := ⟨RX2, "digitsDue", "()I"⟩
abbrev cX2_readsDigit : ByteArray := prog_4_method_7_code
def yX2_readsDigit : MethodName := ⟨RX2, "readsDigit", "(I)Z"⟩
abbrev cX2_readsAmount : ByteArray := prog_4_method_8_code
def yX2_readsAmount : MethodName := ⟨RX2, "readsAmount", "(I)Z"⟩
def RX3 : String := "TravelPurses$Payment"
def TX3 : u_T := fun k => match k with
  | 0 => ("TravelPurses$Payment", "wallet", "I", false)
  | 1 => ("TravelPurses$Payment", "currency", "I", false)
  | 2 => ("TravelPurses$Payment", "amount", "I", false)
  | 3 => ("TravelPurses$Payment", "day", "I", false)
  | _ => ("TravelPurses$Payment", "status", "I", false)
def tyX3 : Nat → FieldType := fun k => match k with
  | 0 => .int
  | 1 => .int
  | 2 => .int
  | 3 => .int
  | _ => .int
abbrev wsX30 : List Cond := u_ws RX3 TX3 5
theorem nmX3 : ∀ a, a < 5 → ∀ b, b < 5 → a ≠ b → (TX3 a).2.1 ≠ (TX3 b).2.1 := by decide +kernel
theorem tyX3_ok : ∀ k, k < 5 → parseFieldDescriptor (TX3 k).2.2.1 = some (tyX3 k) := by decide +kernel
abbrev cX3_init : ByteArray := prog_5_method_1_code
def yX3_init : MethodName := ⟨RX3, "<init>", "()V"⟩
abbrev cX3_isOutOf : ByteArray := prog_5_method_2_code
def yX3_isOutOf : MethodName := ⟨RX3, "isOutOf", "(LTravelPurses$Purse;)Z"⟩
abbrev cX3_copyFrom : ByteArray := prog_5_method_3_code
def yX3_copyFrom : MethodName := ⟨RX3, "copyFrom", "(LTravelPurses$Payment;)V"⟩
def RX4 : String := "TravelPurses$Purse"
def TX4 : u_T := fun k => match k with
  | 0 => ("TravelPurses$Purse", "wallet", "I", true)
  | 1 => ("TravelPurses$Purse", "currency", "I", true)
  | 2 => ("TravelPurses$Purse", "balance", "I", false)
  | 3 => ("TravelPurses$Purse", "debt", "I", false)
  | 4 => ("TravelPurses$Purse", "lockedRate", "I", false)
  | _ => ("TravelPurses$Purse", "lockEnd", "I", false)
def tyX4 : Nat → FieldType := fun k => match k with
  | 0 => .int
  | 1 => .int
  | 2 => .int
  | 3 => .int
  | 4 => .int
  | _ => .int
abbrev wsX40 : List Cond := u_ws RX4 TX4 6
theorem nmX4 : ∀ a, a < 6 → ∀ b, b < 6 → a ≠ b → (TX4 a).2.1 ≠ (TX4 b).2.1 := by decide +kernel
theorem tyX4_ok : ∀ k, k < 6 → parseFieldDescriptor (TX4 k).2.2.1 = some (tyX4 k) := by decide +kernel
abbrev cX4_init : ByteArray := prog_6_method_1_code
def yX4_init : MethodName := ⟨RX4, "<init>", "(II)V"⟩
abbrev cX4_copyFrom : ByteArray := prog_6_method_2_code
def yX4_copyFrom : MethodName := ⟨RX4, "copyFrom", "(LTravelPurses$Purse;)V"⟩
def RX5 : String := "TravelPurses"
def TX5 : u_T := fun k => match k with
  | 0 => ("TravelPurses", "books", "LTravelPurses$Books;", true)
  | 1 => ("TravelPurses", "saved", "[LTravelPurses$Books;", true)
  | 2 => ("TravelPurses", "savedStates", "I", false)
  | 3 => ("TravelPurses", "buffer", "[I", true)
  | 4 => ("TravelPurses", "bufferLength", "I", false)
  | _ => ("TravelPurses", "reader", "LTravelPurses$OrderReader;", true)
def tyX5 : Nat → FieldType := fun k => match k with
  | 0 => .object "TravelPurses$Books"
  | 1 => .array (.object "TravelPurses$Books")
  | 2 => .int
  | 3 => .array .int
  | 4 => .int
  | _ => .object "TravelPurses$OrderReader"
abbrev wsX50 : List Cond := u_ws RX5 TX5 6
theorem nmX5 : ∀ a, a < 6 → ∀ b, b < 6 → a ≠ b → (TX5 a).2.1 ≠ (TX5 b).2.1 := by decide +kernel
theorem tyX5_ok : ∀ k, k < 6 → parseFieldDescriptor (TX5 k).2.2.1 = some (tyX5 k) := by decide +kernel
abbrev cX5_init : ByteArray := prog_1_method_1_code
def yX5_init : MethodName := ⟨RX5, "<init>", "()V"⟩
abbrev cX5_load : ByteArray := prog_1_method_2_code
def yX5_load : MethodName := ⟨RX5, "load", "(II)I"⟩
abbrev cX5_quote : ByteArray := prog_1_method_3_code
def yX5_quote : MethodName := ⟨RX5, "quote", "(II)I"⟩
abbrev cX5_lock : ByteArray := prog_1_method_4_code
def yX5_lock : MethodName := ⟨RX5, "lock", "(II)I"⟩
abbrev cX5_exchange : ByteArray := prog_1_method_5_code
def yX5_exchange : MethodName := ⟨RX5, "exchange", "(IIII)I"⟩
abbrev cX5_hold : ByteArray := prog_1_method_6_code
def yX5_hold : MethodName := ⟨RX5, "hold", "(III)I"⟩
abbrev cX5_pay : ByteArray := prog_1_method_7_code
def yX5_pay : MethodName := ⟨RX5, "pay", "(II)I"⟩
abbrev cX5_letGo : ByteArray := prog_1_method_8_code
def yX5_letGo : MethodName := ⟨RX5, "letGo", "(I)I"⟩
abbrev cX5_dispute : ByteArray := prog_1_method_9_code
def yX5_dispute : MethodName := ⟨RX5, "dispute", "(I)I"⟩
abbrev cX5_decide : ByteArray := prog_1_method_10_code
def yX5_decide : MethodName := ⟨RX5, "decide", "(IZ)I"⟩
abbrev cX5_close : ByteArray := prog_1_method_11_code
def yX5_close : MethodName := ⟨RX5, "close", "(I)I"⟩
abbrev cX5_pass : ByteArray := prog_1_method_12_code
def yX5_pass : MethodName := ⟨RX5, "pass", "(I)I"⟩
abbrev cX5_set : ByteArray := prog_1_method_13_code
def yX5_set : MethodName := ⟨RX5, "set", "(II)I"⟩
abbrev cX5_append : ByteArray := prog_1_method_14_code
def yX5_append : MethodName := ⟨RX5, "append", "(I)I"⟩
abbrev cX5_clearBuffer : ByteArray := prog_1_method_15_code
def yX5_clearBuffer : MethodName := ⟨RX5, "clearBuffer", "()I"⟩
abbrev cX5_firstError : ByteArray := prog_1_method_16_code
def yX5_firstError : MethodName := ⟨RX5, "firstError", "()I"⟩
abbrev cX5_run : ByteArray := prog_1_method_17_code
def yX5_run : MethodName := ⟨RX5, "run", "()I"⟩
abbrev cX5_undo : ByteArray := prog_1_method_18_code
def yX5_undo : MethodName := ⟨RX5, "undo", "()I"⟩
abbrev cX5_purse : ByteArray := prog_1_method_19_code
def yX5_purse : MethodName := ⟨RX5, "purse", "(III)I"⟩
abbrev cX5_held : ByteArray := prog_1_method_20_code
def yX5_held : MethodName := ⟨RX5, "held", "(II)I"⟩
abbrev cX5_payment : ByteArray := prog_1_method_21_code
def yX5_payment : MethodName := ⟨RX5, "payment", "(II)I"⟩
abbrev cX5_count : ByteArray := prog_1_method_22_code
def yX5_count : MethodName := ⟨RX5, "count", "(I)I"⟩
abbrev cX5_setting : ByteArray := prog_1_method_23_code
def yX5_setting : MethodName := ⟨RX5, "setting", "(I)I"⟩
abbrev cX5_ifExchanged : ByteArray := prog_1_method_24_code
def yX5_ifExchanged : MethodName := ⟨RX5, "ifExchanged", "(IIII)I"⟩
abbrev cX5_needed : ByteArray := prog_1_method_25_code
def yX5_needed : MethodName := ⟨RX5, "needed", "(III)I"⟩
abbrev cX5_room : ByteArray := prog_1_method_26_code
def yX5_room : MethodName := ⟨RX5, "room", "(II)I"⟩
abbrev cX5_whyNot : ByteArray := prog_1_method_27_code
def yX5_whyNot : MethodName := ⟨RX5, "whyNot", "(IIIII)I"⟩
abbrev cX5_ifClosed : ByteArray := prog_1_method_28_code
def yX5_ifClosed : MethodName := ⟨RX5, "ifClosed", "(I)I"⟩
abbrev cX5_heldShare : ByteArray := prog_1_method_29_code
def yX5_heldShare : MethodName := ⟨RX5, "heldShare", "(II)D"⟩
abbrev cX5_digest : ByteArray := prog_1_method_30_code
def yX5_digest : MethodName := ⟨RX5, "digest", "()J"⟩
abbrev cX5_purseAt : ByteArray := prog_1_method_31_code
def yX5_purseAt : MethodName := ⟨RX5, "purseAt", "(II)LTravelPurses$Purse;"⟩
abbrev cX5_foreignPurseAt : ByteArray := prog_1_method_32_code
def yX5_foreignPurseAt : MethodName := ⟨RX5, "foreignPurseAt", "(II)LTravelPurses$Purse;"⟩
abbrev cX5_holdAt : ByteArray := prog_1_method_33_code
def yX5_holdAt : MethodName := ⟨RX5, "holdAt", "(I)LTravelPurses$Hold;"⟩
abbrev cX5_paymentAt : ByteArray := prog_1_method_34_code
def yX5_paymentAt : MethodName := ⟨RX5, "paymentAt", "(I)LTravelPurses$Payment;"⟩
abbrev cX5_requireAmount : ByteArray := prog_1_method_35_code
def yX5_requireAmount : MethodName := ⟨RX5, "requireAmount", "(I)V"⟩
abbrev cX5_saveState : ByteArray := prog_1_method_36_code
def yX5_saveState : MethodName := ⟨RX5, "saveState", "()V"⟩
abbrev cX5_dropOldestState : ByteArray := prog_1_method_37_code
def yX5_dropOldestState : MethodName := ⟨RX5, "dropOldestState", "()V"⟩
abbrev cX5_carryOutRow : ByteArray := prog_1_method_38_code
def yX5_carryOutRow : MethodName := ⟨RX5, "carryOutRow", "()I"⟩
abbrev cX5_carriesOutOrder : ByteArray := prog_1_method_39_code
def yX5_carriesOutOrder : MethodName := ⟨RX5, "carriesOutOrder", "()Z"⟩
abbrev cX5_mix : ByteArray := prog_1_method_40_code
def yX5_mix : MethodName := ⟨RX5, "mix", "(JJ)J"⟩
abbrev cX5_mixWallet : ByteArray := prog_1_method_41_code
def yX5_mixWallet : MethodName := ⟨RX5, "mixWallet", "(JI)J"⟩
abbrev cX5_mixHolds : ByteArray := prog_1_method_42_code
def yX5_mixHolds : MethodName := ⟨RX5, "mixHolds", "(J)J"⟩
abbrev cX5_mixPayments : ByteArray := prog_1_method_43_code
def yX5_mixPayments : MethodName := ⟨RX5, "mixPayments", "(J)J"⟩
abbrev cX5_mixBuffer : ByteArray := prog_1_method_44_code
def yX5_mixBuffer : MethodName := ⟨RX5, "mixBuffer", "(J)J"⟩
abbrev cX5_bitsOfShare : ByteArray := prog_1_method_45_code
def yX5_bitsOfShare : MethodName := ⟨RX5, "bitsOfShare", "(D)J"⟩
def RX6 : String := "TravelPursesModel"
def TX6 : u_T := fun k => match k with
  | 0 => ("TravelPursesModel", "z", "[I", true)
  | 1 => ("TravelPursesModel", "states", "I", false)
  | 2 => ("TravelPursesModel", "history", "[I", true)
  | 3 => ("TravelPursesModel", "length", "I", false)
  | 4 => ("TravelPursesModel", "text", "[I", true)
  | 5 => ("TravelPursesModel", "thrown", "I", false)
  | 6 => ("TravelPursesModel", "parts", "[I", true)
  | 7 => ("TravelPursesModel", "read", "I", false)
  | 8 => ("TravelPursesModel", "number", "I", false)
  | 9 => ("TravelPursesModel", "due", "I", false)
  | _ => ("TravelPursesModel", "hash", "J", false)
def tyX6 : Nat → FieldType := fun k => match k with
  | 0 => .array .int
  | 1 => .int
  | 2 => .array .int
  | 3 => .int
  | 4 => .array .int
  | 5 => .int
  | 6 => .array .int
  | 7 => .int
  | 8 => .int
  | 9 => .int
  | _ => .long
abbrev wsX60 : List Cond := u_ws RX6 TX6 11
theorem nmX6 : ∀ a, a < 11 → ∀ b, b < 11 → a ≠ b → (TX6 a).2.1 ≠ (TX6 b).2.1 := by decide +kernel
theorem tyX6_ok : ∀ k, k < 11 → parseFieldDescriptor (TX6 k).2.2.1 = some (tyX6 k) := by decide +kernel
abbrev cX6_init : ByteArray := prog_8_method_1_code
def yX6_init : MethodName := ⟨RX6, "<init>", "()V"⟩
abbrev cX6_thrown : ByteArray := prog_8_method_2_code
def yX6_thrown : MethodName := ⟨RX6, "thrown", "()I"⟩
abbrev cX6_within : ByteArray := prog_8_method_3_code
def yX6_within : MethodName := ⟨RX6, "within", "(III)Z"⟩
abbrev cX6_save : ByteArray := prog_8_method_4_code
def yX6_save : MethodName := ⟨RX6, "save", "()V"⟩
abbrev cX6_isWallet : ByteArray := prog_8_method_5_code
def yX6_isWallet : MethodName := ⟨RX6, "isWallet", "(I)Z"⟩
abbrev cX6_isCurrency : ByteArray := prog_8_method_6_code
def yX6_isCurrency : MethodName := ⟨RX6, "isCurrency", "(I)Z"⟩
abbrev cX6_isPurse : ByteArray := prog_8_method_7_code
def yX6_isPurse : MethodName := ⟨RX6, "isPurse", "(II)Z"⟩
abbrev cX6_isForeign : ByteArray := prog_8_method_8_code
def yX6_isForeign : MethodName := ⟨RX6, "isForeign", "(II)Z"⟩
abbrev cX6_isMoney : ByteArray := prog_8_method_9_code
def yX6_isMoney : MethodName := ⟨RX6, "isMoney", "(I)Z"⟩
abbrev cX6_at : ByteArray := prog_8_method_10_code
def yX6_at : MethodName := ⟨RX6, "at", "(II)I"⟩
abbrev cX6_of : ByteArray := prog_8_method_11_code
def yX6_of : MethodName := ⟨RX6, "of", "(III)I"⟩
abbrev cX6_ofHold : ByteArray := prog_8_method_12_code
def yX6_ofHold : MethodName := ⟨RX6, "ofHold", "(II)I"⟩
abbrev cX6_ofPayment : ByteArray := prog_8_method_13_code
def yX6_ofPayment : MethodName := ⟨RX6, "ofPayment", "(II)I"⟩
abbrev cX6_isHold : ByteArray := prog_8_method_14_code
def yX6_isHold : MethodName := ⟨RX6, "isHold", "(I)Z"⟩
abbrev cX6_isPayment : ByteArray := prog_8_method_15_code
def yX6_isPayment : MethodName := ⟨RX6, "isPayment", "(I)Z"⟩
abbrev cX6_isOf : ByteArray := prog_8_method_16_code
def yX6_isOf : MethodName := ⟨RX6, "isOf", "(III)Z"⟩
abbrev cX6_keptOf : ByteArray := prog_8_method_17_code
def yX6_keptOf : MethodName := ⟨RX6, "keptOf", "(II)I"⟩
abbrev cX6_freeOf : ByteArray := prog_8_method_18_code
def yX6_freeOf : MethodName := ⟨RX6, "freeOf", "(II)I"⟩
abbrev cX6_comeIn : ByteArray := prog_8_method_19_code
def yX6_comeIn : MethodName := ⟨RX6, "comeIn", "(III)V"⟩
abbrev cX6_load : ByteArray := prog_8_method_20_code
def yX6_load : MethodName := ⟨RX6, "load", "(II)I"⟩
abbrev cX6_canLoad : ByteArray := prog_8_method_21_code
def yX6_canLoad : MethodName := ⟨RX6, "canLoad", "(II)Z"⟩
abbrev cX6_loads : ByteArray := prog_8_method_22_code
def yX6_loads : MethodName := ⟨RX6, "loads", "(II)V"⟩
abbrev cX6_quote : ByteArray := prog_8_method_23_code
def yX6_quote : MethodName := ⟨RX6, "quote", "(II)I"⟩
abbrev cX6_isLocked : ByteArray := prog_8_method_24_code
def yX6_isLocked : MethodName := ⟨RX6, "isLocked", "(II)Z"⟩
abbrev cX6_rateOf : ByteArray := prog_8_method_25_code
def yX6_rateOf : MethodName := ⟨RX6, "rateOf", "(II)I"⟩
abbrev cX6_lock : ByteArray := prog_8_method_26_code
def yX6_lock : MethodName := ⟨RX6, "lock", "(II)I"⟩
abbrev cX6_given : ByteArray := prog_8_method_27_code
def yX6_given : MethodName := ⟨RX6, "given", "(IIII)I"⟩
abbrev cX6_spreadOf : ByteArray := prog_8_method_28_code
def yX6_spreadOf : MethodName := ⟨RX6, "spreadOf", "(I)I"⟩
abbrev cX6_brings : ByteArray := prog_8_method_29_code
def yX6_brings : MethodName := ⟨RX6, "brings", "(IIII)I"⟩
abbrev cX6_isWrongPair : ByteArray := prog_8_method_30_code
def yX6_isWrongPair : MethodName := ⟨RX6, "isWrongPair", "(II)Z"⟩
abbrev cX6_whyNoExchange : ByteArray := prog_8_method_31_code
def yX6_whyNoExchange : MethodName := ⟨RX6, "whyNoExchange", "(IIII)I"⟩
abbrev cX6_exchanges : ByteArray := prog_8_method_32_code
def yX6_exchanges : MethodName := ⟨RX6, "exchanges", "(IIII)I"⟩
abbrev cX6_exchange : ByteArray := prog_8_method_33_code
def yX6_exchange : MethodName := ⟨RX6, "exchange", "(IIII)I"⟩
abbrev cX6_withTip : ByteArray := prog_8_method_34_code
def yX6_withTip : MethodName := ⟨RX6, "withTip", "(I)I"⟩
abbrev cX6_whyNoHold : ByteArray := prog_8_method_35_code
def yX6_whyNoHold : MethodName := ⟨RX6, "whyNoHold", "(III)I"⟩
abbrev cX6_holds : ByteArray := prog_8_method_36_code
def yX6_holds : MethodName := ⟨RX6, "holds", "(III)I"⟩
abbrev cX6_hold : ByteArray := prog_8_method_37_code
def yX6_hold : MethodName := ⟨RX6, "hold", "(III)I"⟩
abbrev cX6_removeHold : ByteArray := prog_8_method_38_code
def yX6_removeHold : MethodName := ⟨RX6, "removeHold", "(I)V"⟩
abbrev cX6_pay : ByteArray := prog_8_method_39_code
def yX6_pay : MethodName := ⟨RX6, "pay", "(II)I"⟩
abbrev cX6_letGo : ByteArray := prog_8_method_40_code
def yX6_letGo : MethodName := ⟨RX6, "letGo", "(I)I"⟩
abbrev cX6_canDispute : ByteArray := prog_8_method_41_code
def yX6_canDispute : MethodName := ⟨RX6, "canDispute", "(I)Z"⟩
abbrev cX6_dispute : ByteArray := prog_8_method_42_code
def yX6_dispute : MethodName := ⟨RX6, "dispute", "(I)I"⟩
abbrev cX6_takesBack : ByteArray := prog_8_method_43_code
def yX6_takesBack : MethodName := ⟨RX6, "takesBack", "(III)I"⟩
abbrev cX6_decide : ByteArray := prog_8_method_44_code
def yX6_decide : MethodName := ⟨RX6, "decide", "(IZ)I"⟩
abbrev cX6_hasHold : ByteArray := prog_8_method_45_code
def yX6_hasHold : MethodName := ⟨RX6, "hasHold", "(I)Z"⟩
abbrev cX6_hasDispute : ByteArray := prog_8_method_46_code
def yX6_hasDispute : MethodName := ⟨RX6, "hasDispute", "(I)Z"⟩
abbrev cX6_hasDebt : ByteArray := prog_8_method_47_code
def yX6_hasDebt : MethodName := ⟨RX6, "hasDebt", "(I)Z"⟩
abbrev cX6_whyNoClosing : ByteArray := prog_8_method_48_code
def yX6_whyNoClosing : MethodName := ⟨RX6, "whyNoClosing", "(I)I"⟩
abbrev cX6_closes : ByteArray := prog_8_method_49_code
def yX6_closes : MethodName := ⟨RX6, "closes", "(I)I"⟩
abbrev cX6_close : ByteArray := prog_8_method_50_code
def yX6_close : MethodName := ⟨RX6, "close", "(I)I"⟩
abbrev cX6_dayPasses : ByteArray := prog_8_method_51_code
def yX6_dayPasses : MethodName := ⟨RX6, "dayPasses", "()I"⟩
abbrev cX6_pass : ByteArray := prog_8_method_52_code
def yX6_pass : MethodName := ⟨RX6, "pass", "(I)I"⟩
abbrev cX6_isSetting : ByteArray := prog_8_method_53_code
def yX6_isSetting : MethodName := ⟨RX6, "isSetting", "(I)Z"⟩
abbrev cX6_greatest : ByteArray := prog_8_method_54_code
def yX6_greatest : MethodName := ⟨RX6, "greatest", "(I)I"⟩
abbrev cX6_set : ByteArray := prog_8_method_55_code
def yX6_set : MethodName := ⟨RX6, "set", "(II)I"⟩
abbrev cX6_append : ByteArray := prog_8_method_56_code
def yX6_append : MethodName := ⟨RX6, "append", "(I)I"⟩
abbrev cX6_clearBuffer : ByteArray := prog_8_method_57_code
def yX6_clearBuffer : MethodName := ⟨RX6, "clearBuffer", "()I"⟩
abbrev cX6_takesPlace : ByteArray := prog_8_method_58_code
def yX6_takesPlace : MethodName := ⟨RX6, "takesPlace", "(I)Z"⟩
abbrev cX6_takesDigit : ByteArray := prog_8_method_59_code
def yX6_takesDigit : MethodName := ⟨RX6, "takesDigit", "(I)Z"⟩
abbrev cX6_takes : ByteArray := prog_8_method_60_code
def yX6_takes : MethodName := ⟨RX6, "takes", "(I)Z"⟩
abbrev cX6_rightUpTo : ByteArray := prog_8_method_61_code
def yX6_rightUpTo : MethodName := ⟨RX6, "rightUpTo", "()I"⟩
abbrev cX6_firstError : ByteArray := prog_8_method_62_code
def yX6_firstError : MethodName := ⟨RX6, "firstError", "()I"⟩
abbrev cX6_carries : ByteArray := prog_8_method_63_code
def yX6_carries : MethodName := ⟨RX6, "carries", "(I)Z"⟩
abbrev cX6_run : ByteArray := prog_8_method_64_code
def yX6_run : MethodName := ⟨RX6, "run", "()I"⟩
abbrev cX6_undo : ByteArray := prog_8_method_65_code
def yX6_undo : MethodName := ⟨RX6, "undo", "()I"⟩
abbrev cX6_creditIn : ByteArray := prog_8_method_66_code
def yX6_creditIn : MethodName := ⟨RX6, "creditIn", "(II)I"⟩
abbrev cX6_purseNow : ByteArray := prog_8_method_67_code
def yX6_purseNow : MethodName := ⟨RX6, "purseNow", "(III)I"⟩
abbrev cX6_purse : ByteArray := prog_8_method_68_code
def yX6_purse : MethodName := ⟨RX6, "purse", "(III)I"⟩
abbrev cX6_held : ByteArray := prog_8_method_69_code
def yX6_held : MethodName := ⟨RX6, "held", "(II)I"⟩
abbrev cX6_paymentNow : ByteArray := prog_8_method_70_code
def yX6_paymentNow : MethodName := ⟨RX6, "paymentNow", "(II)I"⟩
abbrev cX6_payment : ByteArray := prog_8_method_71_code
def yX6_payment : MethodName := ⟨RX6, "payment", "(II)I"⟩
abbrev cX6_disputed : ByteArray := prog_8_method_72_code
def yX6_disputed : MethodName := ⟨RX6, "disputed", "()I"⟩
abbrev cX6_counted : ByteArray := prog_8_method_73_code
def yX6_counted : MethodName := ⟨RX6, "counted", "(I)I"⟩
abbrev cX6_count : ByteArray := prog_8_method_74_code
def yX6_count : MethodName := ⟨RX6, "count", "(I)I"⟩
abbrev cX6_setting : ByteArray := prog_8_method_75_code
def yX6_setting : MethodName := ⟨RX6, "setting", "(I)I"⟩
abbrev cX6_exchangedThen : ByteArray := prog_8_method_76_code
def yX6_exchangedThen : MethodName := ⟨RX6, "exchangedThen", "(IIII)I"⟩
abbrev cX6_ifExchanged : ByteArray := prog_8_method_77_code
def yX6_ifExchanged : MethodName := ⟨RX6, "ifExchanged", "(IIII)I"⟩
abbrev cX6_neededFor : ByteArray := prog_8_method_78_code
def yX6_neededFor : MethodName := ⟨RX6, "neededFor", "(III)I"⟩
abbrev cX6_needed : ByteArray := prog_8_method_79_code
def yX6_needed : MethodName := ⟨RX6, "needed", "(III)I"⟩
abbrev cX6_roomOf : ByteArray := prog_8_method_80_code
def yX6_roomOf : MethodName := ⟨RX6, "roomOf", "(II)I"⟩
abbrev cX6_room : ByteArray := prog_8_method_81_code
def yX6_room : MethodName := ⟨RX6, "room", "(II)I"⟩
abbrev cX6_whyNot : ByteArray := prog_8_method_82_code
def yX6_whyNot : MethodName := ⟨RX6, "whyNot", "(IIIII)I"⟩
abbrev cX6_closedThen : ByteArray := prog_8_method_83_code
def yX6_closedThen : MethodName := ⟨RX6, "closedThen", "(I)I"⟩
abbrev cX6_ifClosed : ByteArray := prog_8_method_84_code
def yX6_ifClosed : MethodName := ⟨RX6, "ifClosed", "(I)I"⟩
abbrev cX6_share : ByteArray := prog_8_method_85_code
def yX6_share : MethodName := ⟨RX6, "share", "(II)D"⟩
abbrev cX6_heldShare : ByteArray := prog_8_method_86_code
def yX6_heldShare : MethodName := ⟨RX6, "heldShare", "(II)D"⟩
abbrev cX6_mix : ByteArray := prog_8_method_87_code
def yX6_mix : MethodName := ⟨RX6, "mix", "(J)V"⟩
abbrev cX6_mixWallet : ByteArray := prog_8_method_88_code
def yX6_mixWallet : MethodName := ⟨RX6, "mixWallet", "(I)V"⟩
abbrev cX6_digest : ByteArray := prog_8_method_89_code
def yX6_digest : MethodName := ⟨RX6, "digest", "()J"⟩
def RJx8e188 : String := "java/lang/Cloneable"
def TJx8e188 : u_T := fun k => match k with
  | _ => ("", "", "", false)
def tyJx8e188 : Nat → FieldType := fun k => match k with
  | _ => .int
abbrev wsJx8e1880 : List Cond := u_ws RJx8e188 TJx8e188 0
theorem nmJx8e188 : ∀ a, a < 0 → ∀ b, b < 0 → a ≠ b → (TJx8e188 a).2.1 ≠ (TJx8e188 b).2.1 := by decide +kernel
theorem tyJx8e188_ok : ∀ k, k < 0 → parseFieldDescriptor (TJx8e188 k).2.2.1 = some (tyJx8e188 k) := by decide +kernel
def RJxe99ae : String := "java/lang/Double"
def TJxe99ae : u_T := fun k => match k with
  | _ => ("", "", "", false)
def tyJxe99ae : Nat → FieldType := fun k => match k with
  | _ => .int
abbrev wsJxe99ae0 : List Cond := u_ws RJxe99ae TJxe99ae 0
theorem nmJxe99ae : ∀ a, a < 0 → ∀ b, b < 0 → a ≠ b → (TJxe99ae a).2.1 ≠ (TJxe99ae b).2.1 := by decide +kernel
theorem tyJxe99ae_ok : ∀ k, k < 0 → parseFieldDescriptor (TJxe99ae k).2.2.1 = some (tyJxe99ae k) := by decide +kernel
abbrev cJxe99ae_isNaN_b9ae7 : ByteArray := prog_10_method_6_code
def yJxe99ae_isNaN_b9ae7 : MethodName := ⟨RJxe99ae, "isNaN", "(D)Z"⟩
abbrev cJxe99ae_doubleToLongBits_ccdee : ByteArray := prog_10_method_23_code
def yJxe99ae_doubleToLongBits_ccdee : MethodName := ⟨RJxe99ae, "doubleToLongBits", "(D)J"⟩
def RJ9 : String := "java/lang/Math"
def TJ9 : u_T := fun k => match k with
  | _ => ("", "", "", false)
def tyJ9 : Nat → FieldType := fun k => match k with
  | _ => .int
abbrev wsJ90 : List Cond := u_ws RJ9 TJ9 0
theorem nmJ9 : ∀ a, a < 0 → ∀ b, b < 0 → a ≠ b → (TJ9 a).2.1 ≠ (TJ9 b).2.1 := by decide +kernel
theorem tyJ9_ok : ∀ k, k < 0 → parseFieldDescriptor (TJ9 k).2.2.1 = some (tyJ9 k) := by decide +kernel
abbrev cJ9_min_7cf53 : ByteArray := prog_15_method_69_code
def yJ9_min_7cf53 : MethodName := ⟨RJ9, "min", "(II)I"⟩
def RJ0 : String := "java/lang/String"
def TJ0 : u_T := fun k => match k with
  | _ => ("", "", "", false)
def tyJ0 : Nat → FieldType := fun k => match k with
  | _ => .int
abbrev wsJ00 : List Cond := u_ws RJ0 TJ0 0
theorem nmJ0 : ∀ a, a < 0 → ∀ b, b < 0 → a ≠ b → (TJ0 a).2.1 ≠ (TJ0 b).2.1 := by decide +kernel
theorem tyJ0_ok : ∀ k, k < 0 → parseFieldDescriptor (TJ0 k).2.2.1 = some (tyJ0 k) := by decide +kernel
def RJ10 : String := "java/lang/System"
def TJ10 : u_T := fun k => match k with
  | _ => ("", "", "", false)
def tyJ10 : Nat → FieldType := fun k => match k with
  | _ => .int
abbrev wsJ100 : List Cond := u_ws RJ10 TJ10 0
theorem nmJ10 : ∀ a, a < 0 → ∀ b, b < 0 → a ≠ b → (TJ10 a).2.1 ≠ (TJ10 b).2.1 := by decide +kernel
theorem tyJ10_ok : ∀ k, k < 0 → parseFieldDescriptor (TJ10 k).2.2.1 = some (tyJ10 k) := by decide +kernel
def RL : String := "TravelPursesLaw"
abbrev cL_load : ByteArray := method_3_code
def yL_load : MethodName := ⟨RL, "load", "(LTravelPurses;II[J)I"⟩
abbrev cL_quote : ByteArray := method_4_code
def yL_quote : MethodName := ⟨RL, "quote", "(LTravelPurses;II[J)I"⟩
abbrev cL_lock : ByteArray := method_5_code
def yL_lock : MethodName := ⟨RL, "lock", "(LTravelPurses;II[J)I"⟩
abbrev cL_exchange : ByteArray := method_6_code
def yL_exchange : MethodName := ⟨RL, "exchange", "(LTravelPurses;IIII[J)I"⟩
abbrev cL_hold : ByteArray := method_7_code
def yL_hold : MethodName := ⟨RL, "hold", "(LTravelPurses;III[J)I"⟩
abbrev cL_pay : ByteArray := method_8_code
def yL_pay : MethodName := ⟨RL, "pay", "(LTravelPurses;II[J)I"⟩
abbrev cL_letGo : ByteArray := method_9_code
def yL_letGo : MethodName := ⟨RL, "letGo", "(LTravelPurses;I[J)I"⟩
abbrev cL_dispute : ByteArray := method_10_code
def yL_dispute : MethodName := ⟨RL, "dispute", "(LTravelPurses;I[J)I"⟩
abbrev cL_decide : ByteArray := method_11_code
def yL_decide : MethodName := ⟨RL, "decide", "(LTravelPurses;IZ[J)I"⟩
abbrev cL_close : ByteArray := method_12_code
def yL_close : MethodName := ⟨RL, "close", "(LTravelPurses;I[J)I"⟩
abbrev cL_pass : ByteArray := method_13_code
def yL_pass : MethodName := ⟨RL, "pass", "(LTravelPurses;I[J)I"⟩
abbrev cL_set : ByteArray := method_14_code
def yL_set : MethodName := ⟨RL, "set", "(LTravelPurses;II[J)I"⟩
abbrev cL_append : ByteArray := method_15_code
def yL_append : MethodName := ⟨RL, "append", "(LTravelPurses;I[J)I"⟩
abbrev cL_run : ByteArray := method_16_code
def yL_run : MethodName := ⟨RL, "run", "(LTravelPurses;[J)I"⟩
abbrev cL_undo : ByteArray := method_17_code
def yL_undo : MethodName := ⟨RL, "undo", "(LTravelPurses;[J)I"⟩
abbrev cL_purse : ByteArray := method_18_code
def yL_purse : MethodName := ⟨RL, "purse", "(LTravelPurses;III[J)I"⟩
abbrev cL_held : ByteArray := method_19_code
def yL_held : MethodName := ⟨RL, "held", "(LTravelPurses;II[J)I"⟩
abbrev cL_payment : ByteArray := method_20_code
def yL_payment : MethodName := ⟨RL, "payment", "(LTravelPurses;II[J)I"⟩
abbrev cL_count : ByteArray := method_21_code
def yL_count : MethodName := ⟨RL, "count", "(LTravelPurses;I[J)I"⟩
abbrev cL_setting : ByteArray := method_22_code
def yL_setting : MethodName := ⟨RL, "setting", "(LTravelPurses;I[J)I"⟩
abbrev cL_ifExchanged : ByteArray := method_23_code
def yL_ifExchanged : MethodName := ⟨RL, "ifExchanged", "(LTravelPurses;IIII[J)I"⟩
abbrev cL_needed : ByteArray := method_24_code
def yL_needed : MethodName := ⟨RL, "needed", "(LTravelPurses;III[J)I"⟩
abbrev cL_room : ByteArray := method_25_code
def yL_room : MethodName := ⟨RL, "room", "(LTravelPurses;II[J)I"⟩
abbrev cL_whyNot : ByteArray := method_26_code
def yL_whyNot : MethodName := ⟨RL, "whyNot", "(LTravelPurses;IIIII[J)I"⟩
abbrev cL_ifClosed : ByteArray := method_27_code
def yL_ifClosed : MethodName := ⟨RL, "ifClosed", "(LTravelPurses;I[J)I"⟩
abbrev cL_heldShare : ByteArray := method_28_code
def yL_heldShare : MethodName := ⟨RL, "heldShare", "(LTravelPurses;II[D)I"⟩
abbrev cL_law : ByteArray := code
def yL_law : MethodName := ⟨RL, "law", "([I)Z"⟩
end
section
abbrev vwCl : List vw_C := [(RX0, TX0, 14), (RX1, TX1, 5), (RX2, TX2, 7), (RX3, TX3, 5), (RX4, TX4, 6), (RX5, TX5, 6), (RX6, TX6, 11)]
/-- all good words of the tables -/
def tp_all : List Cond := lw_tbl.filter goodWord
theorem tp_all_tbl : ∀ w ∈ tp_all, w ∈ lw_tbl := fun _ h => (List.mem_filter.mp h).1
theorem tp_all_good : ∀ w ∈ tp_all, goodWord w = true := fun _ h => (List.mem_filter.mp h).2
theorem tp_in {w : Cond} (i : Nat) (h : lw_tbl[i]? = some w) (g : goodWord w = true) : w ∈ tp_all := List.mem_filter.mpr ⟨List.mem_of_getElem? h, g⟩
theorem tp_allIn {ws : List Cond} (h : ∀ w ∈ ws, w ∈ tp_all) : GoodIn tp_all ws := fun w hw => ⟨h w hw, good_of_word (tp_all_good w (h w hw))⟩
end
section
/-! THE ABSTRACT MACHINE: a heap of known cells, a frame with its locals by slots; one judgement (tp_Run) over the kit's W, one contract (tp_Met) over vx_Met. -/
abbrev tp_H : Type := Nat × (Nat → Option va_E)
abbrev tp_G : Type := va_G × Nat × (Nat → ClassId) × (Nat → Nat)
/-- a method: name, bytes, locals, what it returns, frames and local words that it may use, its table -/
abbrev tp_M : Type := MethodName × ByteArray × Nat × Option FieldType × Nat × Nat × List (Nat × Nat × Nat × Nat)
def tp_ty : Nat → FieldType := fun k => match k with
  | 0 => .int
  | 1 => .long
  | 2 => .double
  | 3 => .object RX0
  | 4 => .object RX1
  | 5 => .object RX3
  | _ => .object RX4
def tp_Tys (G : tp_G) : List (ClassId × FieldType) := [(G.2.2.1 0, tp_ty 0), (G.2.2.1 1, tp_ty 1), (G.2.2.1 2, tp_ty 2), (G.2.2.1 3, tp_ty 3), (G.2.2.1 4, tp_ty 4), (G.2.2.1 5, tp_ty 5), (G.2.2.1 6, tp_ty 6)]
def tp_A (G : tp_G) : Nat → Prop := fun q => G.2.1 ≤ q
def tp_Rep (G : tp_G) (h : tp_H) (H : Heap) : Prop := H.size = h.1 ∧ G.2.1 ≤ h.1 ∧ ∀ a e, h.2 a = some e → G.2.1 ≤ a ∧ va_at G.1 vwCl (a, e) H
def tp_up (f : Nat → Option va_E) (a : Nat) (e : va_E) : Nat → Option va_E := fun q => if q = a then some e else f q
def tp_nestC : List Cond := [.methodLinkNest RX0 50 yX1_init RX5, .methodLinkNest RX0 51 yX3_init RX5, .methodLinkNest RX5 26 yX2_init RX5]
def tp_nestF : List Cond := [.fieldLinkNest RX0 9 "TravelPurses" "FIRST_SETTINGS" "[I" RX5, .fieldLinkNest RX0 23 "TravelPurses" "FIRST_RATES" "[I" RX5]
def tp_cast : List (String × String) := [("[I", "java/lang/Cloneable"), ("java/lang/IndexOutOfBoundsException", "java/lang/IndexOutOfBoundsException"), ("java/lang/IllegalArgumentException", "java/lang/IllegalArgumentException"), ("java/lang/IllegalStateException", "java/lang/IllegalStateException")]
def tp_nocast : List (String × String) := [("java/lang/IllegalArgumentException", "java/lang/IndexOutOfBoundsException"), ("java/lang/IllegalStateException", "java/lang/IndexOutOfBoundsException"), ("java/lang/IllegalStateException", "java/lang/IllegalArgumentException")]
def tp_over : List String := [RX0, RX1, RX3, RX4]
def tp_strs : List (Nat × String) := [(107, "the hold is refused"), (116, "amount below 1"), (126, "the payment is refused"), (146, "not plain, or too old"), (161, "not disputed"), (170, "the closing is refused"), (176, "days out of range"), (178, "the day would be too late"), (184, "no such setting"), (189, "value out of range"), (191, "code out of range"), (196, "the buffer is full"), (212, "not a complete row of orders"), (220, "no saved state"), (248, "no such property"), (277, "no such number"), (286, "amount out of range"), (293, "no such question"), (321, "no such wallet or currency"), (327, "home money has no rate"), (333, "no such hold"), (339, "no such payment"), (45, "too much home money"), (65, "no such foreign currency"), (70, "rate out of range"), (98, "the exchange is refused")]
def tp_st (k : Nat) : Nat → Int32 := fun j => match k, j with
  | 0, 0 => 7 | 0, 1 => 10 | 0, 2 => 20 | 0, _ => 5
  | 1, 0 => 1000 | 1, 1 => 1000 | 1, 2 => 1500 | 1, _ => 500
  | _, 0 => 60 | _, 1 => 100 | _, 2 => 50 | _, _ => 60
/-- a static table of four ints whose class is that of int arrays -/
def tp_Tb (t : Nat) (f : Nat → Int32) (A : Nat → Prop) (U : State) (H : Heap) : Prop := ∃ cell : Cell, H[t]? = some cell ∧ U.isArrayOf cell .int ∧ cell.vm ≠ .unknown ∧ U.vm.findClass "[I" = some cell.cls ∧ cell.slots.size = 4 ∧ (∀ j : Nat, j < 4 → cell.slots[j]? = some (.int (f j))) ∧ ¬ A t
theorem tp_Tb.moved {t : Nat} {f : Nat → Int32} {A : Nat → Prop} {u U : State} {H : Heap} (hvm : u.vm.Alike U.vm) (h : tp_Tb t f A u H) : tp_Tb t f A U H := by
  obtain ⟨cell, h1, h2, h3, h4, h5⟩ := h
  exact ⟨cell, h1, State.isArrayOf_alike hvm h2, h3, by rw [hvm.findClass]; exact h4, h5⟩
theorem tp_Tb.kept {t : Nat} {f : Nat → Int32} {A : Nat → Prop} {U : State} {H H1 : Heap} (h : tp_Tb t f A U H) (hq : ∀ a : Nat, a < H.size → ¬ A a → H1[a]? = H[a]?) : tp_Tb t f A U H1 := by
  obtain ⟨cell, h1, h2, h3, h4, h5, h6, h7⟩ := h
  exact ⟨cell, by rw [hq t (Array.getElem?_eq_some_iff.mp h1).1 h7]; exact h1, h2, h3, h4, h5, h6, h7⟩
/-- what stays as it was at the law's entry: statics, tables' words that are no good words -/
def tp_Fx (G : tp_G) (U : State) (H : Heap) : Prop :=
  (va_Z RX5 "FIRST_SETTINGS" "[I" (.ref (G.2.2.2 0)) (tp_A G) U H ∧ va_Z RX5 "FIRST_RATES" "[I" (.ref (G.2.2.2 1)) (tp_A G) U H ∧ va_Z RX5 "MOST_SETTINGS" "[I" (.ref (G.2.2.2 2)) (tp_A G) U H) ∧
  ((∀ k, k < 3 → va_T .int (G.2.2.2 k) 4 (fun j => .int (tp_st k j)) (tp_A G) U H) ∧ ∀ k, k < 2 → tp_Tb (G.2.2.2 k) (tp_st k) (tp_A G) U H) ∧
  (vx_Zq Bundle.tN "UNASSIGNED_STACK" Bundle.steD (tp_A G) U H ∧ vx_Zq Bundle.tN "SUPPRESSED_SENTINEL" Bundle.listD (tp_A G) U H) ∧
  (∀ q ∈ tp_strs, ∃ sa, vk_R RX5 q.1 q.2 sa U) ∧ (∀ w ∈ tp_nestC, va_Nw w U) ∧ (∀ w ∈ tp_nestF, va_Nw w U) ∧ (∀ q ∈ tp_cast, va_Nw (.castable q.1 q.2) U) ∧ (∀ q ∈ tp_nocast, va_Nc q.1 q.2 U) ∧ (∀ C ∈ tp_over, va_AO C U)
theorem tp_Fx.moved {G : tp_G} {s U : State} {H : Heap} (hW : s.WarmedH U.vm) (h : tp_Fx G s H) : tp_Fx G U H := by
  obtain ⟨⟨a1, a2, a3⟩, ⟨b, b2⟩, ⟨c1, c2⟩, d, e, f, g, i, j⟩ := h
  have hv := hW.alike
  refine ⟨⟨va_Z.moved hv a1, va_Z.moved hv a2, va_Z.moved hv a3⟩, ⟨fun k hk => va_T.moved hv (b k hk), fun k hk => tp_Tb.moved hv (b2 k hk)⟩, ⟨vx_Zq.moved hv c1, vx_Zq.moved hv c2⟩, fun q hq => ?_, fun w hw => ?_, fun w hw => ?_, fun q hq => va_Nw.warmC hW (g q hq), fun q hq => va_Nc.moved hv (i q hq), fun C hC => va_AO.moved hv (j C hC)⟩
  · obtain ⟨sa, hs⟩ := d q hq
    exact ⟨sa, vk_R.warm hW hs⟩
  · have := e w hw
    simp only [tp_nestC, List.mem_cons, List.not_mem_nil, or_false] at hw
    rcases hw with rfl | rfl | rfl <;> exact va_Nw.warmM hW this
  · have := f w hw
    simp only [tp_nestF, List.mem_cons, List.not_mem_nil, or_false] at hw
    rcases hw with rfl | rfl <;> exact va_Nw.warmF hW this
theorem tp_Fx.kept {G : tp_G} {U : State} {H H1 : Heap} (h : tp_Fx G U H) (hq : ∀ a : Nat, a < H.size → ¬ tp_A G a → H1[a]? = H[a]?) : tp_Fx G U H1 := by
  obtain ⟨⟨a1, a2, a3⟩, ⟨b, b2⟩, ⟨c1, c2⟩, d⟩ := h
  exact ⟨⟨a1.kept hq, a2.kept hq, a3.kept hq⟩, ⟨fun k hk => (b k hk).kept hq, fun k hk => (b2 k hk).kept hq⟩, ⟨c1.kept hq, c2.kept hq⟩, d⟩
def tp_cw (M : tp_M) : Cond := match M.2.2.2.2.2.2 with
  | [] => .code M.1 M.2.1 M.2.2.1 M.2.2.2.1
  | hh => .codeWith M.1 M.2.1 M.2.2.1 M.2.2.2.1 hh
def tp_ws (M : tp_M) : List Cond := tp_cw M :: tp_all
def tp_rm (M : tp_M) (mc ms : Nat) : Room := { frames := M.2.2.2.2.1, cells := mc, slots := ms, locals := M.2.2.2.2.2.1 }
def tp_Pc (G : tp_G) (As : List Value) (h : tp_H) : Array Value → State → Prop := fun v U => v = As.toArray ∧ tp_Rep G h U.heap ∧ va_K G.1 vwCl (tp_Tys G) U ∧ tp_Fx G U U.heap
def tp_Qc (G : tp_G) (Post : Option Value → tp_H → Prop) : Array Value → State → Outcome → State → Prop := fun _ st o t => (∃ (r : Option Value) (h : tp_H), o = .returned r ∧ Post r h ∧ tp_Rep G h t.heap) ∧ va_F (tp_A G) st t
def tp_XC (G : tp_G) (PX : String → tp_H → Prop) : String → State → State → Prop := fun E st t => (∃ h : tp_H, PX E h ∧ tp_Rep G h t.heap) ∧ va_F (tp_A G) st t
/-- THE CONTRACT: from every state where the heap holds h, the method ends as Post (PX: throwing) says; at most mc cells of ms slots are new -/
def tp_Met (l : Launch) (G : tp_G) (M : tp_M) (mc ms : Nat) (As : List Value) (h : tp_H) (Post : Option Value → tp_H → Prop) (PX : String → tp_H → Prop) : Prop :=
  vx_Met l M.1 (tp_ws M) (tp_rm M mc ms) (tp_Pc G As h) (tp_Qc G Post) (tp_XC G PX) mc ms (tp_A G)
def tp_Act (l : Launch) (G : tp_G) (M : tp_M) (p : Program) (s : State) (m : MethodId) (args : Array Value) (meth : Method) (c : Code) : Prop :=
  p.tables.exec = Jvm.exec ∧ c.code = M.2.1 ∧ c.maxLocals = M.2.2.1 ∧ meth.sig.returnType = M.2.2.2.1 ∧ s.vm.findClass M.1.cls = some m.cls ∧ (∀ w ∈ tp_all, w.before args s = true) ∧ meth.locks = false ∧
  va_K G.1 vwCl (tp_Tys G) s ∧ tp_Fx G s s.heap ∧ meth.name = M.1.name ∧ c.exceptionTable.toList = tableOf M.2.2.2.2.2.2 ∧ l.stackTraces = false
/-- the locals by slots -/
def tp_pr : Nat → List (Option Value) → List (Nat × Value)
  | _, [] => []
  | i, none :: L => tp_pr (i + 1) L
  | i, some v :: L => (i, v) :: tp_pr (i + 1) L
theorem tp_pr_mem {j : Nat} {v : Value} : ∀ (L : List (Option Value)) (k : Nat), (j, v) ∈ tp_pr k L ↔ k ≤ j ∧ L[j - k]? = some (some v)
  | [], k => by simp [tp_pr]
  | none :: L, k => by
    rw [tp_pr, tp_pr_mem L (k + 1)]
    constructor
    · rintro ⟨h1, h2⟩
      refine ⟨by omega, ?_⟩
      rw [show j - k = (j - (k + 1)) + 1 by omega, List.getElem?_cons_succ]
      exact h2
    · rintro ⟨h1, h2⟩
      by_cases e : j = k
      · subst e
        simp at h2
      · rw [show j - k = (j - (k + 1)) + 1 by omega, List.getElem?_cons_succ] at h2
        exact ⟨by omega, h2⟩
  | some w :: L, k => by
    rw [tp_pr, List.mem_cons, tp_pr_mem L (k + 1)]
    constructor
    · rintro (h | ⟨h1, h2⟩)
      · cases h
        exact ⟨Nat.le_refl _, by simp⟩
      · refine ⟨by omega, ?_⟩
        rw [show j - k = (j - (k + 1)) + 1 by omega, List.getElem?_cons_succ]
        exact h2
    · rintro ⟨h1, h2⟩
      by_cases e : j = k
      · subst e
        simp at h2
        exact Or.inl (by rw [h2])
      · rw [show j - k = (j - (k + 1)) + 1 by omega, List.getElem?_cons_succ] at h2
        exact Or.inr ⟨by omega, h2⟩
def tp_Loc (ls : Array Slot) (n : Nat) (L : List (Option Value)) : Prop := lv_has ls n (tp_pr 0 L)
theorem tp_Loc.at {ls : Array Slot} {n : Nat} {L : List (Option Value)} (h : tp_Loc ls n L) {i : Nat} {v : Value} (hi : L[i]? = some (some v)) : ls[i]? = some (.val v) := h.2.2 (i, v) ((tp_pr_mem L 0).mpr ⟨Nat.zero_le _, hi⟩)
theorem tp_Loc.fewer {ls : Array Slot} {n : Nat} {L L' : List (Option Value)} (h : tp_Loc ls n L) (hs : ∀ (i : Nat) (v : Value), L'[i]? = some (some v) → L[i]? = some (some v)) : tp_Loc ls n L' :=
  ⟨h.1, h.2.1, fun q hq => by
    obtain ⟨j, v⟩ := q
    exact h.at (hs j v ((tp_pr_mem L' 0).mp hq).2)⟩
theorem tp_has {ls : Array Slot} {n : Nat} {L' : List (Option Value)} {l : List (Nat × Value)} (h : lv_has ls n l) (hs : ∀ (i : Nat) (v : Value), L'[i]? = some (some v) → (i, v) ∈ l) : tp_Loc ls n L' :=
  ⟨h.1, h.2.1, fun q hq => by
    obtain ⟨j, v⟩ := q
    exact h.2.2 (j, v) (hs j v ((tp_pr_mem L' 0).mp hq).2)⟩
def tp_c1 : Option Value → Bool
  | some v => !(v.category == 2)
  | none => true
/-- a value of one slot may be stored at i: no long stands just before it -/
def tp_ok (L : List (Option Value)) : Nat → Bool
  | 0 => true
  | i + 1 => tp_c1 ((L[i]?).getD none)
theorem tp_set1 {L : List (Option Value)} {i : Nat} {w : Value} (hok : tp_ok L i = true) (j : Nat) (v : Value) (h : (L.set i (some w))[j]? = some (some v)) :
    (j, v) ∈ (i, w) :: (tp_pr 0 L).filter (fun q => !(q.1 == i) && !(q.1 + 1 == i && q.2.category == 2)) := by
  by_cases e : j = i
  · subst e
    rw [List.getElem?_set] at h
    simp at h
    rw [h.2]
    exact List.mem_cons_self
  · rw [List.getElem?_set_ne (Ne.symm e)] at h
    refine List.mem_cons_of_mem _ (List.mem_filter.mpr ⟨(tp_pr_mem L 0).mpr ⟨Nat.zero_le _, h⟩, ?_⟩)
    have h1 : (j == i) = false := by simp [e]
    have h2 : (j + 1 == i && v.category == 2) = false := by
      by_cases e2 : j + 1 = i
      · subst e2
        simp only [tp_ok, h, Option.getD_some, tp_c1, Bool.not_eq_true'] at hok
        rw [hok, Bool.and_false]
      · simp [e2]
    simp only [h1, h2, Bool.not_false, Bool.and_self]
theorem tp_set2 {L : List (Option Value)} {i : Nat} {w : Value} (hok : tp_ok L i = true) (j : Nat) (v : Value) (h : ((L.set i (some w)).set (i + 1) none)[j]? = some (some v)) :
    (j, v) ∈ (i, w) :: (tp_pr 0 L).filter (fun q => !(q.1 == i) && (!(q.1 == i + 1) && !(q.1 + 1 == i && q.2.category == 2))) := by
  by_cases e3 : j = i + 1
  · subst e3
    rw [List.getElem?_set] at h
    simp at h
  rw [List.getElem?_set_ne (Ne.symm e3)] at h
  by_cases e : j = i
  · subst e
    rw [List.getElem?_set] at h
    simp at h
    rw [h.2]
    exact List.mem_cons_self
  · rw [List.getElem?_set_ne (Ne.symm e)] at h
    refine List.mem_cons_of_mem _ (List.mem_filter.mpr ⟨(tp_pr_mem L 0).mpr ⟨Nat.zero_le _, h⟩, ?_⟩)
    have h1 : (j == i) = false := by simp [e]
    have h3 : (j == i + 1) = false := by simp [e3]
    have h2 : (j + 1 == i && v.category == 2) = false := by
      by_cases e2 : j + 1 = i
      · subst e2
        simp only [tp_ok, h, Option.getD_some, tp_c1, Bool.not_eq_true'] at hok
        rw [hok, Bool.and_false]
      · simp [e2]
    simp only [h1, h2, h3, Bool.not_false, Bool.and_self]
abbrev tp_Q : Type := List Frame → Array Value → State → State → Prop
def tp_QM (G : tp_G) (mc ms : Nat) (Post : Option Value → tp_H → Prop) (PX : String → tp_H → Prop) : tp_Q := fun below args s => vx_MQ below (tp_Qc G Post) (tp_XC G PX) args s mc ms (tp_A G)
/-- THE JUDGEMENT: a frame of the method M, over the heap h, with k cells of n slots made so far, comes to an end with Q -/
def tp_Run (l : Launch) (G : tp_G) (M : tp_M) (R : Room) (Q : tp_Q) (k n : Nat) (h : tp_H) (pc : Nat) (L : List (Option Value)) (st : List Value) : Prop :=
  ∀ (p : Program) (e : Env) (s : State) (m : MethodId) (args : Array Value) (below : List Frame) (meth : Method) (c : Code), tp_Act l G M p s m args meth c → ∀ (H : Heap) (locs : List Loc) (ls : Array Slot), tp_Rep G h H → va_S (tp_A G) s.heap H locs → tp_Loc ls M.2.2.1 L →
    W p l e R s m args below meth c H locs k n (Q below args s) (F0 m pc ls st)
/-- .. with an exception of class E thrown over it -/
def tp_RunX (l : Launch) (G : tp_G) (M : tp_M) (R : Room) (Q : tp_Q) (k n : Nat) (h : tp_H) (pc : Nat) (L : List (Option Value)) (st : List Value) (E : String) : Prop :=
  ∀ (p : Program) (e : Env) (s : State) (m : MethodId) (args : Array Value) (below : List Frame) (meth : Method) (c : Code), tp_Act l G M p s m args meth c → ∀ (H : Heap) (locs : List Loc) (ls : Array Slot) (q : Addr) (ce : Cell), tp_Rep G h H → va_S (tp_A G) s.heap H locs → tp_Loc ls M.2.2.1 L → H[q]? = some ce → ce.vm = .none → s.vm.findClass E = some ce.cls →
    vx_W p l e R s m args below meth c H locs k n (Q below args s) (F0 m pc ls st) q
end
section
section TPR
variable {l : Launch} {G : tp_G} {M : tp_M} {R : Room} {Q : tp_Q} {k n : Nat} {h : tp_H} {pc : Nat} {L : List (Option Value)} {st : List Value}
theorem tp_Act.hx {p : Program} {s : State} {m : MethodId} {args : Array Value} {meth : Method} {c : Code} (A : tp_Act l G M p s m args meth c) : p.tables.exec = Jvm.exec := A.1
theorem tp_Act.hb {p : Program} {s : State} {m : MethodId} {args : Array Value} {meth : Method} {c : Code} (A : tp_Act l G M p s m args meth c) : c.code = M.2.1 := A.2.1
theorem tp_Act.hml {p : Program} {s : State} {m : MethodId} {args : Array Value} {meth : Method} {c : Code} (A : tp_Act l G M p s m args meth c) : c.maxLocals = M.2.2.1 := A.2.2.1
theorem tp_Act.hr {p : Program} {s : State} {m : MethodId} {args : Array Value} {meth : Method} {c : Code} (A : tp_Act l G M p s m args meth c) : meth.sig.returnType = M.2.2.2.1 := A.2.2.2.1
theorem tp_Act.hown {p : Program} {s : State} {m : MethodId} {args : Array Value} {meth : Method} {c : Code} (A : tp_Act l G M p s m args meth c) : s.vm.findClass M.1.cls = some m.cls := A.2.2.2.2.1
theorem tp_Act.hts {p : Program} {s : State} {m : MethodId} {args : Array Value} {meth : Method} {c : Code} (A : tp_Act l G M p s m args meth c) : ∀ w ∈ tp_all, w.before args s = true := A.2.2.2.2.2.1
theorem tp_Act.hlk {p : Program} {s : State} {m : MethodId} {args : Array Value} {meth : Method} {c : Code} (A : tp_Act l G M p s m args meth c) : meth.locks = false := A.2.2.2.2.2.2.1
theorem tp_Act.hK {p : Program} {s : State} {m : MethodId} {args : Array Value} {meth : Method} {c : Code} (A : tp_Act l G M p s m args meth c) : va_K G.1 vwCl (tp_Tys G) s := A.2.2.2.2.2.2.2.1
theorem tp_Act.hF {p : Program} {s : State} {m : MethodId} {args : Array Value} {meth : Method} {c : Code} (A : tp_Act l G M p s m args meth c) : tp_Fx G s s.heap := A.2.2.2.2.2.2.2.2.1
theorem tp_Act.hnm {p : Program} {s : State} {m : MethodId} {args : Array Value} {meth : Method} {c : Code} (A : tp_Act l G M p s m args meth c) : meth.name = M.1.name := A.2.2.2.2.2.2.2.2.2.1
theorem tp_Act.htb {p : Program} {s : State} {m : MethodId} {args : Array Value} {meth : Method} {c : Code} (A : tp_Act l G M p s m args meth c) : c.exceptionTable.toList = tableOf M.2.2.2.2.2.2 := A.2.2.2.2.2.2.2.2.2.2.1
theorem tp_Act.hfl {p : Program} {s : State} {m : MethodId} {args : Array Value} {meth : Method} {c : Code} (A : tp_Act l G M p s m args meth c) : l.stackTraces = false := A.2.2.2.2.2.2.2.2.2.2.2
theorem tp_cong {st' : List Value} {L' : List (Option Value)} (e1 : L = L') (e2 : st = st') (kk : tp_Run l G M R Q k n h pc L' st') : tp_Run l G M R Q k n h pc L st := by subst e1; subst e2; exact kk
/-- fewer locals, or the same in other words -/
theorem r_locals {L' : List (Option Value)} (hs : ∀ (i : Nat) (v : Value), L'[i]? = some (some v) → L[i]? = some (some v)) (kk : tp_Run l G M R Q k n h pc L' st) : tp_Run l G M R Q k n h pc L st :=
  fun p e s m args below meth c A H locs ls hR hS hl => kk p e s m args below meth c A H locs ls hR hS (hl.fewer hs)
theorem r_iconst {z : Int} {v : Int32} (hd : decode M.2.1 pc = .ok (.iconst z, 1)) (hv : Int32.ofInt z = v) (kk : tp_Run l G M R Q k n h (pc + 1) L (.int v :: st)) : tp_Run l G M R Q k n h pc L st := fun p e s m args below meth c A H locs ls hR hS hl => lv_iconst A.hx A.hb hd hv (kk p e s m args below meth c A H locs ls hR hS hl)
theorem r_bipush {z : Int} {v : Int32} (hd : decode M.2.1 pc = .ok (.bipush z, 2)) (hv : (Int8.ofInt z).toInt32 = v) (kk : tp_Run l G M R Q k n h (pc + 2) L (.int v :: st)) : tp_Run l G M R Q k n h pc L st := fun p e s m args below meth c A H locs ls hR hS hl => lv_bipush A.hx A.hb hd hv (kk p e s m args below meth c A H locs ls hR hS hl)
theorem r_sipush {z : Int} {v : Int32} (hd : decode M.2.1 pc = .ok (.sipush z, 3)) (hv : (Int16.ofInt z).toInt32 = v) (kk : tp_Run l G M R Q k n h (pc + 3) L (.int v :: st)) : tp_Run l G M R Q k n h pc L st := fun p e s m args below meth c A H locs ls hR hS hl => lv_sipush A.hx A.hb hd hv (kk p e s m args below meth c A H locs ls hR hS hl)
theorem r_lconst {z : Fin 2} {v : Int64} (hd : decode M.2.1 pc = .ok (.lconst z, 1)) (hv : Int64.ofNat (z : Nat) = v) (kk : tp_Run l G M R Q k n h (pc + 1) L (.long v :: st)) : tp_Run l G M R Q k n h pc L st := fun p e s m args below meth c A H locs ls hR hS hl => lv_lconst A.hx A.hb hd hv (kk p e s m args below meth c A H locs ls hR hS hl)
theorem r_dconst0  (hd : decode M.2.1 pc = .ok (.dconst 0, 1)) (kk : tp_Run l G M R Q k n h (pc + 1) L (.double FP.dconst0 :: st)) : tp_Run l G M R Q k n h pc L st := fun p e s m args below meth c A H locs ls hR hS hl => lv_dconst0 A.hx A.hb hd  (kk p e s m args below meth c A H locs ls hR hS hl)
theorem r_dconst1  (hd : decode M.2.1 pc = .ok (.dconst 1, 1)) (kk : tp_Run l G M R Q k n h (pc + 1) L (.double FP.dconst1 :: st)) : tp_Run l G M R Q k n h pc L st := fun p e s m args below meth c A H locs ls hR hS hl => lv_dconst1 A.hx A.hb hd  (kk p e s m args below meth c A H locs ls hR hS hl)
theorem r_ldc {ix : Nat} {v : Int32} (hd : decode M.2.1 pc = .ok (.ldc ix, 2)) (hw : Cond.constant M.1.cls ix v ∈ tp_all) (kk : tp_Run l G M R Q k n h (pc + 2) L (.int v :: st)) : tp_Run l G M R Q k n h pc L st := fun p e s m args below meth c A H locs ls hR hS hl => lv_ldc A.hx A.hb A.hown (A.hts _ hw) hd (kk p e s m args below meth c A H locs ls hR hS hl)
theorem r_ldcw {ix : Nat} {v : Int32} (hd : decode M.2.1 pc = .ok (.ldc_w ix, 3)) (hw : Cond.constant M.1.cls ix v ∈ tp_all) (kk : tp_Run l G M R Q k n h (pc + 3) L (.int v :: st)) : tp_Run l G M R Q k n h pc L st := fun p e s m args below meth c A H locs ls hR hS hl => lv_ldcw A.hx A.hb A.hown (A.hts _ hw) hd (kk p e s m args below meth c A H locs ls hR hS hl)
theorem r_ldc2 {ix : Nat} {v : Int64} (hd : decode M.2.1 pc = .ok (.ldc2_w ix, 3)) (hw : Cond.constantLong M.1.cls ix v ∈ tp_all) (kk : tp_Run l G M R Q k n h (pc + 3) L (.long v :: st)) : tp_Run l G M R Q k n h pc L st := fun p e s m args below meth c A H locs ls hR hS hl => lv_ldc2 A.hx A.hb A.hown (A.hts _ hw) hd (kk p e s m args below meth c A H locs ls hR hS hl)
theorem r_ldc2d {ix : Nat} {v : UInt64} (hd : decode M.2.1 pc = .ok (.ldc2_w ix, 3)) (hw : Cond.constantDouble M.1.cls ix v ∈ tp_all) (kk : tp_Run l G M R Q k n h (pc + 3) L (.double v :: st)) : tp_Run l G M R Q k n h pc L st := fun p e s m args below meth c A H locs ls hR hS hl => lv_ldc2d A.hx A.hb A.hown (A.hts _ hw) hd (kk p e s m args below meth c A H locs ls hR hS hl)
theorem r_iadd {x y : Int32} (hd : decode M.2.1 pc = .ok (.iadd, 1)) (kk : tp_Run l G M R Q k n h (pc + 1) L (.int (x + y) :: st)) : tp_Run l G M R Q k n h pc L (.int y :: .int x :: st) := fun p e s m args below meth c A H locs ls hR hS hl => lv_iadd A.hx A.hb hd  (kk p e s m args below meth c A H locs ls hR hS hl)
theorem r_isub {x y : Int32} (hd : decode M.2.1 pc = .ok (.isub, 1)) (kk : tp_Run l G M R Q k n h (pc + 1) L (.int (x - y) :: st)) : tp_Run l G M R Q k n h pc L (.int y :: .int x :: st) := fun p e s m args below meth c A H locs ls hR hS hl => lv_isub A.hx A.hb hd  (kk p e s m args below meth c A H locs ls hR hS hl)
theorem r_imul {x y : Int32} (hd : decode M.2.1 pc = .ok (.imul, 1)) (kk : tp_Run l G M R Q k n h (pc + 1) L (.int (x * y) :: st)) : tp_Run l G M R Q k n h pc L (.int y :: .int x :: st) := fun p e s m args below meth c A H locs ls hR hS hl => lv_imul A.hx A.hb hd  (kk p e s m args below meth c A H locs ls hR hS hl)
theorem r_iand {x y : Int32} (hd : decode M.2.1 pc = .ok (.iand, 1)) (kk : tp_Run l G M R Q k n h (pc + 1) L (.int (x &&& y) :: st)) : tp_Run l G M R Q k n h pc L (.int y :: .int x :: st) := fun p e s m args below meth c A H locs ls hR hS hl => lv_iand A.hx A.hb hd  (kk p e s m args below meth c A H locs ls hR hS hl)
theorem r_ior {x y : Int32} (hd : decode M.2.1 pc = .ok (.ior, 1)) (kk : tp_Run l G M R Q k n h (pc + 1) L (.int (x ||| y) :: st)) : tp_Run l G M R Q k n h pc L (.int y :: .int x :: st) := fun p e s m args below meth c A H locs ls hR hS hl => lv_ior A.hx A.hb hd  (kk p e s m args below meth c A H locs ls hR hS hl)
theorem r_ixor {x y : Int32} (hd : decode M.2.1 pc = .ok (.ixor, 1)) (kk : tp_Run l G M R Q k n h (pc + 1) L (.int (x ^^^ y) :: st)) : tp_Run l G M R Q k n h pc L (.int y :: .int x :: st) := fun p e s m args below meth c A H locs ls hR hS hl => lv_ixor A.hx A.hb hd  (kk p e s m args below meth c A H locs ls hR hS hl)
theorem r_ladd {x y : Int64} (hd : decode M.2.1 pc = .ok (.ladd, 1)) (kk : tp_Run l G M R Q k n h (pc + 1) L (.long (x + y) :: st)) : tp_Run l G M R Q k n h pc L (.long y :: .long x :: st) := fun p e s m args below meth c A H locs ls hR hS hl => lv_ladd A.hx A.hb hd  (kk p e s m args below meth c A H locs ls hR hS hl)
theorem r_lsub {x y : Int64} (hd : decode M.2.1 pc = .ok (.lsub, 1)) (kk : tp_Run l G M R Q k n h (pc + 1) L (.long (x - y) :: st)) : tp_Run l G M R Q k n h pc L (.long y :: .long x :: st) := fun p e s m args below meth c A H locs ls hR hS hl => lv_lsub A.hx A.hb hd  (kk p e s m args below meth c A H locs ls hR hS hl)
theorem r_lmul {x y : Int64} (hd : decode M.2.1 pc = .ok (.lmul, 1)) (kk : tp_Run l G M R Q k n h (pc + 1) L (.long (x * y) :: st)) : tp_Run l G M R Q k n h pc L (.long y :: .long x :: st) := fun p e s m args below meth c A H locs ls hR hS hl => lv_lmul A.hx A.hb hd  (kk p e s m args below meth c A H locs ls hR hS hl)
theorem r_land {x y : Int64} (hd : decode M.2.1 pc = .ok (.land, 1)) (kk : tp_Run l G M R Q k n h (pc + 1) L (.long (x &&& y) :: st)) : tp_Run l G M R Q k n h pc L (.long y :: .long x :: st) := fun p e s m args below meth c A H locs ls hR hS hl => lv_land A.hx A.hb hd  (kk p e s m args below meth c A H locs ls hR hS hl)
theorem r_lor {x y : Int64} (hd : decode M.2.1 pc = .ok (.lor, 1)) (kk : tp_Run l G M R Q k n h (pc + 1) L (.long (x ||| y) :: st)) : tp_Run l G M R Q k n h pc L (.long y :: .long x :: st) := fun p e s m args below meth c A H locs ls hR hS hl => lv_lor A.hx A.hb hd  (kk p e s m args below meth c A H locs ls hR hS hl)
theorem r_lxor {x y : Int64} (hd : decode M.2.1 pc = .ok (.lxor, 1)) (kk : tp_Run l G M R Q k n h (pc + 1) L (.long (x ^^^ y) :: st)) : tp_Run l G M R Q k n h pc L (.long y :: .long x :: st) := fun p e s m args below meth c A H locs ls hR hS hl => lv_lxor A.hx A.hb hd  (kk p e s m args below meth c A H locs ls hR hS hl)
theorem r_idiv {x y : Int32} (hd : decode M.2.1 pc = .ok (.idiv, 1)) (hne : ¬ y = 0) (kk : tp_Run l G M R Q k n h (pc + 1) L (.int (x / y) :: st)) : tp_Run l G M R Q k n h pc L (.int y :: .int x :: st) := fun p e s m args below meth c A H locs ls hR hS hl => lv_idiv A.hx A.hb hd hne (kk p e s m args below meth c A H locs ls hR hS hl)
theorem r_irem {x y : Int32} (hd : decode M.2.1 pc = .ok (.irem, 1)) (hne : ¬ y = 0) (kk : tp_Run l G M R Q k n h (pc + 1) L (.int (x - x / y * y) :: st)) : tp_Run l G M R Q k n h pc L (.int y :: .int x :: st) := fun p e s m args below meth c A H locs ls hR hS hl => lv_irem A.hx A.hb hd hne (kk p e s m args below meth c A H locs ls hR hS hl)
theorem r_ldiv {x y : Int64} (hd : decode M.2.1 pc = .ok (.ldiv, 1)) (hne : ¬ y = 0) (kk : tp_Run l G M R Q k n h (pc + 1) L (.long (x / y) :: st)) : tp_Run l G M R Q k n h pc L (.long y :: .long x :: st) := fun p e s m args below meth c A H locs ls hR hS hl => lv_ldiv A.hx A.hb hd hne (kk p e s m args below meth c A H locs ls hR hS hl)
theorem r_i2l {x : Int32} (hd : decode M.2.1 pc = .ok (.i2l, 1)) (kk : tp_Run l G M R Q k n h (pc + 1) L (.long x.toInt64 :: st)) : tp_Run l G M R Q k n h pc L (.int x :: st) := fun p e s m args below meth c A H locs ls hR hS hl => lv_i2l A.hx A.hb hd rfl (kk p e s m args below meth c A H locs ls hR hS hl)
theorem r_l2i {x : Int64} (hd : decode M.2.1 pc = .ok (.l2i, 1)) (kk : tp_Run l G M R Q k n h (pc + 1) L (.int x.toInt32 :: st)) : tp_Run l G M R Q k n h pc L (.long x :: st) := fun p e s m args below meth c A H locs ls hR hS hl => lv_l2i A.hx A.hb hd rfl (kk p e s m args below meth c A H locs ls hR hS hl)
theorem r_lshl {x : Int64} {y : Int32} (hd : decode M.2.1 pc = .ok (.lshl, 1)) (kk : tp_Run l G M R Q k n h (pc + 1) L (.long (x <<< (y.toInt64 &&& 63)) :: st)) : tp_Run l G M R Q k n h pc L (.int y :: .long x :: st) := fun p e s m args below meth c A H locs ls hR hS hl => lv_lshl A.hx A.hb hd rfl (kk p e s m args below meth c A H locs ls hR hS hl)
theorem r_i2d {x : Int32} (hd : decode M.2.1 pc = .ok (.i2d, 1)) (kk : tp_Run l G M R Q k n h (pc + 1) L (.double (FP.i2d x) :: st)) : tp_Run l G M R Q k n h pc L (.int x :: st) := fun p e s m args below meth c A H locs ls hR hS hl => lv_i2d A.hx A.hb hd  (kk p e s m args below meth c A H locs ls hR hS hl)
theorem r_d2l {x : UInt64} (hd : decode M.2.1 pc = .ok (.d2l, 1)) (kk : tp_Run l G M R Q k n h (pc + 1) L (.long (FP.d2l x) :: st)) : tp_Run l G M R Q k n h pc L (.double x :: st) := fun p e s m args below meth c A H locs ls hR hS hl => lv_d2l A.hx A.hb hd  (kk p e s m args below meth c A H locs ls hR hS hl)
theorem r_dsub {x y : UInt64} (hd : decode M.2.1 pc = .ok (.dsub, 1)) (hne : vf_n64 (FP.dsub x y)) (kk : tp_Run l G M R Q k n h (pc + 1) L (.double (FP.dsub x y) :: st)) : tp_Run l G M R Q k n h pc L (.double y :: .double x :: st) := fun p e s m args below meth c A H locs ls hR hS hl => lv_dsub A.hx A.hb hd hne (kk p e s m args below meth c A H locs ls hR hS hl)
theorem r_dmul {x y : UInt64} (hd : decode M.2.1 pc = .ok (.dmul, 1)) (hne : vf_n64 (FP.dmul x y)) (kk : tp_Run l G M R Q k n h (pc + 1) L (.double (FP.dmul x y) :: st)) : tp_Run l G M R Q k n h pc L (.double y :: .double x :: st) := fun p e s m args below meth c A H locs ls hR hS hl => lv_dmul A.hx A.hb hd hne (kk p e s m args below meth c A H locs ls hR hS hl)
theorem r_ddiv {x y : UInt64} (hd : decode M.2.1 pc = .ok (.ddiv, 1)) (hne : vf_n64 (FP.ddiv x y)) (kk : tp_Run l G M R Q k n h (pc + 1) L (.double (FP.ddiv x y) :: st)) : tp_Run l G M R Q k n h pc L (.double y :: .double x :: st) := fun p e s m args below meth c A H locs ls hR hS hl => lv_ddiv A.hx A.hb hd hne (kk p e s m args below meth c A H locs ls hR hS hl)
theorem r_dcmp {x y : UInt64} {op : CmpOp} (hd : decode M.2.1 pc = .ok (.dcmp op, 1)) (kk : tp_Run l G M R Q k n h (pc + 1) L (.int (Op.cmpValue (FP.dcmp x y) op) :: st)) : tp_Run l G M R Q k n h pc L (.double y :: .double x :: st) := fun p e s m args below meth c A H locs ls hR hS hl => lv_dcmp A.hx A.hb hd  (kk p e s m args below meth c A H locs ls hR hS hl)
theorem r_lcmp {x y : Int64} (hd : decode M.2.1 pc = .ok (.lcmp, 1)) (kk : tp_Run l G M R Q k n h (pc + 1) L (.int (lg_cmp x y) :: st)) : tp_Run l G M R Q k n h pc L (.long y :: .long x :: st) := fun p e s m args below meth c A H locs ls hR hS hl => W.lcmp A.hx A.hb hd  (kk p e s m args below meth c A H locs ls hR hS hl)
theorem r_dup {v : Value} (hd : decode M.2.1 pc = .ok (.dup, 1)) (hc : v.category = 1) (kk : tp_Run l G M R Q k n h (pc + 1) L (v :: v :: st)) : tp_Run l G M R Q k n h pc L (v :: st) := fun p e s m args below meth c A H locs ls hR hS hl => lv_dup A.hx A.hb hd hc (kk p e s m args below meth c A H locs ls hR hS hl)
theorem r_pop {v : Value} (hd : decode M.2.1 pc = .ok (.pop, 1)) (hc : v.category = 1) (kk : tp_Run l G M R Q k n h (pc + 1) L st) : tp_Run l G M R Q k n h pc L (v :: st) := fun p e s m args below meth c A H locs ls hR hS hl => lv_pop A.hx A.hb hd hc (kk p e s m args below meth c A H locs ls hR hS hl)
theorem r_dup2 {v w : Value} (hd : decode M.2.1 pc = .ok (.dup2, 1)) (hc : v.category = 1) (hc2 : w.category = 1) (kk : tp_Run l G M R Q k n h (pc + 1) L (v :: w :: v :: w :: st)) : tp_Run l G M R Q k n h pc L (v :: w :: st) := fun p e s m args below meth c A H locs ls hR hS hl => lv_dup2_11 A.hx A.hb hd hc hc2 (kk p e s m args below meth c A H locs ls hR hS hl)
theorem r_dup_x1 {v w : Value} (hd : decode M.2.1 pc = .ok (.dup_x1, 1)) (hc : v.category = 1) (hc2 : w.category = 1) (kk : tp_Run l G M R Q k n h (pc + 1) L (v :: w :: v :: st)) : tp_Run l G M R Q k n h pc L (v :: w :: st) := fun p e s m args below meth c A H locs ls hR hS hl => lv_dup_x1 A.hx A.hb hd hc hc2 (kk p e s m args below meth c A H locs ls hR hS hl)
theorem r_if_eq {x : Int32} {off : Int} {tgt : Nat} (hd : decode M.2.1 pc = .ok (.ifCond .eq off, 3)) (ht : (pc : Int) + off = (tgt : Int)) (kt : x = 0 → tp_Run l G M R Q k n h tgt L st) (kf : ¬ x = 0 → tp_Run l G M R Q k n h (pc + 3) L st) : tp_Run l G M R Q k n h pc L (.int x :: st) := fun p e s m args below meth c A H locs ls hR hS hl => lv_if_eq A.hx A.hb hd ht (fun q => kt q p e s m args below meth c A H locs ls hR hS hl) (fun q => kf q p e s m args below meth c A H locs ls hR hS hl)
theorem r_icmp_eq {x y : Int32} {off : Int} {tgt : Nat} (hd : decode M.2.1 pc = .ok (.if_icmp .eq off, 3)) (ht : (pc : Int) + off = (tgt : Int)) (kt : x = y → tp_Run l G M R Q k n h tgt L st) (kf : ¬ x = y → tp_Run l G M R Q k n h (pc + 3) L st) : tp_Run l G M R Q k n h pc L (.int y :: .int x :: st) := fun p e s m args below meth c A H locs ls hR hS hl => lv_icmp_eq A.hx A.hb hd ht (fun q => kt q p e s m args below meth c A H locs ls hR hS hl) (fun q => kf q p e s m args below meth c A H locs ls hR hS hl)
theorem r_if_ne {x : Int32} {off : Int} {tgt : Nat} (hd : decode M.2.1 pc = .ok (.ifCond .ne off, 3)) (ht : (pc : Int) + off = (tgt : Int)) (kt : ¬ x = 0 → tp_Run l G M R Q k n h tgt L st) (kf : x = 0 → tp_Run l G M R Q k n h (pc + 3) L st) : tp_Run l G M R Q k n h pc L (.int x :: st) := fun p e s m args below meth c A H locs ls hR hS hl => lv_if_ne A.hx A.hb hd ht (fun q => kt q p e s m args below meth c A H locs ls hR hS hl) (fun q => kf q p e s m args below meth c A H locs ls hR hS hl)
theorem r_icmp_ne {x y : Int32} {off : Int} {tgt : Nat} (hd : decode M.2.1 pc = .ok (.if_icmp .ne off, 3)) (ht : (pc : Int) + off = (tgt : Int)) (kt : ¬ x = y → tp_Run l G M R Q k n h tgt L st) (kf : x = y → tp_Run l G M R Q k n h (pc + 3) L st) : tp_Run l G M R Q k n h pc L (.int y :: .int x :: st) := fun p e s m args below meth c A H locs ls hR hS hl => lv_icmp_ne A.hx A.hb hd ht (fun q => kt q p e s m args below meth c A H locs ls hR hS hl) (fun q => kf q p e s m args below meth c A H locs ls hR hS hl)
theorem r_if_lt {x : Int32} {off : Int} {tgt : Nat} (hd : decode M.2.1 pc = .ok (.ifCond .lt off, 3)) (ht : (pc : Int) + off = (tgt : Int)) (kt : x < 0 → tp_Run l G M R Q k n h tgt L st) (kf : ¬ x < 0 → tp_Run l G M R Q k n h (pc + 3) L st) : tp_Run l G M R Q k n h pc L (.int x :: st) := fun p e s m args below meth c A H locs ls hR hS hl => lv_if_lt A.hx A.hb hd ht (fun q => kt q p e s m args below meth c A H locs ls hR hS hl) (fun q => kf q p e s m args below meth c A H locs ls hR hS hl)
theorem r_icmp_lt {x y : Int32} {off : Int} {tgt : Nat} (hd : decode M.2.1 pc = .ok (.if_icmp .lt off, 3)) (ht : (pc : Int) + off = (tgt : Int)) (kt : x < y → tp_Run l G M R Q k n h tgt L st) (kf : ¬ x < y → tp_Run l G M R Q k n h (pc + 3) L st) : tp_Run l G M R Q k n h pc L (.int y :: .int x :: st) := fun p e s m args below meth c A H locs ls hR hS hl => lv_icmp_lt A.hx A.hb hd ht (fun q => kt q p e s m args below meth c A H locs ls hR hS hl) (fun q => kf q p e s m args below meth c A H locs ls hR hS hl)
theorem r_if_ge {x : Int32} {off : Int} {tgt : Nat} (hd : decode M.2.1 pc = .ok (.ifCond .ge off, 3)) (ht : (pc : Int) + off = (tgt : Int)) (kt : 0 ≤ x → tp_Run l G M R Q k n h tgt L st) (kf : ¬ 0 ≤ x → tp_Run l G M R Q k n h (pc + 3) L st) : tp_Run l G M R Q k n h pc L (.int x :: st) := fun p e s m args below meth c A H locs ls hR hS hl => lv_if_ge A.hx A.hb hd ht (fun q => kt q p e s m args below meth c A H locs ls hR hS hl) (fun q => kf q p e s m args below meth c A H locs ls hR hS hl)
theorem r_icmp_ge {x y : Int32} {off : Int} {tgt : Nat} (hd : decode M.2.1 pc = .ok (.if_icmp .ge off, 3)) (ht : (pc : Int) + off = (tgt : Int)) (kt : y ≤ x → tp_Run l G M R Q k n h tgt L st) (kf : ¬ y ≤ x → tp_Run l G M R Q k n h (pc + 3) L st) : tp_Run l G M R Q k n h pc L (.int y :: .int x :: st) := fun p e s m args below meth c A H locs ls hR hS hl => lv_icmp_ge A.hx A.hb hd ht (fun q => kt q p e s m args below meth c A H locs ls hR hS hl) (fun q => kf q p e s m args below meth c A H locs ls hR hS hl)
theorem r_if_gt {x : Int32} {off : Int} {tgt : Nat} (hd : decode M.2.1 pc = .ok (.ifCond .gt off, 3)) (ht : (pc : Int) + off = (tgt : Int)) (kt : 0 < x → tp_Run l G M R Q k n h tgt L st) (kf : ¬ 0 < x → tp_Run l G M R Q k n h (pc + 3) L st) : tp_Run l G M R Q k n h pc L (.int x :: st) := fun p e s m args below meth c A H locs ls hR hS hl => lv_if_gt A.hx A.hb hd ht (fun q => kt q p e s m args below meth c A H locs ls hR hS hl) (fun q => kf q p e s m args below meth c A H locs ls hR hS hl)
theorem r_icmp_gt {x y : Int32} {off : Int} {tgt : Nat} (hd : decode M.2.1 pc = .ok (.if_icmp .gt off, 3)) (ht : (pc : Int) + off = (tgt : Int)) (kt : y < x → tp_Run l G M R Q k n h tgt L st) (kf : ¬ y < x → tp_Run l G M R Q k n h (pc + 3) L st) : tp_Run l G M R Q k n h pc L (.int y :: .int x :: st) := fun p e s m args below meth c A H locs ls hR hS hl => lv_icmp_gt A.hx A.hb hd ht (fun q => kt q p e s m args below meth c A H locs ls hR hS hl) (fun q => kf q p e s m args below meth c A H locs ls hR hS hl)
theorem r_if_le {x : Int32} {off : Int} {tgt : Nat} (hd : decode M.2.1 pc = .ok (.ifCond .le off, 3)) (ht : (pc : Int) + off = (tgt : Int)) (kt : x ≤ 0 → tp_Run l G M R Q k n h tgt L st) (kf : ¬ x ≤ 0 → tp_Run l G M R Q k n h (pc + 3) L st) : tp_Run l G M R Q k n h pc L (.int x :: st) := fun p e s m args below meth c A H locs ls hR hS hl => lv_if_le A.hx A.hb hd ht (fun q => kt q p e s m args below meth c A H locs ls hR hS hl) (fun q => kf q p e s m args below meth c A H locs ls hR hS hl)
theorem r_icmp_le {x y : Int32} {off : Int} {tgt : Nat} (hd : decode M.2.1 pc = .ok (.if_icmp .le off, 3)) (ht : (pc : Int) + off = (tgt : Int)) (kt : x ≤ y → tp_Run l G M R Q k n h tgt L st) (kf : ¬ x ≤ y → tp_Run l G M R Q k n h (pc + 3) L st) : tp_Run l G M R Q k n h pc L (.int y :: .int x :: st) := fun p e s m args below meth c A H locs ls hR hS hl => lv_icmp_le A.hx A.hb hd ht (fun q => kt q p e s m args below meth c A H locs ls hR hS hl) (fun q => kf q p e s m args below meth c A H locs ls hR hS hl)
theorem r_goto {off : Int} {tgt : Nat} (hd : decode M.2.1 pc = .ok (.goto off, 3)) (ht : (pc : Int) + off = (tgt : Int)) (kk : tp_Run l G M R Q k n h tgt L st) : tp_Run l G M R Q k n h pc L st := fun p e s m args below meth c A H locs ls hR hS hl => lv_goto A.hx A.hb hd ht (kk p e s m args below meth c A H locs ls hR hS hl)
theorem r_tableIn {dflt lo hi : Int} {offs : Array Int} {len : Nat} {x : Int32} {off : Int} {tgt : Nat} (hd : decode M.2.1 pc = .ok (.tableswitch dflt lo hi offs, len)) (h1 : ¬ x.toInt < lo) (h2 : ¬ hi < x.toInt) (ho : offs[(x.toInt - lo).toNat]? = some off) (ht : (pc : Int) + off = (tgt : Int)) (kk : tp_Run l G M R Q k n h tgt L st) : tp_Run l G M R Q k n h pc L (.int x :: st) := fun p e s m args below meth c A H locs ls hR hS hl => lv_tableIn A.hx A.hb hd h1 h2 ho ht (kk p e s m args below meth c A H locs ls hR hS hl)
theorem r_tableOut {dflt lo hi : Int} {offs : Array Int} {len : Nat} {x : Int32} {tgt : Nat} (hd : decode M.2.1 pc = .ok (.tableswitch dflt lo hi offs, len)) (h1 : x.toInt < lo ∨ hi < x.toInt) (ht : (pc : Int) + dflt = (tgt : Int)) (kk : tp_Run l G M R Q k n h tgt L st) : tp_Run l G M R Q k n h pc L (.int x :: st) := fun p e s m args below meth c A H locs ls hR hS hl => lv_tableOut A.hx A.hb hd h1 ht (kk p e s m args below meth c A H locs ls hR hS hl)
theorem r_lookup {dflt : Int} {ps : Array (Int × Int)} {len : Nat} {x : Int32} {off : Int} {tgt : Nat} (hd : decode M.2.1 pc = .ok (.lookupswitch dflt ps, len)) (hp : (ps.toList.zip (ps.toList.drop 1)).all (fun (a, next) => a.1 < next.1) = true) (ho : Op.lookupswitch.offset ps.toList dflt x.toInt = off) (ht : (pc : Int) + off = (tgt : Int)) (kk : tp_Run l G M R Q k n h tgt L st) : tp_Run l G M R Q k n h pc L (.int x :: st) := fun p e s m args below meth c A H locs ls hR hS hl => lv_lookup A.hx A.hb hd hp ho ht (kk p e s m args below meth c A H locs ls hR hS hl)
theorem r_iload_g {j : Nat} {x : Int32} (hd : decode M.2.1 pc = .ok (.iload j, 2)) (hL : L[j]? = some (some (.int x))) (kk : tp_Run l G M R Q k n h (pc + 2) L (.int x :: st)) : tp_Run l G M R Q k n h pc L st := fun p e s m args below meth c A H locs ls hR hS hl => lv_iload A.hx A.hb hd (hl.at hL) (kk p e s m args below meth c A H locs ls hR hS hl)
theorem r_iload_gn {j : Fin 4} {x : Int32} (hd : decode M.2.1 pc = .ok (.iload_n j, 1)) (hL : L[(j : Nat)]? = some (some (.int x))) (kk : tp_Run l G M R Q k n h (pc + 1) L (.int x :: st)) : tp_Run l G M R Q k n h pc L st := fun p e s m args below meth c A H locs ls hR hS hl => lv_iload_n A.hx A.hb hd rfl (hl.at hL) (kk p e s m args below meth c A H locs ls hR hS hl)
theorem r_istore_g {j : Nat} {x : Int32} (hd : decode M.2.1 pc = .ok (.istore j, 2)) (hn : j < M.2.2.1) (ho : tp_ok L j = true) (kk : tp_Run l G M R Q k n h (pc + 2) (L.set j (some (.int x))) st) : tp_Run l G M R Q k n h pc L (.int x :: st) := fun p e s m args below meth c A H locs ls hR hS hl => lv_istore A.hx A.hb hd hl hn rfl (fun ls9 hl9 => kk p e s m args below meth c A H locs ls9 hR hS (tp_has hl9 (fun i v q => tp_set1 ho i v q)))
theorem r_istore_gn {j : Fin 4} {x : Int32} (hd : decode M.2.1 pc = .ok (.istore_n j, 1)) (hn : (j : Nat) < M.2.2.1) (ho : tp_ok L (j : Nat) = true) (kk : tp_Run l G M R Q k n h (pc + 1) (L.set (j : Nat) (some (.int x))) st) : tp_Run l G M R Q k n h pc L (.int x :: st) := fun p e s m args below meth c A H locs ls hR hS hl => lv_istore_n A.hx A.hb hd rfl hl hn rfl (fun ls9 hl9 => kk p e s m args below meth c A H locs ls9 hR hS (tp_has hl9 (fun i v q => tp_set1 ho i v q)))
theorem r_iload0  {x : Int32} (hd : decode M.2.1 pc = .ok (.iload_n 0, 1)) (kk : tp_Run l G M R Q k n h (pc + 1) (some (.int x) :: L) (.int x :: st)) : tp_Run l G M R Q k n h pc (some (.int x) :: L) st := r_iload_gn (j := 0) hd rfl kk
theorem r_istore0  {b : Option Value} {x : Int32} (hd : decode M.2.1 pc = .ok (.istore_n 0, 1)) (hn : 0 < M.2.2.1) (kk : tp_Run l G M R Q k n h (pc + 1) (some (.int x) :: L) st) : tp_Run l G M R Q k n h pc (b :: L) (.int x :: st) := r_istore_gn (j := 0) hd hn rfl kk
theorem r_iload1 {a0 : Option Value} {x : Int32} (hd : decode M.2.1 pc = .ok (.iload_n 1, 1)) (kk : tp_Run l G M R Q k n h (pc + 1) (a0 :: some (.int x) :: L) (.int x :: st)) : tp_Run l G M R Q k n h pc (a0 :: some (.int x) :: L) st := r_iload_gn (j := 1) hd rfl kk
theorem r_istore1 {a0 : Option Value} {b : Option Value} {x : Int32} (hd : decode M.2.1 pc = .ok (.istore_n 1, 1)) (hn : 1 < M.2.2.1) (ho : tp_c1 a0 = true) (kk : tp_Run l G M R Q k n h (pc + 1) (a0 :: some (.int x) :: L) st) : tp_Run l G M R Q k n h pc (a0 :: b :: L) (.int x :: st) := r_istore_gn (j := 1) hd hn ho kk
theorem r_iload2 {a0 a1 : Option Value} {x : Int32} (hd : decode M.2.1 pc = .ok (.iload_n 2, 1)) (kk : tp_Run l G M R Q k n h (pc + 1) (a0 :: a1 :: some (.int x) :: L) (.int x :: st)) : tp_Run l G M R Q k n h pc (a0 :: a1 :: some (.int x) :: L) st := r_iload_gn (j := 2) hd rfl kk
theorem r_istore2 {a0 a1 : Option Value} {b : Option Value} {x : Int32} (hd : decode M.2.1 pc = .ok (.istore_n 2, 1)) (hn : 2 < M.2.2.1) (ho : tp_c1 a1 = true) (kk : tp_Run l G M R Q k n h (pc + 1) (a0 :: a1 :: some (.int x) :: L) st) : tp_Run l G M R Q k n h pc (a0 :: a1 :: b :: L) (.int x :: st) := r_istore_gn (j := 2) hd hn ho kk
theorem r_iload3 {a0 a1 a2 : Option Value} {x : Int32} (hd : decode M.2.1 pc = .ok (.iload_n 3, 1)) (kk : tp_Run l G M R Q k n h (pc + 1) (a0 :: a1 :: a2 :: some (.int x) :: L) (.int x :: st)) : tp_Run l G M R Q k n h pc (a0 :: a1 :: a2 :: some (.int x) :: L) st := r_iload_gn (j := 3) hd rfl kk
theorem r_istore3 {a0 a1 a2 : Option Value} {b : Option Value} {x : Int32} (hd : decode M.2.1 pc = .ok (.istore_n 3, 1)) (hn : 3 < M.2.2.1) (ho : tp_c1 a2 = true) (kk : tp_Run l G M R Q k n h (pc + 1) (a0 :: a1 :: a2 :: some (.int x) :: L) st) : tp_Run l G M R Q k n h pc (a0 :: a1 :: a2 :: b :: L) (.int x :: st) := r_istore_gn (j := 3) hd hn ho kk
theorem r_iload4 {a0 a1 a2 a3 : Option Value} {x : Int32} (hd : decode M.2.1 pc = .ok (.iload 4, 2)) (kk : tp_Run l G M R Q k n h (pc + 2) (a0 :: a1 :: a2 :: a3 :: some (.int x) :: L) (.int x :: st)) : tp_Run l G M R Q k n h pc (a0 :: a1 :: a2 :: a3 :: some (.int x) :: L) st := r_iload_g (j := 4) hd rfl kk
theorem r_istore4 {a0 a1 a2 a3 : Option Value} {b : Option Value} {x : Int32} (hd : decode M.2.1 pc = .ok (.istore 4, 2)) (hn : 4 < M.2.2.1) (ho : tp_c1 a3 = true) (kk : tp_Run l G M R Q k n h (pc + 2) (a0 :: a1 :: a2 :: a3 :: some (.int x) :: L) st) : tp_Run l G M R Q k n h pc (a0 :: a1 :: a2 :: a3 :: b :: L) (.int x :: st) := r_istore_g (j := 4) hd hn ho kk
theorem r_iload5 {a0 a1 a2 a3 a4 : Option Value} {x : Int32} (hd : decode M.2.1 pc = .ok (.iload 5, 2)) (kk : tp_Run l G M R Q k n h (pc + 2) (a0 :: a1 :: a2 :: a3 :: a4 :: some (.int x) :: L) (.int x :: st)) : tp_Run l G M R Q k n h pc (a0 :: a1 :: a2 :: a3 :: a4 :: some (.int x) :: L) st := r_iload_g (j := 5) hd rfl kk
theorem r_istore5 {a0 a1 a2 a3 a4 : Option Value} {b : Option Value} {x : Int32} (hd : decode M.2.1 pc = .ok (.istore 5, 2)) (hn : 5 < M.2.2.1) (ho : tp_c1 a4 = true) (kk : tp_Run l G M R Q k n h (pc + 2) (a0 :: a1 :: a2 :: a3 :: a4 :: some (.int x) :: L) st) : tp_Run l G M R Q k n h pc (a0 :: a1 :: a2 :: a3 :: a4 :: b :: L) (.int x :: st) := r_istore_g (j := 5) hd hn ho kk
theorem r_iload6 {a0 a1 a2 a3 a4 a5 : Option Value} {x : Int32} (hd : decode M.2.1 pc = .ok (.iload 6, 2)) (kk : tp_Run l G M R Q k n h (pc + 2) (a0 :: a1 :: a2 :: a3 :: a4 :: a5 :: some (.int x) :: L) (.int x :: st)) : tp_Run l G M R Q k n h pc (a0 :: a1 :: a2 :: a3 :: a4 :: a5 :: some (.int x) :: L) st := r_iload_g (j := 6) hd rfl kk
theorem r_istore6 {a0 a1 a2 a3 a4 a5 : Option Value} {b : Option Value} {x : Int32} (hd : decode M.2.1 pc = .ok (.istore 6, 2)) (hn : 6 < M.2.2.1) (ho : tp_c1 a5 = true) (kk : tp_Run l G M R Q k n h (pc + 2) (a0 :: a1 :: a2 :: a3 :: a4 :: a5 :: some (.int x) :: L) st) : tp_Run l G M R Q k n h pc (a0 :: a1 :: a2 :: a3 :: a4 :: a5 :: b :: L) (.int x :: st) := r_istore_g (j := 6) hd hn ho kk
theorem r_iload7 {a0 a1 a2 a3 a4 a5 a6 : Option Value} {x : Int32} (hd : decode M.2.1 pc = .ok (.iload 7, 2)) (kk : tp_Run l G M R Q k n h (pc + 2) (a0 :: a1 :: a2 :: a3 :: a4 :: a5 :: a6 :: some (.int x) :: L) (.int x :: st)) : tp_Run l G M R Q k n h pc (a0 :: a1 :: a2 :: a3 :: a4 :: a5 :: a6 :: some (.int x) :: L) st := r_iload_g (j := 7) hd rfl kk
theorem r_istore7 {a0 a1 a2 a3 a4 a5 a6 : Option Value} {b : Option Value} {x : Int32} (hd : decode M.2.1 pc = .ok (.istore 7, 2)) (hn : 7 < M.2.2.1) (ho : tp_c1 a6 = true) (kk : tp_Run l G M R Q k n h (pc + 2) (a0 :: a1 :: a2 :: a3 :: a4 :: a5 :: a6 :: some (.int x) :: L) st) : tp_Run l G M R Q k n h pc (a0 :: a1 :: a2 :: a3 :: a4 :: a5 :: a6 :: b :: L) (.int x :: st) := r_istore_g (j := 7) hd hn ho kk
theorem r_iload8 {a0 a1 a2 a3 a4 a5 a6 a7 : Option Value} {x : Int32} (hd : decode M.2.1 pc = .ok (.iload 8, 2)) (kk : tp_Run l G M R Q k n h (pc + 2) (a0 :: a1 :: a2 :: a3 :: a4 :: a5 :: a6 :: a7 :: some (.int x) :: L) (.int x :: st)) : tp_Run l G M R Q k n h pc (a0 :: a1 :: a2 :: a3 :: a4 :: a5 :: a6 :: a7 :: some (.int x) :: L) st := r_iload_g (j := 8) hd rfl kk
theorem r_istore8 {a0 a1 a2 a3 a4 a5 a6 a7 : Option Value} {b : Option Value} {x : Int32} (hd : decode M.2.1 pc = .ok (.istore 8, 2)) (hn : 8 < M.2.2.1) (ho : tp_c1 a7 = true) (kk : tp_Run l G M R Q k n h (pc + 2) (a0 :: a1 :: a2 :: a3 :: a4 :: a5 :: a6 :: a7 :: some (.int x) :: L) st) : tp_Run l G M R Q k n h pc (a0 :: a1 :: a2 :: a3 :: a4 :: a5 :: a6 :: a7 :: b :: L) (.int x :: st) := r_istore_g (j := 8) hd hn ho kk
theorem r_lload_g {j : Nat} {x : Int64} (hd : decode M.2.1 pc = .ok (.lload j, 2)) (hL : L[j]? = some (some (.long x))) (kk : tp_Run l G M R Q k n h (pc + 2) L (.long x :: st)) : tp_Run l G M R Q k n h pc L st := fun p e s m args below meth c A H locs ls hR hS hl => lv_lload A.hx A.hb hd (hl.at hL) (kk p e s m args below meth c A H locs ls hR hS hl)
theorem r_lload_gn {j : Fin 4} {x : Int64} (hd : decode M.2.1 pc = .ok (.lload_n j, 1)) (hL : L[(j : Nat)]? = some (some (.long x))) (kk : tp_Run l G M R Q k n h (pc + 1) L (.long x :: st)) : tp_Run l G M R Q k n h pc L st := fun p e s m args below meth c A H locs ls hR hS hl => lv_lload_n A.hx A.hb hd rfl (hl.at hL) (kk p e s m args below meth c A H locs ls hR hS hl)
theorem r_lstore_g {j : Nat} {x : Int64} (hd : decode M.2.1 pc = .ok (.lstore j, 2)) (hn : j + 1 < M.2.2.1) (ho : tp_ok L j = true) (kk : tp_Run l G M R Q k n h (pc + 2) ((L.set j (some (.long x))).set (j + 1) none) st) : tp_Run l G M R Q k n h pc L (.long x :: st) := fun p e s m args below meth c A H locs ls hR hS hl => lv_lstore A.hx A.hb hd hl hn rfl (fun ls9 hl9 => kk p e s m args below meth c A H locs ls9 hR hS (tp_has hl9 (fun i v q => tp_set2 ho i v q)))
theorem r_lstore_gn {j : Fin 4} {x : Int64} (hd : decode M.2.1 pc = .ok (.lstore_n j, 1)) (hn : (j : Nat) + 1 < M.2.2.1) (ho : tp_ok L (j : Nat) = true) (kk : tp_Run l G M R Q k n h (pc + 1) ((L.set (j : Nat) (some (.long x))).set ((j : Nat) + 1) none) st) : tp_Run l G M R Q k n h pc L (.long x :: st) := fun p e s m args below meth c A H locs ls hR hS hl => lv_lstore_n A.hx A.hb hd rfl hl hn rfl (fun ls9 hl9 => kk p e s m args below meth c A H locs ls9 hR hS (tp_has hl9 (fun i v q => tp_set2 ho i v q)))
theorem r_lload0  {x : Int64} (hd : decode M.2.1 pc = .ok (.lload_n 0, 1)) (kk : tp_Run l G M R Q k n h (pc + 1) (some (.long x) :: L) (.long x :: st)) : tp_Run l G M R Q k n h pc (some (.long x) :: L) st := r_lload_gn (j := 0) hd rfl kk
theorem r_lstore0  {b b2 : Option Value} {x : Int64} (hd : decode M.2.1 pc = .ok (.lstore_n 0, 1)) (hn : 1 < M.2.2.1) (kk : tp_Run l G M R Q k n h (pc + 1) (some (.long x) :: none :: L) st) : tp_Run l G M R Q k n h pc (b :: b2 :: L) (.long x :: st) := r_lstore_gn (j := 0) hd hn rfl kk
theorem r_lload1 {a0 : Option Value} {x : Int64} (hd : decode M.2.1 pc = .ok (.lload_n 1, 1)) (kk : tp_Run l G M R Q k n h (pc + 1) (a0 :: some (.long x) :: L) (.long x :: st)) : tp_Run l G M R Q k n h pc (a0 :: some (.long x) :: L) st := r_lload_gn (j := 1) hd rfl kk
theorem r_lstore1 {a0 : Option Value} {b b2 : Option Value} {x : Int64} (hd : decode M.2.1 pc = .ok (.lstore_n 1, 1)) (hn : 2 < M.2.2.1) (ho : tp_c1 a0 = true) (kk : tp_Run l G M R Q k n h (pc + 1) (a0 :: some (.long x) :: none :: L) st) : tp_Run l G M R Q k n h pc (a0 :: b :: b2 :: L) (.long x :: st) := r_lstore_gn (j := 1) hd hn ho kk
theorem r_lload2 {a0 a1 : Option Value} {x : Int64} (hd : decode M.2.1 pc = .ok (.lload_n 2, 1)) (kk : tp_Run l G M R Q k n h (pc + 1) (a0 :: a1 :: some (.long x) :: L) (.long x :: st)) : tp_Run l G M R Q k n h pc (a0 :: a1 :: some (.long x) :: L) st := r_lload_gn (j := 2) hd rfl kk
theorem r_lstore2 {a0 a1 : Option Value} {b b2 : Option Value} {x : Int64} (hd : decode M.2.1 pc = .ok (.lstore_n 2, 1)) (hn : 3 < M.2.2.1) (ho : tp_c1 a1 = true) (kk : tp_Run l G M R Q k n h (pc + 1) (a0 :: a1 :: some (.long x) :: none :: L) st) : tp_Run l G M R Q k n h pc (a0 :: a1 :: b :: b2 :: L) (.long x :: st) := r_lstore_gn (j := 2) hd hn ho kk
theorem r_lload3 {a0 a1 a2 : Option Value} {x : Int64} (hd : decode M.2.1 pc = .ok (.lload_n 3, 1)) (kk : tp_Run l G M R Q k n h (pc + 1) (a0 :: a1 :: a2 :: some (.long x) :: L) (.long x :: st)) : tp_Run l G M R Q k n h pc (a0 :: a1 :: a2 :: some (.long x) :: L) st := r_lload_gn (j := 3) hd rfl kk
theorem r_lstore3 {a0 a1 a2 : Option Value} {b b2 : Option Value} {x : Int64} (hd : decode M.2.1 pc = .ok (.lstore_n 3, 1)) (hn : 4 < M.2.2.1) (ho : tp_c1 a2 = true) (kk : tp_Run l G M R Q k n h (pc + 1) (a0 :: a1 :: a2 :: some (.long x) :: none :: L) st) : tp_Run l G M R Q k n h pc (a0 :: a1 :: a2 :: b :: b2 :: L) (.long x :: st) := r_lstore_gn (j := 3) hd hn ho kk
theorem r_lload4 {a0 a1 a2 a3 : Option Value} {x : Int64} (hd : decode M.2.1 pc = .ok (.lload 4, 2)) (kk : tp_Run l G M R Q k n h (pc + 2) (a0 :: a1 :: a2 :: a3 :: some (.long x) :: L) (.long x :: st)) : tp_Run l G M R Q k n h pc (a0 :: a1 :: a2 :: a3 :: some (.long x) :: L) st := r_lload_g (j := 4) hd rfl kk
theorem r_lstore4 {a0 a1 a2 a3 : Option Value} {b b2 : Option Value} {x : Int64} (hd : decode M.2.1 pc = .ok (.lstore 4, 2)) (hn : 5 < M.2.2.1) (ho : tp_c1 a3 = true) (kk : tp_Run l G M R Q k n h (pc + 2) (a0 :: a1 :: a2 :: a3 :: some (.long x) :: none :: L) st) : tp_Run l G M R Q k n h pc (a0 :: a1 :: a2 :: a3 :: b :: b2 :: L) (.long x :: st) := r_lstore_g (j := 4) hd hn ho kk
theorem r_lload5 {a0 a1 a2 a3 a4 : Option Value} {x : Int64} (hd : decode M.2.1 pc = .ok (.lload 5, 2)) (kk : tp_Run l G M R Q k n h (pc + 2) (a0 :: a1 :: a2 :: a3 :: a4 :: some (.long x) :: L) (.long x :: st)) : tp_Run l G M R Q k n h pc (a0 :: a1 :: a2 :: a3 :: a4 :: some (.long x) :: L) st := r_lload_g (j := 5) hd rfl kk
theorem r_lstore5 {a0 a1 a2 a3 a4 : Option Value} {b b2 : Option Value} {x : Int64} (hd : decode M.2.1 pc = .ok (.lstore 5, 2)) (hn : 6 < M.2.2.1) (ho : tp_c1 a4 = true) (kk : tp_Run l G M R Q k n h (pc + 2) (a0 :: a1 :: a2 :: a3 :: a4 :: some (.long x) :: none :: L) st) : tp_Run l G M R Q k n h pc (a0 :: a1 :: a2 :: a3 :: a4 :: b :: b2 :: L) (.long x :: st) := r_lstore_g (j := 5) hd hn ho kk
theorem r_lload6 {a0 a1 a2 a3 a4 a5 : Option Value} {x : Int64} (hd : decode M.2.1 pc = .ok (.lload 6, 2)) (kk : tp_Run l G M R Q k n h (pc + 2) (a0 :: a1 :: a2 :: a3 :: a4 :: a5 :: some (.long x) :: L) (.long x :: st)) : tp_Run l G M R Q k n h pc (a0 :: a1 :: a2 :: a3 :: a4 :: a5 :: some (.long x) :: L) st := r_lload_g (j := 6) hd rfl kk
theorem r_lstore6 {a0 a1 a2 a3 a4 a5 : Option Value} {b b2 : Option Value} {x : Int64} (hd : decode M.2.1 pc = .ok (.lstore 6, 2)) (hn : 7 < M.2.2.1) (ho : tp_c1 a5 = true) (kk : tp_Run l G M R Q k n h (pc + 2) (a0 :: a1 :: a2 :: a3 :: a4 :: a5 :: some (.long x) :: none :: L) st) : tp_Run l G M R Q k n h pc (a0 :: a1 :: a2 :: a3 :: a4 :: a5 :: b :: b2 :: L) (.long x :: st) := r_lstore_g (j := 6) hd hn ho kk
theorem r_lload7 {a0 a1 a2 a3 a4 a5 a6 : Option Value} {x : Int64} (hd : decode M.2.1 pc = .ok (.lload 7, 2)) (kk : tp_Run l G M R Q k n h (pc + 2) (a0 :: a1 :: a2 :: a3 :: a4 :: a5 :: a6 :: some (.long x) :: L) (.long x :: st)) : tp_Run l G M R Q k n h pc (a0 :: a1 :: a2 :: a3 :: a4 :: a5 :: a6 :: some (.long x) :: L) st := r_lload_g (j := 7) hd rfl kk
theorem r_lstore7 {a0 a1 a2 a3 a4 a5 a6 : Option Value} {b b2 : Option Value} {x : Int64} (hd : decode M.2.1 pc = .ok (.lstore 7, 2)) (hn : 8 < M.2.2.1) (ho : tp_c1 a6 = true) (kk : tp_Run l G M R Q k n h (pc + 2) (a0 :: a1 :: a2 :: a3 :: a4 :: a5 :: a6 :: some (.long x) :: none :: L) st) : tp_Run l G M R Q k n h pc (a0 :: a1 :: a2 :: a3 :: a4 :: a5 :: a6 :: b :: b2 :: L) (.long x :: st) := r_lstore_g (j := 7) hd hn ho kk
theorem r_lload8 {a0 a1 a2 a3 a4 a5 a6 a7 : Option Value} {x : Int64} (hd : decode M.2.1 pc = .ok (.lload 8, 2)) (kk : tp_Run l G M R Q k n h (pc + 2) (a0 :: a1 :: a2 :: a3 :: a4 :: a5 :: a6 :: a7 :: some (.long x) :: L) (.long x :: st)) : tp_Run l G M R Q k n h pc (a0 :: a1 :: a2 :: a3 :: a4 :: a5 :: a6 :: a7 :: some (.long x) :: L) st := r_lload_g (j := 8) hd rfl kk
theorem r_lstore8 {a0 a1 a2 a3 a4 a5 a6 a7 : Option Value} {b b2 : Option Value} {x : Int64} (hd : decode M.2.1 pc = .ok (.lstore 8, 2)) (hn : 9 < M.2.2.1) (ho : tp_c1 a7 = true) (kk : tp_Run l G M R Q k n h (pc + 2) (a0 :: a1 :: a2 :: a3 :: a4 :: a5 :: a6 :: a7 :: some (.long x) :: none :: L) st) : tp_Run l G M R Q k n h pc (a0 :: a1 :: a2 :: a3 :: a4 :: a5 :: a6 :: a7 :: b :: b2 :: L) (.long x :: st) := r_lstore_g (j := 8) hd hn ho kk
theorem r_aload_g {j : Nat} {x : Nat} (hd : decode M.2.1 pc = .ok (.aload j, 2)) (hL : L[j]? = some (some (.ref x))) (kk : tp_Run l G M R Q k n h (pc + 2) L (.ref x :: st)) : tp_Run l G M R Q k n h pc L st := fun p e s m args below meth c A H locs ls hR hS hl => lv_aload A.hx A.hb hd (hl.at hL) (kk p e s m args below meth c A H locs ls hR hS hl)
theorem r_aload_gn {j : Fin 4} {x : Nat} (hd : decode M.2.1 pc = .ok (.aload_n j, 1)) (hL : L[(j : Nat)]? = some (some (.ref x))) (kk : tp_Run l G M R Q k n h (pc + 1) L (.ref x :: st)) : tp_Run l G M R Q k n h pc L st := fun p e s m args below meth c A H locs ls hR hS hl => lv_aload_n A.hx A.hb hd rfl (hl.at hL) (kk p e s m args below meth c A H locs ls hR hS hl)
theorem r_astore_g {j : Nat} {x : Nat} (hd : decode M.2.1 pc = .ok (.astore j, 2)) (hn : j < M.2.2.1) (ho : tp_ok L j = true) (kk : tp_Run l G M R Q k n h (pc + 2) (L.set j (some (.ref x))) st) : tp_Run l G M R Q k n h pc L (.ref x :: st) := fun p e s m args below meth c A H locs ls hR hS hl => lv_astore A.hx A.hb hd hl hn rfl (fun ls9 hl9 => kk p e s m args below meth c A H locs ls9 hR hS (tp_has hl9 (fun i v q => tp_set1 ho i v q)))
theorem r_astore_gn {j : Fin 4} {x : Nat} (hd : decode M.2.1 pc = .ok (.astore_n j, 1)) (hn : (j : Nat) < M.2.2.1) (ho : tp_ok L (j : Nat) = true) (kk : tp_Run l G M R Q k n h (pc + 1) (L.set (j : Nat) (some (.ref x))) st) : tp_Run l G M R Q k n h pc L (.ref x :: st) := fun p e s m args below meth c A H locs ls hR hS hl => lv_astore_n A.hx A.hb hd rfl hl hn rfl (fun ls9 hl9 => kk p e s m args below meth c A H locs ls9 hR hS (tp_has hl9 (fun i v q => tp_set1 ho i v q)))
theorem r_aload0  {x : Nat} (hd : decode M.2.1 pc = .ok (.aload_n 0, 1)) (kk : tp_Run l G M R Q k n h (pc + 1) (some (.ref x) :: L) (.ref x :: st)) : tp_Run l G M R Q k n h pc (some (.ref x) :: L) st := r_aload_gn (j := 0) hd rfl kk
theorem r_astore0  {b : Option Value} {x : Nat} (hd : decode M.2.1 pc = .ok (.astore_n 0, 1)) (hn : 0 < M.2.2.1) (kk : tp_Run l G M R Q k n h (pc + 1) (some (.ref x) :: L) st) : tp_Run l G M R Q k n h pc (b :: L) (.ref x :: st) := r_astore_gn (j := 0) hd hn rfl kk
theorem r_aload1 {a0 : Option Value} {x : Nat} (hd : decode M.2.1 pc = .ok (.aload_n 1, 1)) (kk : tp_Run l G M R Q k n h (pc + 1) (a0 :: some (.ref x) :: L) (.ref x :: st)) : tp_Run l G M R Q k n h pc (a0 :: some (.ref x) :: L) st := r_aload_gn (j := 1) hd rfl kk
theorem r_astore1 {a0 : Option Value} {b : Option Value} {x : Nat} (hd : decode M.2.1 pc = .ok (.astore_n 1, 1)) (hn : 1 < M.2.2.1) (ho : tp_c1 a0 = true) (kk : tp_Run l G M R Q k n h (pc + 1) (a0 :: some (.ref x) :: L) st) : tp_Run l G M R Q k n h pc (a0 :: b :: L) (.ref x :: st) := r_astore_gn (j := 1) hd hn ho kk
theorem r_aload2 {a0 a1 : Option Value} {x : Nat} (hd : decode M.2.1 pc = .ok (.aload_n 2, 1)) (kk : tp_Run l G M R Q k n h (pc + 1) (a0 :: a1 :: some (.ref x) :: L) (.ref x :: st)) : tp_Run l G M R Q k n h pc (a0 :: a1 :: some (.ref x) :: L) st := r_aload_gn (j := 2) hd rfl kk
theorem r_astore2 {a0 a1 : Option Value} {b : Option Value} {x : Nat} (hd : decode M.2.1 pc = .ok (.astore_n 2, 1)) (hn : 2 < M.2.2.1) (ho : tp_c1 a1 = true) (kk : tp_Run l G M R Q k n h (pc + 1) (a0 :: a1 :: some (.ref x) :: L) st) : tp_Run l G M R Q k n h pc (a0 :: a1 :: b :: L) (.ref x :: st) := r_astore_gn (j := 2) hd hn ho kk
theorem r_aload3 {a0 a1 a2 : Option Value} {x : Nat} (hd : decode M.2.1 pc = .ok (.aload_n 3, 1)) (kk : tp_Run l G M R Q k n h (pc + 1) (a0 :: a1 :: a2 :: some (.ref x) :: L) (.ref x :: st)) : tp_Run l G M R Q k n h pc (a0 :: a1 :: a2 :: some (.ref x) :: L) st := r_aload_gn (j := 3) hd rfl kk
theorem r_astore3 {a0 a1 a2 : Option Value} {b : Option Value} {x : Nat} (hd : decode M.2.1 pc = .ok (.astore_n 3, 1)) (hn : 3 < M.2.2.1) (ho : tp_c1 a2 = true) (kk : tp_Run l G M R Q k n h (pc + 1) (a0 :: a1 :: a2 :: some (.ref x) :: L) st) : tp_Run l G M R Q k n h pc (a0 :: a1 :: a2 :: b :: L) (.ref x :: st) := r_astore_gn (j := 3) hd hn ho kk
theorem r_aload4 {a0 a1 a2 a3 : Option Value} {x : Nat} (hd : decode M.2.1 pc = .ok (.aload 4, 2)) (kk : tp_Run l G M R Q k n h (pc + 2) (a0 :: a1 :: a2 :: a3 :: some (.ref x) :: L) (.ref x :: st)) : tp_Run l G M R Q k n h pc (a0 :: a1 :: a2 :: a3 :: some (.ref x) :: L) st := r_aload_g (j := 4) hd rfl kk
theorem r_astore4 {a0 a1 a2 a3 : Option Value} {b : Option Value} {x : Nat} (hd : decode M.2.1 pc = .ok (.astore 4, 2)) (hn : 4 < M.2.2.1) (ho : tp_c1 a3 = true) (kk : tp_Run l G M R Q k n h (pc + 2) (a0 :: a1 :: a2 :: a3 :: some (.ref x) :: L) st) : tp_Run l G M R Q k n h pc (a0 :: a1 :: a2 :: a3 :: b :: L) (.ref x :: st) := r_astore_g (j := 4) hd hn ho kk
theorem r_aload5 {a0 a1 a2 a3 a4 : Option Value} {x : Nat} (hd : decode M.2.1 pc = .ok (.aload 5, 2)) (kk : tp_Run l G M R Q k n h (pc + 2) (a0 :: a1 :: a2 :: a3 :: a4 :: some (.ref x) :: L) (.ref x :: st)) : tp_Run l G M R Q k n h pc (a0 :: a1 :: a2 :: a3 :: a4 :: some (.ref x) :: L) st := r_aload_g (j := 5) hd rfl kk
theorem r_astore5 {a0 a1 a2 a3 a4 : Option Value} {b : Option Value} {x : Nat} (hd : decode M.2.1 pc = .ok (.astore 5, 2)) (hn : 5 < M.2.2.1) (ho : tp_c1 a4 = true) (kk : tp_Run l G M R Q k n h (pc + 2) (a0 :: a1 :: a2 :: a3 :: a4 :: some (.ref x) :: L) st) : tp_Run l G M R Q k n h pc (a0 :: a1 :: a2 :: a3 :: a4 :: b :: L) (.ref x :: st) := r_astore_g (j := 5) hd hn ho kk
theorem r_aload6 {a0 a1 a2 a3 a4 a5 : Option Value} {x : Nat} (hd : decode M.2.1 pc = .ok (.aload 6, 2)) (kk : tp_Run l G M R Q k n h (pc + 2) (a0 :: a1 :: a2 :: a3 :: a4 :: a5 :: some (.ref x) :: L) (.ref x :: st)) : tp_Run l G M R Q k n h pc (a0 :: a1 :: a2 :: a3 :: a4 :: a5 :: some (.ref x) :: L) st := r_aload_g (j := 6) hd rfl kk
theorem r_astore6 {a0 a1 a2 a3 a4 a5 : Option Value} {b : Option Value} {x : Nat} (hd : decode M.2.1 pc = .ok (.astore 6, 2)) (hn : 6 < M.2.2.1) (ho : tp_c1 a5 = true) (kk : tp_Run l G M R Q k n h (pc + 2) (a0 :: a1 :: a2 :: a3 :: a4 :: a5 :: some (.ref x) :: L) st) : tp_Run l G M R Q k n h pc (a0 :: a1 :: a2 :: a3 :: a4 :: a5 :: b :: L) (.ref x :: st) := r_astore_g (j := 6) hd hn ho kk
theorem r_aload7 {a0 a1 a2 a3 a4 a5 a6 : Option Value} {x : Nat} (hd : decode M.2.1 pc = .ok (.aload 7, 2)) (kk : tp_Run l G M R Q k n h (pc + 2) (a0 :: a1 :: a2 :: a3 :: a4 :: a5 :: a6 :: some (.ref x) :: L) (.ref x :: st)) : tp_Run l G M R Q k n h pc (a0 :: a1 :: a2 :: a3 :: a4 :: a5 :: a6 :: some (.ref x) :: L) st := r_aload_g (j := 7) hd rfl kk
theorem r_astore7 {a0 a1 a2 a3 a4 a5 a6 : Option Value} {b : Option Value} {x : Nat} (hd : decode M.2.1 pc = .ok (.astore 7, 2)) (hn : 7 < M.2.2.1) (ho : tp_c1 a6 = true) (kk : tp_Run l G M R Q k n h (pc + 2) (a0 :: a1 :: a2 :: a3 :: a4 :: a5 :: a6 :: some (.ref x) :: L) st) : tp_Run l G M R Q k n h pc (a0 :: a1 :: a2 :: a3 :: a4 :: a5 :: a6 :: b :: L) (.ref x :: st) := r_astore_g (j := 7) hd hn ho kk
theorem r_aload8 {a0 a1 a2 a3 a4 a5 a6 a7 : Option Value} {x : Nat} (hd : decode M.2.1 pc = .ok (.aload 8, 2)) (kk : tp_Run l G M R Q k n h (pc + 2) (a0 :: a1 :: a2 :: a3 :: a4 :: a5 :: a6 :: a7 :: some (.ref x) :: L) (.ref x :: st)) : tp_Run l G M R Q k n h pc (a0 :: a1 :: a2 :: a3 :: a4 :: a5 :: a6 :: a7 :: some (.ref x) :: L) st := r_aload_g (j := 8) hd rfl kk
theorem r_astore8 {a0 a1 a2 a3 a4 a5 a6 a7 : Option Value} {b : Option Value} {x : Nat} (hd : decode M.2.1 pc = .ok (.astore 8, 2)) (hn : 8 < M.2.2.1) (ho : tp_c1 a7 = true) (kk : tp_Run l G M R Q k n h (pc + 2) (a0 :: a1 :: a2 :: a3 :: a4 :: a5 :: a6 :: a7 :: some (.ref x) :: L) st) : tp_Run l G M R Q k n h pc (a0 :: a1 :: a2 :: a3 :: a4 :: a5 :: a6 :: a7 :: b :: L) (.ref x :: st) := r_astore_g (j := 8) hd hn ho kk
theorem r_dload_g {j : Nat} {x : UInt64} (hd : decode M.2.1 pc = .ok (.dload j, 2)) (hL : L[j]? = some (some (.double x))) (kk : tp_Run l G M R Q k n h (pc + 2) L (.double x :: st)) : tp_Run l G M R Q k n h pc L st := fun p e s m args below meth c A H locs ls hR hS hl => lv_dload A.hx A.hb hd (hl.at hL) (kk p e s m args below meth c A H locs ls hR hS hl)
theorem r_dload_gn {j : Fin 4} {x : UInt64} (hd : decode M.2.1 pc = .ok (.dload_n j, 1)) (hL : L[(j : Nat)]? = some (some (.double x))) (kk : tp_Run l G M R Q k n h (pc + 1) L (.double x :: st)) : tp_Run l G M R Q k n h pc L st := fun p e s m args below meth c A H locs ls hR hS hl => lv_dload_n A.hx A.hb hd rfl (hl.at hL) (kk p e s m args below meth c A H locs ls hR hS hl)
theorem r_dstore_g {j : Nat} {x : UInt64} (hd : decode M.2.1 pc = .ok (.dstore j, 2)) (hn : j + 1 < M.2.2.1) (ho : tp_ok L j = true) (kk : tp_Run l G M R Q k n h (pc + 2) ((L.set j (some (.double x))).set (j + 1) none) st) : tp_Run l G M R Q k n h pc L (.double x :: st) := fun p e s m args below meth c A H locs ls hR hS hl => lv_dstore A.hx A.hb hd hl hn rfl (fun ls9 hl9 => kk p e s m args below meth c A H locs ls9 hR hS (tp_has hl9 (fun i v q => tp_set2 ho i v q)))
theorem r_dstore_gn {j : Fin 4} {x : UInt64} (hd : decode M.2.1 pc = .ok (.dstore_n j, 1)) (hn : (j : Nat) + 1 < M.2.2.1) (ho : tp_ok L (j : Nat) = true) (kk : tp_Run l G M R Q k n h (pc + 1) ((L.set (j : Nat) (some (.double x))).set ((j : Nat) + 1) none) st) : tp_Run l G M R Q k n h pc L (.double x :: st) := fun p e s m args below meth c A H locs ls hR hS hl => lv_dstore_n A.hx A.hb hd rfl hl hn rfl (fun ls9 hl9 => kk p e s m args below meth c A H locs ls9 hR hS (tp_has hl9 (fun i v q => tp_set2 ho i v q)))
theorem r_dload0  {x : UInt64} (hd : decode M.2.1 pc = .ok (.dload_n 0, 1)) (kk : tp_Run l G M R Q k n h (pc + 1) (some (.double x) :: L) (.double x :: st)) : tp_Run l G M R Q k n h pc (some (.double x) :: L) st := r_dload_gn (j := 0) hd rfl kk
theorem r_dstore0  {b b2 : Option Value} {x : UInt64} (hd : decode M.2.1 pc = .ok (.dstore_n 0, 1)) (hn : 1 < M.2.2.1) (kk : tp_Run l G M R Q k n h (pc + 1) (some (.double x) :: none :: L) st) : tp_Run l G M R Q k n h pc (b :: b2 :: L) (.double x :: st) := r_dstore_gn (j := 0) hd hn rfl kk
theorem r_dload1 {a0 : Option Value} {x : UInt64} (hd : decode M.2.1 pc = .ok (.dload_n 1, 1)) (kk : tp_Run l G M R Q k n h (pc + 1) (a0 :: some (.double x) :: L) (.double x :: st)) : tp_Run l G M R Q k n h pc (a0 :: some (.double x) :: L) st := r_dload_gn (j := 1) hd rfl kk
theorem r_dstore1 {a0 : Option Value} {b b2 : Option Value} {x : UInt64} (hd : decode M.2.1 pc = .ok (.dstore_n 1, 1)) (hn : 2 < M.2.2.1) (ho : tp_c1 a0 = true) (kk : tp_Run l G M R Q k n h (pc + 1) (a0 :: some (.double x) :: none :: L) st) : tp_Run l G M R Q k n h pc (a0 :: b :: b2 :: L) (.double x :: st) := r_dstore_gn (j := 1) hd hn ho kk
theorem r_dload2 {a0 a1 : Option Value} {x : UInt64} (hd : decode M.2.1 pc = .ok (.dload_n 2, 1)) (kk : tp_Run l G M R Q k n h (pc + 1) (a0 :: a1 :: some (.double x) :: L) (.double x :: st)) : tp_Run l G M R Q k n h pc (a0 :: a1 :: some (.double x) :: L) st := r_dload_gn (j := 2) hd rfl kk
theorem r_dstore2 {a0 a1 : Option Value} {b b2 : Option Value} {x : UInt64} (hd : decode M.2.1 pc = .ok (.dstore_n 2, 1)) (hn : 3 < M.2.2.1) (ho : tp_c1 a1 = true) (kk : tp_Run l G M R Q k n h (pc + 1) (a0 :: a1 :: some (.double x) :: none :: L) st) : tp_Run l G M R Q k n h pc (a0 :: a1 :: b :: b2 :: L) (.double x :: st) := r_dstore_gn (j := 2) hd hn ho kk
theorem r_dload3 {a0 a1 a2 : Option Value} {x : UInt64} (hd : decode M.2.1 pc = .ok (.dload_n 3, 1)) (kk : tp_Run l G M R Q k n h (pc + 1) (a0 :: a1 :: a2 :: some (.double x) :: L) (.double x :: st)) : tp_Run l G M R Q k n h pc (a0 :: a1 :: a2 :: some (.double x) :: L) st := r_dload_gn (j := 3) hd rfl kk
theorem r_dstore3 {a0 a1 a2 : Option Value} {b b2 : Option Value} {x : UInt64} (hd : decode M.2.1 pc = .ok (.dstore_n 3, 1)) (hn : 4 < M.2.2.1) (ho : tp_c1 a2 = true) (kk : tp_Run l G M R Q k n h (pc + 1) (a0 :: a1 :: a2 :: some (.double x) :: none :: L) st) : tp_Run l G M R Q k n h pc (a0 :: a1 :: a2 :: b :: b2 :: L) (.double x :: st) := r_dstore_gn (j := 3) hd hn ho kk
theorem r_dload4 {a0 a1 a2 a3 : Option Value} {x : UInt64} (hd : decode M.2.1 pc = .ok (.dload 4, 2)) (kk : tp_Run l G M R Q k n h (pc + 2) (a0 :: a1 :: a2 :: a3 :: some (.double x) :: L) (.double x :: st)) : tp_Run l G M R Q k n h pc (a0 :: a1 :: a2 :: a3 :: some (.double x) :: L) st := r_dload_g (j := 4) hd rfl kk
theorem r_dstore4 {a0 a1 a2 a3 : Option Value} {b b2 : Option Value} {x : UInt64} (hd : decode M.2.1 pc = .ok (.dstore 4, 2)) (hn : 5 < M.2.2.1) (ho : tp_c1 a3 = true) (kk : tp_Run l G M R Q k n h (pc + 2) (a0 :: a1 :: a2 :: a3 :: some (.double x) :: none :: L) st) : tp_Run l G M R Q k n h pc (a0 :: a1 :: a2 :: a3 :: b :: b2 :: L) (.double x :: st) := r_dstore_g (j := 4) hd hn ho kk
theorem r_dload5 {a0 a1 a2 a3 a4 : Option Value} {x : UInt64} (hd : decode M.2.1 pc = .ok (.dload 5, 2)) (kk : tp_Run l G M R Q k n h (pc + 2) (a0 :: a1 :: a2 :: a3 :: a4 :: some (.double x) :: L) (.double x :: st)) : tp_Run l G M R Q k n h pc (a0 :: a1 :: a2 :: a3 :: a4 :: some (.double x) :: L) st := r_dload_g (j := 5) hd rfl kk
theorem r_dstore5 {a0 a1 a2 a3 a4 : Option Value} {b b2 : Option Value} {x : UInt64} (hd : decode M.2.1 pc = .ok (.dstore 5, 2)) (hn : 6 < M.2.2.1) (ho : tp_c1 a4 = true) (kk : tp_Run l G M R Q k n h (pc + 2) (a0 :: a1 :: a2 :: a3 :: a4 :: some (.double x) :: none :: L) st) : tp_Run l G M R Q k n h pc (a0 :: a1 :: a2 :: a3 :: a4 :: b :: b2 :: L) (.double x :: st) := r_dstore_g (j := 5) hd hn ho kk
theorem r_dload6 {a0 a1 a2 a3 a4 a5 : Option Value} {x : UInt64} (hd : decode M.2.1 pc = .ok (.dload 6, 2)) (kk : tp_Run l G M R Q k n h (pc + 2) (a0 :: a1 :: a2 :: a3 :: a4 :: a5 :: some (.double x) :: L) (.double x :: st)) : tp_Run l G M R Q k n h pc (a0 :: a1 :: a2 :: a3 :: a4 :: a5 :: some (.double x) :: L) st := r_dload_g (j := 6) hd rfl kk
theorem r_dstore6 {a0 a1 a2 a3 a4 a5 : Option Value} {b b2 : Option Value} {x : UInt64} (hd : decode M.2.1 pc = .ok (.dstore 6, 2)) (hn : 7 < M.2.2.1) (ho : tp_c1 a5 = true) (kk : tp_Run l G M R Q k n h (pc + 2) (a0 :: a1 :: a2 :: a3 :: a4 :: a5 :: some (.double x) :: none :: L) st) : tp_Run l G M R Q k n h pc (a0 :: a1 :: a2 :: a3 :: a4 :: a5 :: b :: b2 :: L) (.double x :: st) := r_dstore_g (j := 6) hd hn ho kk
theorem r_dload7 {a0 a1 a2 a3 a4 a5 a6 : Option Value} {x : UInt64} (hd : decode M.2.1 pc = .ok (.dload 7, 2)) (kk : tp_Run l G M R Q k n h (pc + 2) (a0 :: a1 :: a2 :: a3 :: a4 :: a5 :: a6 :: some (.double x) :: L) (.double x :: st)) : tp_Run l G M R Q k n h pc (a0 :: a1 :: a2 :: a3 :: a4 :: a5 :: a6 :: some (.double x) :: L) st := r_dload_g (j := 7) hd rfl kk
theorem r_dstore7 {a0 a1 a2 a3 a4 a5 a6 : Option Value} {b b2 : Option Value} {x : UInt64} (hd : decode M.2.1 pc = .ok (.dstore 7, 2)) (hn : 8 < M.2.2.1) (ho : tp_c1 a6 = true) (kk : tp_Run l G M R Q k n h (pc + 2) (a0 :: a1 :: a2 :: a3 :: a4 :: a5 :: a6 :: some (.double x) :: none :: L) st) : tp_Run l G M R Q k n h pc (a0 :: a1 :: a2 :: a3 :: a4 :: a5 :: a6 :: b :: b2 :: L) (.double x :: st) := r_dstore_g (j := 7) hd hn ho kk
theorem r_dload8 {a0 a1 a2 a3 a4 a5 a6 a7 : Option Value} {x : UInt64} (hd : decode M.2.1 pc = .ok (.dload 8, 2)) (kk : tp_Run l G M R Q k n h (pc + 2) (a0 :: a1 :: a2 :: a3 :: a4 :: a5 :: a6 :: a7 :: some (.double x) :: L) (.double x :: st)) : tp_Run l G M R Q k n h pc (a0 :: a1 :: a2 :: a3 :: a4 :: a5 :: a6 :: a7 :: some (.double x) :: L) st := r_dload_g (j := 8) hd rfl kk
theorem r_dstore8 {a0 a1 a2 a3 a4 a5 a6 a7 : Option Value} {b b2 : Option Value} {x : UInt64} (hd : decode M.2.1 pc = .ok (.dstore 8, 2)) (hn : 9 < M.2.2.1) (ho : tp_c1 a7 = true) (kk : tp_Run l G M R Q k n h (pc + 2) (a0 :: a1 :: a2 :: a3 :: a4 :: a5 :: a6 :: a7 :: some (.double x) :: none :: L) st) : tp_Run l G M R Q k n h pc (a0 :: a1 :: a2 :: a3 :: a4 :: a5 :: a6 :: a7 :: b :: b2 :: L) (.double x :: st) := r_dstore_g (j := 8) hd hn ho kk
theorem tp_pr_at {L : List (Option Value)} {j : Nat} {v : Value} (h : L[j]? = some (some v)) : ∃ i : Nat, (tp_pr 0 L)[i]? = some (j, v) := List.getElem?_of_mem ((tp_pr_mem L 0).mpr ⟨Nat.zero_le _, h⟩)
theorem r_iinc_g {j : Nat} {z : Int} {x v : Int32} (hd : decode M.2.1 pc = .ok (.iinc j z, 3)) (hL : L[j]? = some (some (.int x))) (hv : x + Int32.ofInt z = v) (hn : j < M.2.2.1) (ho : tp_ok L j = true) (kk : tp_Run l G M R Q k n h (pc + 3) (L.set j (some (.int v))) st) : tp_Run l G M R Q k n h pc L st := by
  intro p e s m args below meth c A H locs ls hR hS hl
  obtain ⟨i, hi⟩ := tp_pr_at hL
  exact lv_iinc A.hx A.hb hd hl hi hv hn rfl (fun ls9 hl9 => kk p e s m args below meth c A H locs ls9 hR hS (tp_has hl9 (fun i v q => tp_set1 ho i v q)))
theorem r_iinc1 {a0 : Option Value} {z : Int} {x v : Int32} (hd : decode M.2.1 pc = .ok (.iinc 1 z, 3)) (hn : 1 < M.2.2.1) (ho : tp_c1 a0 = true) (hv : x + Int32.ofInt z = v) (kk : tp_Run l G M R Q k n h (pc + 3) (a0 :: some (.int v) :: L) st) : tp_Run l G M R Q k n h pc (a0 :: some (.int x) :: L) st := r_iinc_g (j := 1) hd rfl hv hn ho kk
theorem r_iinc2 {a0 a1 : Option Value} {z : Int} {x v : Int32} (hd : decode M.2.1 pc = .ok (.iinc 2 z, 3)) (hn : 2 < M.2.2.1) (ho : tp_c1 a1 = true) (hv : x + Int32.ofInt z = v) (kk : tp_Run l G M R Q k n h (pc + 3) (a0 :: a1 :: some (.int v) :: L) st) : tp_Run l G M R Q k n h pc (a0 :: a1 :: some (.int x) :: L) st := r_iinc_g (j := 2) hd rfl hv hn ho kk
theorem r_iinc3 {a0 a1 a2 : Option Value} {z : Int} {x v : Int32} (hd : decode M.2.1 pc = .ok (.iinc 3 z, 3)) (hn : 3 < M.2.2.1) (ho : tp_c1 a2 = true) (hv : x + Int32.ofInt z = v) (kk : tp_Run l G M R Q k n h (pc + 3) (a0 :: a1 :: a2 :: some (.int v) :: L) st) : tp_Run l G M R Q k n h pc (a0 :: a1 :: a2 :: some (.int x) :: L) st := r_iinc_g (j := 3) hd rfl hv hn ho kk
theorem r_iinc4 {a0 a1 a2 a3 : Option Value} {z : Int} {x v : Int32} (hd : decode M.2.1 pc = .ok (.iinc 4 z, 3)) (hn : 4 < M.2.2.1) (ho : tp_c1 a3 = true) (hv : x + Int32.ofInt z = v) (kk : tp_Run l G M R Q k n h (pc + 3) (a0 :: a1 :: a2 :: a3 :: some (.int v) :: L) st) : tp_Run l G M R Q k n h pc (a0 :: a1 :: a2 :: a3 :: some (.int x) :: L) st := r_iinc_g (j := 4) hd rfl hv hn ho kk
theorem r_iinc5 {a0 a1 a2 a3 a4 : Option Value} {z : Int} {x v : Int32} (hd : decode M.2.1 pc = .ok (.iinc 5 z, 3)) (hn : 5 < M.2.2.1) (ho : tp_c1 a4 = true) (hv : x + Int32.ofInt z = v) (kk : tp_Run l G M R Q k n h (pc + 3) (a0 :: a1 :: a2 :: a3 :: a4 :: some (.int v) :: L) st) : tp_Run l G M R Q k n h pc (a0 :: a1 :: a2 :: a3 :: a4 :: some (.int x) :: L) st := r_iinc_g (j := 5) hd rfl hv hn ho kk
theorem r_iinc6 {a0 a1 a2 a3 a4 a5 : Option Value} {z : Int} {x v : Int32} (hd : decode M.2.1 pc = .ok (.iinc 6 z, 3)) (hn : 6 < M.2.2.1) (ho : tp_c1 a5 = true) (hv : x + Int32.ofInt z = v) (kk : tp_Run l G M R Q k n h (pc + 3) (a0 :: a1 :: a2 :: a3 :: a4 :: a5 :: some (.int v) :: L) st) : tp_Run l G M R Q k n h pc (a0 :: a1 :: a2 :: a3 :: a4 :: a5 :: some (.int x) :: L) st := r_iinc_g (j := 6) hd rfl hv hn ho kk
theorem r_iinc7 {a0 a1 a2 a3 a4 a5 a6 : Option Value} {z : Int} {x v : Int32} (hd : decode M.2.1 pc = .ok (.iinc 7 z, 3)) (hn : 7 < M.2.2.1) (ho : tp_c1 a6 = true) (hv : x + Int32.ofInt z = v) (kk : tp_Run l G M R Q k n h (pc + 3) (a0 :: a1 :: a2 :: a3 :: a4 :: a5 :: a6 :: some (.int v) :: L) st) : tp_Run l G M R Q k n h pc (a0 :: a1 :: a2 :: a3 :: a4 :: a5 :: a6 :: some (.int x) :: L) st := r_iinc_g (j := 7) hd rfl hv hn ho kk
theorem r_iinc8 {a0 a1 a2 a3 a4 a5 a6 a7 : Option Value} {z : Int} {x v : Int32} (hd : decode M.2.1 pc = .ok (.iinc 8 z, 3)) (hn : 8 < M.2.2.1) (ho : tp_c1 a7 = true) (hv : x + Int32.ofInt z = v) (kk : tp_Run l G M R Q k n h (pc + 3) (a0 :: a1 :: a2 :: a3 :: a4 :: a5 :: a6 :: a7 :: some (.int v) :: L) st) : tp_Run l G M R Q k n h pc (a0 :: a1 :: a2 :: a3 :: a4 :: a5 :: a6 :: a7 :: some (.int x) :: L) st := r_iinc_g (j := 8) hd rfl hv hn ho kk
end TPR
end
section
section TPH
variable {l : Launch} {G : tp_G} {M : tp_M} {R : Room} {Q : tp_Q} {k n : Nat} {h : tp_H} {pc : Nat} {L : List (Option Value)} {st : List Value}
theorem tp_up_s {f : Nat → Option va_E} {a : Nat} {e : va_E} : tp_up f a e a = some e := if_pos rfl
theorem tp_up_n {f : Nat → Option va_E} {a q : Nat} {e : va_E} (hq : q ≠ a) : tp_up f a e q = f q := if_neg hq
theorem tp_Rep.lt {H : Heap} (hR : tp_Rep G h H) {a : Nat} {e : va_E} (ha : h.2 a = some e) : a < h.1 := by
  rw [← hR.1]; exact (hR.2.2 a e ha).2.lt
/-- one cell written, all others kept -/
theorem tp_Rep.set {H H1 : Heap} (hR : tp_Rep G h H) {a : Nat} {e : va_E} (hA : G.2.1 ≤ a) (he : va_at G.1 vwCl (a, e) H1) (z : H1.size = H.size) (o : ∀ q : Nat, q ≠ a → H1[q]? = H[q]?) : tp_Rep G (h.1, tp_up h.2 a e) H1 := by
  refine ⟨z.trans hR.1, hR.2.1, fun q x hq => ?_⟩
  by_cases hqa : q = a
  · subst hqa
    have hq : tp_up h.2 q e q = some x := hq
    rw [tp_up_s] at hq
    cases hq
    exact ⟨hA, he⟩
  · have hq : tp_up h.2 a e q = some x := hq
    rw [tp_up_n hqa] at hq
    obtain ⟨h1, h2⟩ := hR.2.2 q x hq
    exact ⟨h1, h2.kept (o q hqa)⟩
/-- one cell made at the end -/
theorem tp_Rep.push {H H1 : Heap} (hR : tp_Rep G h H) {e : va_E} (he : va_at G.1 vwCl (h.1, e) H1) (z : H1.size = h.1 + 1) (o : ∀ q : Nat, q < h.1 → H1[q]? = H[q]?) : tp_Rep G (h.1 + 1, tp_up h.2 h.1 e) H1 := by
  refine ⟨z, Nat.le_succ_of_le hR.2.1, fun q x hq => ?_⟩
  by_cases hqa : q = h.1
  · subst hqa
    have hq : tp_up h.2 h.1 e h.1 = some x := hq
    rw [tp_up_s] at hq
    cases hq
    exact ⟨hR.2.1, he⟩
  · have hq : tp_up h.2 h.1 e q = some x := hq
    rw [tp_up_n hqa] at hq
    obtain ⟨h1, h2⟩ := hR.2.2 q x hq
    exact ⟨h1, h2.kept (o q (hR.lt hq))⟩
theorem tp_Sput {H0 H H1 : Heap} {locs : List Loc} (hS : va_S (tp_A G) H0 H locs) {a i : Nat} (hA : G.2.1 ≤ a) (z : H1.size = H.size) (o : ∀ q : Nat, q ≠ a → H1[q]? = H[q]?) : va_S (tp_A G) H0 H1 (locs ++ [⟨a, i⟩]) := hS.put z o hA
theorem tp_Spush {H0 H H1 : Heap} {locs : List Loc} (hS : va_S (tp_A G) H0 H locs) (z : H1.size = H.size + 1) (o : ∀ q : Nat, q < H.size → H1[q]? = H[q]?) : va_S (tp_A G) H0 H1 locs :=
  ⟨Nat.le_trans hS.1 (by omega), fun q h1 h2 => (o q (Nat.lt_of_lt_of_le h1 hS.1)).trans (hS.2.1 q h1 h2), hS.2.2⟩
/-- a field's link: the class of number ci, its field k -/
def tp_FL (own : String) (ix ci j : Nat) : Prop := ∃ (C : String) (T : u_T) (N : Nat) (ty0 : Nat → FieldType), vwCl[ci]? = some (C, T, N) ∧ j < N ∧ (T j).1 = C ∧ Cond.fieldLink own ix (T j).1 (T j).2.1 (T j).2.2.1 ∈ tp_all ∧ (∀ w ∈ u_ws C T N, w ∈ tp_all) ∧ (∀ j, j < N → parseFieldDescriptor (T j).2.2.1 = some (ty0 j)) ∧ (∀ a, a < N → ∀ b, b < N → a ≠ b → (T a).2.1 ≠ (T b).2.1)
/-- .. and the field's type, and whether it is final -/
def tp_FT (ci j : Nat) (ty : FieldType) (fin : Bool) : Prop := ∃ r : vw_C, vwCl[ci]? = some r ∧ parseFieldDescriptor (r.2.1 j).2.2.1 = some ty ∧ (r.2.1 j).2.2.2 = fin
theorem r_getf {ix ci j a : Nat} {fs : List Value} {v : Value} (hd : decode M.2.1 pc = .ok (.getfield ix, 3)) (hf : tp_FL M.1.cls ix ci j) (hc : h.2 a = some (.inr (ci, fs))) (hv : fs[j]? = some v) (kk : tp_Run l G M R Q k n h (pc + 3) L (v :: st)) : tp_Run l G M R Q k n h pc L (.ref a :: st) := by
  intro p e s m args below meth c A H locs ls hR hS hl
  obtain ⟨C, T, N, ty0, h1, h2, h3, h4, h5, h6, h7⟩ := hf
  have hP : va_P G.1 vwCl [(a, .inr (ci, fs))] H := fun i q hq => by
    have hi : i = 0 := by
      have := (List.getElem?_eq_some_iff.mp hq).1
      simp at this
      exact this
    subst hi
    cases hq
    exact (hR.2.2 a _ hc).2
  exact va_get A.hx A.hb A.hts h5 A.hown A.hK hP 0 rfl h1 j h2 (A.hts _ h4) (fun _ q => q) hv hd (kk p e s m args below meth c A H locs ls hR hS hl)
theorem r_putf {ix ci j a : Nat} {fs : List Value} {v : Value} {ty : FieldType} (hd : decode M.2.1 pc = .ok (.putfield ix, 3)) (hf : tp_FL M.1.cls ix ci j) (ht : tp_FT ci j ty false) (hc : h.2 a = some (.inr (ci, fs))) (hj : j < fs.length) (hn : narrow ty v = v) (hfit : fits ty v = true) (kk : tp_Run l G M R Q k n (h.1, tp_up h.2 a (.inr (ci, fs.set j v))) (pc + 3) L st) : tp_Run l G M R Q k n h pc L (v :: .ref a :: st) := by
  intro p e s m args below meth c A H locs ls hR hS hl
  obtain ⟨C, T, N, ty0, h1, h2, h3, h4, h5, h6, h7⟩ := hf
  obtain ⟨r, t1, t2, t3⟩ := ht
  cases h1.symm.trans t1
  obtain ⟨hAa, hat⟩ := hR.2.2 a _ hc
  obtain ⟨r9, g1, cell, q1, q2, q3, q4⟩ := hat
  cases h1.symm.trans g1
  have hap := va_apart (own := M.1.cls) A.hts h5 ty0 h6 h7 A.hK h1
  obtain ⟨hSl, hfc, kC, hkC, hkind⟩ := A.hK.1 ci _ h1
  obtain ⟨cf, kf, fi, f, hi, hsl⟩ := hSl j h2
  have hlay := A.hts _ (h5 _ (u_in_lay h2))
  unfold u_lay at hlay
  rw [if_neg (by rw [t3]; decide)] at hlay
  have hst := (u_facts hfc hkC (u_lays A.hts h5 h2) hi).1
  have h9 := u_store hfc hkC hkind hlay hi t2 hn hfit
  refine W.putK A.hx A.hb (f := f) ⟨A.hown, A.hts _ h4, ⟨_, _, _, hi⟩, hst⟩ (by rw [q2]; exact h9) q1 q3 (by rw [hsl]; exact k2_hasslot (q4 j h2)) rfl rfl hd fun H' e1 e2 e3 => ?_
  rw [hsl] at e1 ⊢
  exact kk p e s m args below meth c A H' _ ls (hR.set hAa ⟨_, h1, t_OB.to (V := updV (vp_V fs) j v) ⟨_, e1, q2, q3, t_set q4 hap h2 v⟩ (fun i _ => vp_updV_set hj v i)⟩ e2 e3) (tp_Sput hS hAa e2 e3) hl
theorem r_putF {ix ci j a : Nat} {fs : List Value} {v : Value} {ty : FieldType} (hd : decode M.2.1 pc = .ok (.putfield ix, 3)) (hf : tp_FL M.1.cls ix ci j) (ht : tp_FT ci j ty true) (hin : M.1.name = "<init>") (hdecl : (vwCl[ci]?).map (·.1) = some M.1.cls) (hc : h.2 a = some (.inr (ci, fs))) (hj : j < fs.length) (hn : narrow ty v = v) (hfit : fits ty v = true) (kk : tp_Run l G M R Q k n (h.1, tp_up h.2 a (.inr (ci, fs.set j v))) (pc + 3) L st) : tp_Run l G M R Q k n h pc L (v :: .ref a :: st) := by
  intro p e s m args below meth c A H locs ls hR hS hl
  obtain ⟨C, T, N, ty0, h1, h2, h3, h4, h5, h6, h7⟩ := hf
  obtain ⟨r, t1, t2, t3⟩ := ht
  cases h1.symm.trans t1
  obtain ⟨hAa, hat⟩ := hR.2.2 a _ hc
  obtain ⟨r9, g1, cell, q1, q2, q3, q4⟩ := hat
  cases h1.symm.trans g1
  have hap := va_apart (own := M.1.cls) A.hts h5 ty0 h6 h7 A.hK h1
  obtain ⟨hSl, hfc, kC, hkC, hkind⟩ := A.hK.1 ci _ h1
  obtain ⟨cf, kf, fi, f, hi, hsl⟩ := hSl j h2
  have hlay := A.hts _ (h5 _ (u_in_lay h2))
  unfold u_lay at hlay
  rw [if_pos t3] at hlay
  have hst := (u_facts hfc hkC (u_lays A.hts h5 h2) hi).1
  have hcf : m.cls = cf := by
    obtain ⟨_, _, c', _, _, _, -, -, hf', -, -, -, hown2, -⟩ := Cond.laysFinal_spec hlay
    have e1 : c' = cf := by have := hi.symm.trans hf'; simp at this; exact this.1.symm
    have hC : (T j).1 = M.1.cls := by
      rw [h3]
      rw [h1] at hdecl
      exact Option.some.inj hdecl
    rw [hC] at hown2
    rw [← e1]; exact Option.some.inj (A.hown.symm.trans hown2)
  have h9 := u_fits hfc hkC hkind (Or.inr hlay) hi t2 hn hfit
  refine W.putFinK A.hx A.hb A.hown (A.hts _ h4) hi hst hcf (A.hnm.trans hin) (by rw [q2]; exact h9) q1 q3 (by rw [hsl]; exact k2_hasslot (q4 j h2)) rfl rfl hd fun H' e1 e2 e3 => ?_
  rw [hsl] at e1 ⊢
  exact kk p e s m args below meth c A H' _ ls (hR.set hAa ⟨_, h1, t_OB.to (V := updV (vp_V fs) j v) ⟨_, e1, q2, q3, t_set q4 hap h2 v⟩ (fun i _ => vp_updV_set hj v i)⟩ e2 e3) (tp_Sput hS hAa e2 e3) hl
/-- a new object -/
def tp_NL (own : String) (ix ci : Nat) : Prop := ∃ (C : String) (T : u_T) (N : Nat) (ty0 : Nat → FieldType), vwCl[ci]? = some (C, T, N) ∧ Cond.classLink own ix C ∈ tp_all ∧ Cond.instantiable C N ∈ tp_all ∧ Cond.initialized C ∈ tp_all ∧ (∀ w ∈ u_ws C T N, w ∈ tp_all) ∧ (∀ j, j < N → parseFieldDescriptor (T j).2.2.1 = some (ty0 j))
theorem r_new {ix ci N : Nat} {fs : List Value} (hd : decode M.2.1 pc = .ok (.new ix, 3)) (hf : tp_NL M.1.cls ix ci) (hN : (vwCl[ci]?).map (·.2.2) = some N) (hfs : ∀ r, vwCl[ci]? = some r → ∀ j, j < N → ∀ ty, parseFieldDescriptor (r.2.1 j).2.2.1 = some ty → defaultValue ty = vp_V fs j) (hk : k + 1 ≤ R.cells ∧ n + N ≤ R.slots) (kk : (∀ a e, h.2 a = some e → a < h.1) → tp_Run l G M R Q (k + 1) (n + N) (h.1 + 1, tp_up h.2 h.1 (.inr (ci, fs))) (pc + 3) L (.ref h.1 :: st)) : tp_Run l G M R Q k n h pc L st := by
  intro p e s m args below meth c A H locs ls hR hS hl
  obtain ⟨C, T, N', ty0, h1, h2, h3, h4, h5, h6⟩ := hf
  rw [h1] at hN
  cases hN
  have hKn := A.hK.1 ci _ h1
  refine W.newcK A.hx A.hb A.hown (A.hts _ h2) (A.hts _ h3) (A.hts _ h4) rfl hd hk.1 hk.2 hKn.2.1 hR.1 fun H1 kC hkC e1 z1 o1 => ?_
  exact kk (fun a x hx => hR.lt hx) p e s m args below meth c A H1 locs ls (hR.push ⟨_, h1, (u_born ty0 A.hts h5 hKn hkC e1 h6).to (fun j hj => hfs _ h1 j hj _ (h6 j hj))⟩ z1 o1) (tp_Spush hS (by rw [hR.1]; exact z1) (by rw [hR.1]; exact o1)) hl
theorem tp_ty_at {G : tp_G} {t : Nat} (ht : t < 7) : (tp_Tys G)[t]? = some (G.2.2.1 t, tp_ty t) := by
  match t, ht with
  | 0, _ => rfl
  | 1, _ => rfl
  | 2, _ => rfl
  | 3, _ => rfl
  | 4, _ => rfl
  | 5, _ => rfl
  | 6, _ => rfl
/-- arrays: cells .inl (class, length, contents) -/
theorem tp_sing {H : Heap} (hR : tp_Rep G h H) {a : Nat} {e : va_E} (hc : h.2 a = some e) : va_P G.1 vwCl [(a, e)] H := fun i q hq => by
  have hi : i = 0 := by
    have := (List.getElem?_eq_some_iff.mp hq).1
    simp at this
    exact this
  subst hi
  cases hq
  exact (hR.2.2 a _ hc).2
theorem tp_inI {i N : Nat} (h : i < N) (hN : N < 2 ^ 31) : vp_in (nI i) N := vp_in_nI h hN
theorem r_iald {a i N : Nat} {f : Nat → Int32} {x : Int32} (hd : decode M.2.1 pc = .ok (.iaload, 1)) (hc : h.2 a = some (.inl (G.2.2.1 0, N, .inl f))) (hx : x = nI i) (hi : i < N) (hN : N < 2 ^ 31) (kk : tp_Run l G M R Q k n h (pc + 1) L (.int (f i) :: st)) : tp_Run l G M R Q k n h pc L (.int x :: .ref a :: st) := by
  intro p e s m args below meth c A H locs ls hR hS hl
  subst hx
  have e1 : (nI i).toNatClampNeg = i := nI_clamp (Nat.lt_trans hi hN)
  exact va_iald A.hx A.hb A.hK (tp_sing hR hc) 0 0 rfl rfl (tp_inI hi hN) hd (by rw [e1]; exact kk p e s m args below meth c A H locs ls hR hS hl)
theorem r_lald {a i N : Nat} {f : Nat → Int64} {x : Int32} (hd : decode M.2.1 pc = .ok (.laload, 1)) (hc : h.2 a = some (.inl (G.2.2.1 1, N, .inr (.inl f)))) (hx : x = nI i) (hi : i < N) (hN : N < 2 ^ 31) (kk : tp_Run l G M R Q k n h (pc + 1) L (.long (f i) :: st)) : tp_Run l G M R Q k n h pc L (.int x :: .ref a :: st) := by
  intro p e s m args below meth c A H locs ls hR hS hl
  subst hx
  have e1 : (nI i).toNatClampNeg = i := nI_clamp (Nat.lt_trans hi hN)
  exact va_lald A.hx A.hb A.hK (tp_sing hR hc) 0 1 rfl rfl (tp_inI hi hN) hd (by rw [e1]; exact kk p e s m args below meth c A H locs ls hR hS hl)
theorem r_dald {a i N : Nat} {f : Nat → UInt64} {x : Int32} (hd : decode M.2.1 pc = .ok (.daload, 1)) (hc : h.2 a = some (.inl (G.2.2.1 2, N, .inr (.inr (.inr (.inl f)))))) (hx : x = nI i) (hi : i < N) (hN : N < 2 ^ 31) (kk : tp_Run l G M R Q k n h (pc + 1) L (.double (f i) :: st)) : tp_Run l G M R Q k n h pc L (.int x :: .ref a :: st) := by
  intro p e s m args below meth c A H locs ls hR hS hl
  subst hx
  have e1 : (nI i).toNatClampNeg = i := nI_clamp (Nat.lt_trans hi hN)
  exact va_dald A.hx A.hb A.hK (tp_sing hR hc) 0 2 rfl rfl (tp_inI hi hN) hd (by rw [e1]; exact kk p e s m args below meth c A H locs ls hR hS hl)
theorem r_aald {a i N t : Nat} {f : Nat → Option Nat} {x : Int32} (hd : decode M.2.1 pc = .ok (.aaload, 1)) (ht : 3 ≤ t ∧ t < 7) (hc : h.2 a = some (.inl (G.2.2.1 t, N, .inr (.inr (.inr (.inr f)))))) (hx : x = nI i) (hi : i < N) (hN : N < 2 ^ 31) {b : Nat} (hb : f i = some b) (kk : tp_Run l G M R Q k n h (pc + 1) L (.ref b :: st)) : tp_Run l G M R Q k n h pc L (.int x :: .ref a :: st) := by
  intro p e s m args below meth c A H locs ls hR hS hl
  subst hx
  have e1 : (nI i).toNatClampNeg = i := nI_clamp (Nat.lt_trans hi hN)
  obtain ⟨C, hC⟩ : ∃ C, tp_ty t = .object C := by
    match t, ht with
    | 3, _ => exact ⟨_, rfl⟩
    | 4, _ => exact ⟨_, rfl⟩
    | 5, _ => exact ⟨_, rfl⟩
    | 6, _ => exact ⟨_, rfl⟩
  refine va_aldq (C := C) A.hx A.hb A.hK (tp_sing hR hc) 0 t rfl (by rw [tp_ty_at ht.2, hC]) (tp_inI hi hN) hd ?_
  rw [e1, hb]
  exact kk p e s m args below meth c A H locs ls hR hS hl
theorem r_alen {a t : Nat} {x : vp_A} (hd : decode M.2.1 pc = .ok (.arraylength, 1)) (ht : t < 7) (hc : h.2 a = some (.inl (G.2.2.1 t, x))) (kk : tp_Run l G M R Q k n h (pc + 1) L (.int (nI x.1) :: st)) : tp_Run l G M R Q k n h pc L (.ref a :: st) := by
  intro p e s m args below meth c A H locs ls hR hS hl
  exact va_alen A.hx A.hb A.hK (tp_sing hR hc) 0 t rfl (tp_ty_at ht) rfl hd (kk p e s m args below meth c A H locs ls hR hS hl)
theorem r_iast {a i N : Nat} {f : Nat → Int32} {x y : Int32} (hd : decode M.2.1 pc = .ok (.iastore, 1)) (hc : h.2 a = some (.inl (G.2.2.1 0, N, .inl f))) (hx : x = nI i) (hi : i < N) (hN : N < 2 ^ 31) (kk : tp_Run l G M R Q k n (h.1, tp_up h.2 a (.inl (G.2.2.1 0, N, .inl (va_up f i y)))) (pc + 1) L st) : tp_Run l G M R Q k n h pc L (.int y :: .int x :: .ref a :: st) := by
  intro p e s m args below meth c A H locs ls hR hS hl
  subst hx
  have e1 : (nI i).toNatClampNeg = i := nI_clamp (Nat.lt_trans hi hN)
  obtain ⟨hAa, hat⟩ := hR.2.2 a _ hc
  refine W.iast A.hx A.hb hat ((A.hK.2 0 _ rfl).1 N (fun j => .int (f j))) (fun q => by cases q) (by show ¬ (nI i < 0 ∨ (arrV _ _ _).slots.size ≤ _); rw [arrV_size]; exact tp_inI hi hN) rfl rfl hd fun H1 e z oq => ?_
  refine kk p _ s m args below meth c A H1 _ ls (hR.set hAa ?_ z oq) (tp_Sput hS hAa z oq) hl
  show H1[a]? = some (vp_cell _ _)
  rw [e, e1]
  rw [vp_cell_i, vp_cell_i, arrV_store]
  congr 2
  funext q
  by_cases hq : q = i
  · subst hq
    simp [updV, va_up]
  · simp [updV, va_up, hq]
theorem r_last {a i N : Nat} {f : Nat → Int64} {x : Int32} {y : Int64} (hd : decode M.2.1 pc = .ok (.lastore, 1)) (hc : h.2 a = some (.inl (G.2.2.1 1, N, .inr (.inl f)))) (hx : x = nI i) (hi : i < N) (hN : N < 2 ^ 31) (kk : tp_Run l G M R Q k n (h.1, tp_up h.2 a (.inl (G.2.2.1 1, N, .inr (.inl (va_up f i y))))) (pc + 1) L st) : tp_Run l G M R Q k n h pc L (.long y :: .int x :: .ref a :: st) := by
  intro p e s m args below meth c A H locs ls hR hS hl
  subst hx
  have e1 : (nI i).toNatClampNeg = i := nI_clamp (Nat.lt_trans hi hN)
  obtain ⟨hAa, hat⟩ := hR.2.2 a _ hc
  refine W.last A.hx A.hb hat ((A.hK.2 1 _ rfl).1 N (fun j => .long (f j))) (fun q => by cases q) (by show ¬ (nI i < 0 ∨ (arrV _ _ _).slots.size ≤ _); rw [arrV_size]; exact tp_inI hi hN) rfl rfl hd fun H1 e z oq => ?_
  refine kk p _ s m args below meth c A H1 _ ls (hR.set hAa ?_ z oq) (tp_Sput hS hAa z oq) hl
  show H1[a]? = some (vp_cell _ _)
  rw [e, e1]
  rw [vp_cell_l, vp_cell_l, arrV_store]
  congr 2
  funext q
  by_cases hq : q = i
  · subst hq
    simp [updV, va_up]
  · simp [updV, va_up, hq]
theorem r_dast {a i N : Nat} {f : Nat → UInt64} {x : Int32} {y : UInt64} (hd : decode M.2.1 pc = .ok (.dastore, 1)) (hc : h.2 a = some (.inl (G.2.2.1 2, N, .inr (.inr (.inr (.inl f)))))) (hx : x = nI i) (hi : i < N) (hN : N < 2 ^ 31) (kk : tp_Run l G M R Q k n (h.1, tp_up h.2 a (.inl (G.2.2.1 2, N, .inr (.inr (.inr (.inl (va_up f i y))))))) (pc + 1) L st) : tp_Run l G M R Q k n h pc L (.double y :: .int x :: .ref a :: st) := by
  intro p e s m args below meth c A H locs ls hR hS hl
  subst hx
  have e1 : (nI i).toNatClampNeg = i := nI_clamp (Nat.lt_trans hi hN)
  obtain ⟨hAa, hat⟩ := hR.2.2 a _ hc
  refine W.dast A.hx A.hb hat ((A.hK.2 2 _ rfl).1 N (fun j => .double (f j))) (fun q => by cases q) (by show ¬ (nI i < 0 ∨ (arrV _ _ _).slots.size ≤ _); rw [arrV_size]; exact tp_inI hi hN) rfl rfl hd fun H1 e z oq => ?_
  refine kk p _ s m args below meth c A H1 _ ls (hR.set hAa ?_ z oq) (tp_Sput hS hAa z oq) hl
  show H1[a]? = some (vp_cell _ _)
  rw [e, e1]
  rw [vp_cell_d, vp_cell_d, arrV_store]
  congr 2
  funext q
  by_cases hq : q = i
  · subst hq
    simp [updV, va_up]
  · simp [updV, va_up, hq]
theorem r_aast {a b i N t ci : Nat} {f : Nat → Option Nat} {fs : List Value} {x : Int32} (hd : decode M.2.1 pc = .ok (.aastore, 1)) (ht : t < 7) (hc : h.2 a = some (.inl (G.2.2.1 t, N, .inr (.inr (.inr (.inr f)))))) (hb : h.2 b = some (.inr (ci, fs))) (hci : (vwCl[ci]?).map (fun r => FieldType.object r.1) = some (tp_ty t)) (hx : x = nI i) (hi : i < N) (hN : N < 2 ^ 31) (kk : tp_Run l G M R Q k n (h.1, tp_up h.2 a (.inl (G.2.2.1 t, N, .inr (.inr (.inr (.inr (va_up f i (some b)))))))) (pc + 1) L st) : tp_Run l G M R Q k n h pc L (.ref b :: .int x :: .ref a :: st) := by
  intro p e s m args below meth c A H locs ls hR hS hl
  subst hx
  have e1 : (nI i).toNatClampNeg = i := nI_clamp (Nat.lt_trans hi hN)
  obtain ⟨hAa, hat⟩ := hR.2.2 a _ hc
  obtain ⟨hAb, r', hr', cellV, g1, g2, g3, -⟩ := hR.2.2 b _ hb
  have hcls := (A.hK.1 ci r' hr').2
  rw [hr'] at hci
  have hty : FieldType.object r'.1 = tp_ty t := Option.some.inj hci
  have hKt := (A.hK.2 t _ (tp_ty_at ht)).2
  rw [show (G.2.2.1 t, tp_ty t).2 = FieldType.object r'.1 from hty.symm] at hKt
  obtain ⟨kA, comp, k1, k2, k3, -⟩ := hKt
  have hcomp : comp = G.1.1 ci := Option.some.inj (k3.symm.trans hcls.1)
  subst hcomp
  obtain ⟨kC, hkC, -⟩ := hcls.2
  have hlt : (nI i).toNatClampNeg < N := by rw [e1]; exact hi
  refine W.aast A.hx A.hb hat (fun q h => by cases h) (fun h => by cases h) k1 k2 rfl hkC ⟨fun q => tp_inI hi hN (Or.inl q), by show _ < (arrV _ _ _).slots.size; rw [arrV_size]; exact hlt⟩ g1 (fun q h => by rw [g3] at h; cases h) (by rw [g2]; exact hkC) (by rw [g2]; exact va_assign hcls) rfl rfl hd fun H1 e z oq => ?_
  refine kk p _ s m args below meth c A H1 _ ls (hR.set hAa ?_ z oq) (tp_Sput hS hAa z oq) hl
  show H1[a]? = some (vp_cell _ _)
  rw [e, e1]
  rw [vp_cell_q, vp_cell_q, arrV_store]
  congr 2
  funext q
  by_cases hq : q = i
  · subst hq
    simp [updV, va_up, va_rf]
  · simp [updV, va_up, hq]
end TPH
end
section
section TPC
variable {l : Launch} {G : tp_G} {M : tp_M} {R : Room} {Q : tp_Q} {k n : Nat} {h : tp_H} {pc : Nat} {L : List (Option Value)} {st : List Value}
def tp_sl : List Value → List (Option Value)
  | [] => []
  | v :: vs => if v.category = 2 then some v :: none :: tp_sl vs else some v :: tp_sl vs
def tp_lo (As : List Value) (n : Nat) : List (Option Value) := tp_sl As ++ List.replicate (n - (tp_sl As).length) none
theorem tp_sl_args {v : Value} : ∀ (As : List Value) (i j : Nat), (tp_sl As)[i]? = some (some v) → (j + i, v) ∈ lv_args j As
  | [], i, j, h => by simp [tp_sl] at h
  | w :: vs, i, j, h => by
    rw [tp_sl] at h
    rw [lv_args]
    by_cases hw : w.category = 2
    · rw [if_pos hw] at h
      rw [if_pos hw]
      match i, h with
      | 0, h => simp at h; rw [h]; exact List.mem_cons_self
      | 1, h => simp at h
      | i + 2, h =>
        have := tp_sl_args vs i (j + 2) (by simpa using h)
        rw [show j + (i + 2) = j + 2 + i by omega]
        exact List.mem_cons_of_mem _ this
    · rw [if_neg hw] at h
      rw [if_neg hw]
      match i, h with
      | 0, h => simp at h; rw [h]; exact List.mem_cons_self
      | i + 1, h =>
        have := tp_sl_args vs i (j + 1) (by simpa using h)
        rw [show j + (i + 1) = j + 1 + i by omega]
        exact List.mem_cons_of_mem _ this
theorem tp_lo_at {As : List Value} {n i : Nat} {v : Value} (h : (tp_lo As n)[i]? = some (some v)) : (i, v) ∈ lv_args 0 As := by
  unfold tp_lo at h
  by_cases hi : i < (tp_sl As).length
  · rw [List.getElem?_append_left hi] at h
    have := tp_sl_args As i 0 h
    rwa [Nat.zero_add] at this
  · rw [List.getElem?_append_right (by omega), List.getElem?_replicate] at h
    split at h <;> cases h
theorem tp_Kcall {G : tp_G} {As : List Value} {h : tp_H} : FrameBlind (tp_Pc G As h) := fun a U g mk q => ⟨q.1, q.2.1, va_K.moved (u := U) (U := U.calling g mk a) (Vm.Alike.refl U.vm) q.2.2.1, tp_Fx.moved (State.WarmedH.refl U) q.2.2.2⟩
/-- a method's start -/
theorem tp_start {mc ms : Nat} {As : List Value} {Post : Option Value → tp_H → Prop} {PX : String → tp_H → Prop} (hy : plainName M.1.cls = true) (hh : M.2.2.2.2.2.2 = []) (hl : l.stackTraces = false) (hlen : (lg_sl As).length ≤ M.2.2.1) {L0 : List (Option Value)} (hL : tp_lo As M.2.2.1 = L0)
    (kk : tp_Run l G M (tp_rm M mc ms) (tp_QM G mc ms Post PX) 0 0 h 0 L0 []) : tp_Met l G M mc ms As h Post PX := by
  have hcw : tp_cw M = .code M.1 M.2.1 M.2.2.1 M.2.2.2.1 := by unfold tp_cw; rw [hh]
  refine vx_ofW (ws' := tp_all) hy (by unfold tp_ws; rw [hcw]) ?_
  intro p e s m args below meth c s₁ B hml ht hv
  obtain ⟨rfl, hR, hK, hF⟩ := hv
  have hts := atoms_spec (ws := tp_ws M) B.pre
  have hle := lv_entry As hlen
  rw [lg_entry_eq]
  generalize (lg_sl As ++ List.replicate (M.2.2.1 - (lg_sl As).length) Slot.unset).toArray = ls at hle ⊢
  have htb : c.exceptionTable.toList = tableOf M.2.2.2.2.2.2 := by
    rw [hh]
    cases hz : c.exceptionTable.toList with
    | nil => rfl
    | cons x r => exact (ht x (by rw [hz]; exact List.mem_cons_self)).elim
  exact kk p e s m As.toArray below meth c ⟨B.exec, B.bytes, hml, B.returns, findClass_of_methodNamed B.named, fun w hw => hts w (List.mem_cons_of_mem _ hw), B.notSynchronized, hK, hF, (name_of_methodNamed B.named B.method).1, htb, hl⟩ s.heap [] ls hR va_S.rf (tp_has hle (fun i v q => tp_lo_at (by rw [hL]; exact q)))
theorem tp_startW {mc ms : Nat} {As : List Value} {Post : Option Value → tp_H → Prop} {PX : String → tp_H → Prop} {x : Nat × Nat × Nat × Nat} {xs : List (Nat × Nat × Nat × Nat)} (hy : plainName M.1.cls = true) (hh : M.2.2.2.2.2.2 = x :: xs) (hl : l.stackTraces = false) (hlen : (lg_sl As).length ≤ M.2.2.1) {L0 : List (Option Value)} (hL : tp_lo As M.2.2.1 = L0)
    (kk : tp_Run l G M (tp_rm M mc ms) (tp_QM G mc ms Post PX) 0 0 h 0 L0 []) : tp_Met l G M mc ms As h Post PX := by
  have hcw : tp_cw M = .codeWith M.1 M.2.1 M.2.2.1 M.2.2.2.1 M.2.2.2.2.2.2 := by unfold tp_cw; rw [hh]
  refine vx_ofWH (ws' := tp_all) hy (by unfold tp_ws; rw [hcw]) ?_
  intro p e s m args below meth c s₁ B hml hv
  obtain ⟨rfl, hR, hK, hF⟩ := hv
  have hts := atoms_spec (ws := tp_ws M) B.pre
  have hle := lv_entry As hlen
  rw [lg_entry_eq]
  generalize (lg_sl As ++ List.replicate (M.2.2.1 - (lg_sl As).length) Slot.unset).toArray = ls at hle ⊢
  have htb : c.exceptionTable.toList = tableOf M.2.2.2.2.2.2 := vx_table (x := M.1) B (hts _ (by unfold tp_ws; rw [hcw]; exact List.mem_cons_self))
  exact kk p e s m As.toArray below meth c ⟨B.exec, B.bytes, hml, B.returns, findClass_of_methodNamed B.named, fun w hw => hts w (List.mem_cons_of_mem _ hw), B.notSynchronized, hK, hF, (name_of_methodNamed B.named B.method).1, htb, hl⟩ s.heap [] ls hR va_S.rf (tp_has hle (fun i v q => tp_lo_at (by rw [hL]; exact q)))
/-- ends -/
theorem r_iret {mc ms : Nat} {Post : Option Value → tp_H → Prop} {PX : String → tp_H → Prop} {x : Int32} (hd : decode M.2.1 pc = .ok (.ireturn, 1)) (hr : M.2.2.2.1 = some .int) (hk : k ≤ mc ∧ n ≤ ms) (hp : Post (some (.int x)) h) : tp_Run l G M R (tp_QM G mc ms Post PX) k n h pc L [.int x] := by
  intro p e s m args below meth c A H locs ls hR hS hl
  exact W.widen hk.1 hk.2 (vx_ret (W.iret A.hx A.hb (A.hr.trans hr) (fun t ht hW => ⟨⟨_, h, rfl, hp, by rw [ht]; exact hR⟩, hS.F ht⟩) hS.2.2 hd A.hlk))
theorem r_zret {mc ms : Nat} {Post : Option Value → tp_H → Prop} {PX : String → tp_H → Prop} {x : Int32} (hd : decode M.2.1 pc = .ok (.ireturn, 1)) (hr : M.2.2.2.1 = some .boolean) (hk : k ≤ mc ∧ n ≤ ms) (hn : narrow .boolean (.int x) = .int x) (hp : Post (some (.int x)) h) : tp_Run l G M R (tp_QM G mc ms Post PX) k n h pc L [.int x] := by
  intro p e s m args below meth c A H locs ls hR hS hl
  exact W.widen hk.1 hk.2 (vx_ret (W.zret A.hx A.hb (A.hr.trans hr) hn (fun t ht hW => ⟨⟨_, h, rfl, hp, by rw [ht]; exact hR⟩, hS.F ht⟩) hS.2.2 hd A.hlk))
theorem r_lret {mc ms : Nat} {Post : Option Value → tp_H → Prop} {PX : String → tp_H → Prop} {x : Int64} (hd : decode M.2.1 pc = .ok (.lreturn, 1)) (hr : M.2.2.2.1 = some .long) (hk : k ≤ mc ∧ n ≤ ms) (hp : Post (some (.long x)) h) : tp_Run l G M R (tp_QM G mc ms Post PX) k n h pc L [.long x] := by
  intro p e s m args below meth c A H locs ls hR hS hl
  exact W.widen hk.1 hk.2 (vx_ret (W.lret A.hx A.hb (A.hr.trans hr) (fun t ht hW => ⟨⟨_, h, rfl, hp, by rw [ht]; exact hR⟩, hS.F ht⟩) hS.2.2 hd A.hlk))
theorem r_dret {mc ms : Nat} {Post : Option Value → tp_H → Prop} {PX : String → tp_H → Prop} {x : UInt64} (hd : decode M.2.1 pc = .ok (.dreturn, 1)) (hr : M.2.2.2.1 = some .double) (hk : k ≤ mc ∧ n ≤ ms) (hp : Post (some (.double x)) h) : tp_Run l G M R (tp_QM G mc ms Post PX) k n h pc L [.double x] := by
  intro p e s m args below meth c A H locs ls hR hS hl
  exact W.widen hk.1 hk.2 (vx_ret (W.dret A.hx A.hb (A.hr.trans hr) (fun t ht hW => ⟨⟨_, h, rfl, hp, by rw [ht]; exact hR⟩, hS.F ht⟩) hS.2.2 hd A.hlk))
theorem r_vret {mc ms : Nat} {Post : Option Value → tp_H → Prop} {PX : String → tp_H → Prop} (hd : decode M.2.1 pc = .ok (.return_, 1)) (hr : M.2.2.2.1 = none) (hk : k ≤ mc ∧ n ≤ ms) (hp : Post none h) : tp_Run l G M R (tp_QM G mc ms Post PX) k n h pc L [] := by
  intro p e s m args below meth c A H locs ls hR hS hl
  exact W.widen hk.1 hk.2 (vx_ret (W.vret A.hx A.hb (A.hr.trans hr) (fun t ht hW => ⟨⟨_, h, rfl, hp, by rw [ht]; exact hR⟩, hS.F ht⟩) hS.2.2 hd A.hlk))
theorem r_aret {mc ms : Nat} {Post : Option Value → tp_H → Prop} {PX : String → tp_H → Prop} {C : String} {a : Nat} (hd : decode M.2.1 pc = .ok (.areturn, 1)) (hr : M.2.2.2.1 = some (.object C)) (hk : k ≤ mc ∧ n ≤ ms) (hp : Post (some (.ref a)) h) : tp_Run l G M R (tp_QM G mc ms Post PX) k n h pc L [.ref a] := by
  intro p e s m args below meth c A H locs ls hR hS hl
  exact W.widen hk.1 hk.2 (vx_ret (W.aret A.hx A.hb (A.hr.trans hr) (Or.inl ⟨C, rfl⟩) (Or.inr ⟨a, rfl⟩) (fun t ht hW => ⟨⟨_, h, rfl, hp, by rw [ht]; exact hR⟩, hS.F ht⟩) hS.2.2 hd A.hlk))
/-- calls: the words -/
def tp_CW (own : String) (ix : Nat) (M' : tp_M) (nA : Nat) : Prop := Cond.methodLink own ix M'.1 ∈ tp_all ∧ tp_cw M' ∈ tp_all ∧ Cond.initialized M'.1.cls ∈ tp_all ∧ (M'.1.cls ≠ "java/lang/invoke/MethodHandle" ∧ M'.1.cls ≠ "java/lang/invoke/VarHandle") ∧ (parseMethodDescriptor M'.1.desc).map (fun d => d.parameters.length) = some nA
def tp_CV (own : String) (ix : Nat) (M' : tp_M) (nA : Nat) : Prop := tp_CW own ix M' nA ∧ Cond.instanceMethod M'.1 ∈ tp_all ∧ Cond.selects M'.1.cls M'.1 M'.1 ∈ tp_all
def tp_CS (own : String) (ix : Nat) (M' : tp_M) (nA : Nat) : Prop := tp_CW own ix M' nA ∧ Cond.static M'.1 ∈ tp_all
def tp_CI (own : String) (ix : Nat) (M' : tp_M) (nA : Nat) : Prop := tp_CW own ix M' nA ∧ M'.1.name = "<init>" ∧ M'.2.2.2.1 = none ∧ Cond.instanceMethod M'.1 ∈ tp_all
def tp_RM (R : Room) (M' : tp_M) : Prop := M'.2.2.2.2.1 + 1 ≤ R.frames ∧ 8 + (M'.2.2.1 + 11) + M'.2.2.2.2.2.1 ≤ R.locals
theorem tp_callB {s : State} {args : Array Value} {own : String} {ix nA mc ms : Nat} {M' : tp_M} (hts : ∀ w ∈ tp_all, w.before args s = true) (hc : tp_CW own ix M' nA) (hh : M'.2.2.2.2.2.2 = []) (hr : tp_RM R M') : CallB R s args own ix M'.1 M'.2.1 M'.2.2.1 M'.2.2.2.1 (tp_ws M') (tp_rm M' mc ms) mc ms nA := by
  obtain ⟨c1, c2, c3, c4, c5⟩ := hc
  have hcw : tp_cw M' = .code M'.1 M'.2.1 M'.2.2.1 M'.2.2.2.1 := by unfold tp_cw; rw [hh]
  refine callB_of (ws' := tp_all) nA hts (tp_allIn ?_) (by unfold tp_ws; rw [hcw]) rfl rfl (hts _ c3) (hts _ c1) ⟨c4.1, c4.2, c5⟩ hr
  intro w hw
  rcases List.mem_cons.mp hw with rfl | hw
  · exact c2
  · exact hw
/-- what comes back from a call -/
theorem tp_back {mc' ms' : Nat} {As rest st0 : List Value} {Post' : Option Value → tp_H → Prop} {PX' : String → tp_H → Prop} {p : Program} {e : Env} {s : State} {m : MethodId} {args : Array Value} {below : List Frame} {meth : Method} {c : Code} {H : Heap} {locs : List Loc} {ls : Array Slot} (A : tp_Act l G M p s m args meth c) (hS : va_S (tp_A G) s.heap H locs) (hl : tp_Loc ls M.2.2.1 L)
    (hr : vx_Run p l e R s m args below meth c H locs k n mc' ms' (F0 m pc ls st0) rest (tp_Qc G Post' As.toArray) (tp_XC G PX') (tp_A G))
    (kk : ∀ (r : Option Value) (h' : tp_H), Post' r h' → tp_Run l G M R Q (k + mc') (n + ms') h' (pc + 3) L (r.toList ++ rest))
    (kx : ∀ (E : String) (h' : tp_H), PX' E h' → tp_RunX l G M R Q (k + mc') (n + ms') h' pc L rest E) : W p l e R s m args below meth c H locs k n (Q below args s) (F0 m pc ls st0) := by
  intro T hT X
  rcases hr T hT X with ⟨v, st₀, t, T', Ls, h0, X', hL, e1, e2, ⟨⟨r, h', hv, hp, hR'⟩, hF⟩, stp⟩ | ⟨q, st₀, t, T', Ls, E, ce, h0, X', hL, e1, e2, ⟨⟨h', hp, hR'⟩, hF⟩, hce, hcv, hcl, stp⟩
  · cases hv
    obtain ⟨k1, k2, k3⟩ := vx_keep h0 e1 hS (fun q _ z => z) (fun q z => z) hL hF
    obtain ⟨t2, a1, b1⟩ := kk v h' hp p e s m args below meth c A T'.heap (locs ++ Ls) ls (by rw [e1]; exact hR') k3 hl T' rfl X'
    exact ⟨t2, stp t2 a1, b1⟩
  · obtain ⟨k1, k2, k3⟩ := vx_keep h0 e1 hS (fun q _ z => z) (fun q z => z) hL hF
    obtain ⟨t2, a1, b1⟩ := kx E h' hp p e s m args below meth c A T'.heap (locs ++ Ls) ls q ce (by rw [e1]; exact hR') k3 hl (by rw [e1]; exact hce) hcv hcl T' rfl X'
    exact ⟨t2, stp.trans a1, b1⟩
theorem tp_pre {As : List Value} {p : Program} {s : State} {m : MethodId} {args : Array Value} {meth : Method} {c : Code} {H : Heap} {locs : List Loc} (A : tp_Act l G M p s m args meth c) (hR : tp_Rep G h H) (hS : va_S (tp_A G) s.heap H locs) : ∀ U : State, U.heap = H → s.WarmedH U.vm → tp_Pc G As h As.toArray U := fun U hU hW =>
  ⟨rfl, by rw [hU]; exact hR, va_K.moved hW.alike A.hK, by rw [hU]; exact (tp_Fx.moved hW A.hF).kept hS.2.1⟩
theorem r_callV {M' : tp_M} {ix nA b ci mc' ms' : Nat} {As rest : List Value} {fs : List Value} {Post' : Option Value → tp_H → Prop} {PX' : String → tp_H → Prop} (hd : decode M.2.1 pc = .ok (.invokevirtual ix, 3)) (hc : tp_CV M.1.cls ix M' nA) (hM : tp_Met l G M' mc' ms' (.ref b :: As) h Post' PX') (hh : M'.2.2.2.2.2.2 = []) (hb : h.2 b = some (.inr (ci, fs))) (hci : (vwCl[ci]?).map (·.1) = some M'.1.cls) (hn : As.length = nA) (hst : st = As.reverse ++ .ref b :: rest) (hcat : (rest.map fun v => v.category).sum ≤ 8) (hrm : tp_RM R M') (hk : k + mc' ≤ R.cells ∧ n + ms' ≤ R.slots)
    (kk : ∀ (r : Option Value) (h' : tp_H), Post' r h' → tp_Run l G M R Q (k + mc') (n + ms') h' (pc + 3) L (r.toList ++ rest))
    (kx : ∀ (E : String) (h' : tp_H), PX' E h' → tp_RunX l G M R Q (k + mc') (n + ms') h' pc L rest E) : tp_Run l G M R Q k n h pc L st := by
  subst hst
  intro p e s m args below meth c A H locs ls hR hS hl
  obtain ⟨c1, c2, c3⟩ := hc
  obtain ⟨-, r9, g0, cell, g1, g2, g3, -⟩ := hR.2.2 b _ hb
  rw [g0] at hci
  have hcls : r9.1 = M'.1.cls := Option.some.inj hci
  exact tp_back A hS hl (vx_runV (C := M'.1.cls) (As := As) (rest := rest) ⟨A.hx, A.hb, A.hml, A.hown, A.hts⟩ hM ⟨tp_callB A.hts c1 hh hrm, A.hts _ c2, A.hts _ c3⟩ ⟨tp_Kcall, ⟨cell, g1, by rw [g3]; rfl, by rw [g2, ← hcls]; exact (A.hK.1 ci r9 g0).2.1⟩, tp_pre A hR hS⟩ rfl hn hl.1 rfl (lv_room hcat) hd hk) kk kx
theorem r_callS {M' : tp_M} {ix nA mc' ms' : Nat} {As rest : List Value} {Post' : Option Value → tp_H → Prop} {PX' : String → tp_H → Prop} (hd : decode M.2.1 pc = .ok (.invokestatic ix, 3)) (hc : tp_CS M.1.cls ix M' nA) (hM : tp_Met l G M' mc' ms' As h Post' PX') (hh : M'.2.2.2.2.2.2 = []) (hn : As.length = nA) (hst : st = As.reverse ++ rest) (hcat : (rest.map fun v => v.category).sum ≤ 8) (hrm : tp_RM R M') (hk : k + mc' ≤ R.cells ∧ n + ms' ≤ R.slots)
    (kk : ∀ (r : Option Value) (h' : tp_H), Post' r h' → tp_Run l G M R Q (k + mc') (n + ms') h' (pc + 3) L (r.toList ++ rest))
    (kx : ∀ (E : String) (h' : tp_H), PX' E h' → tp_RunX l G M R Q (k + mc') (n + ms') h' pc L rest E) : tp_Run l G M R Q k n h pc L st := by
  subst hst
  intro p e s m args below meth c A H locs ls hR hS hl
  exact tp_back A hS hl (vx_runS (As := As) (rest := rest) ⟨A.hx, A.hb, A.hml, A.hown, A.hts⟩ hM ⟨tp_callB A.hts hc.1 hh hrm, A.hts _ hc.2⟩ ⟨tp_Kcall, tp_pre A hR hS⟩ rfl hn hl.1 rfl (lv_room hcat) hd hk) kk kx
theorem r_callI {M' : tp_M} {ix nA b mc' ms' : Nat} {As rest : List Value} {Post' : Option Value → tp_H → Prop} {PX' : String → tp_H → Prop} (hd : decode M.2.1 pc = .ok (.invokespecial ix, 3)) (hc : tp_CI M.1.cls ix M' nA) (hM : tp_Met l G M' mc' ms' (.ref b :: As) h Post' PX') (hh : M'.2.2.2.2.2.2 = []) (hn : As.length = nA) (hst : st = As.reverse ++ .ref b :: rest) (hcat : (rest.map fun v => v.category).sum ≤ 8) (hrm : tp_RM R M') (hk : k + mc' ≤ R.cells ∧ n + ms' ≤ R.slots)
    (kk : ∀ (r : Option Value) (h' : tp_H), Post' r h' → tp_Run l G M R Q (k + mc') (n + ms') h' (pc + 3) L (r.toList ++ rest))
    (kx : ∀ (E : String) (h' : tp_H), PX' E h' → tp_RunX l G M R Q (k + mc') (n + ms') h' pc L rest E) : tp_Run l G M R Q k n h pc L st := by
  subst hst
  intro p e s m args below meth c A H locs ls hR hS hl
  obtain ⟨c1, c2, c3, c4⟩ := hc
  have cb := tp_callB (mc := mc') (ms := ms') A.hts c1 hh hrm
  rw [c3] at cb
  exact tp_back A hS hl (vx_runI (As := As) (rest := rest) ⟨A.hx, A.hb, A.hml, A.hown, A.hts⟩ hM ⟨cb, c2, A.hts _ c4⟩ ⟨tp_Kcall, tp_pre A hR hS⟩ rfl hn hl.1 rfl (lv_room hcat) hd hk) kk kx
theorem r_callIN {M' : tp_M} {ix nA b mc' ms' : Nat} {host : String} {As rest : List Value} {Post' : Option Value → tp_H → Prop} {PX' : String → tp_H → Prop} (hd : decode M.2.1 pc = .ok (.invokespecial ix, 3)) (hl0 : Cond.methodLinkNest M.1.cls ix M'.1 host ∈ tp_nestC) (hc : tp_cw M' ∈ tp_all ∧ Cond.initialized M'.1.cls ∈ tp_all ∧ (M'.1.cls ≠ "java/lang/invoke/MethodHandle" ∧ M'.1.cls ≠ "java/lang/invoke/VarHandle") ∧ (parseMethodDescriptor M'.1.desc).map (fun d => d.parameters.length) = some nA ∧ M'.1.name = "<init>" ∧ M'.2.2.2.1 = none ∧ Cond.instanceMethod M'.1 ∈ tp_all) (hM : tp_Met l G M' mc' ms' (.ref b :: As) h Post' PX') (hh : M'.2.2.2.2.2.2 = []) (hn : As.length = nA) (hst : st = As.reverse ++ .ref b :: rest) (hcat : (rest.map fun v => v.category).sum ≤ 8) (hrm : tp_RM R M') (hk : k + mc' ≤ R.cells ∧ n + ms' ≤ R.slots)
    (kk : ∀ (r : Option Value) (h' : tp_H), Post' r h' → tp_Run l G M R Q (k + mc') (n + ms') h' (pc + 3) L (r.toList ++ rest))
    (kx : ∀ (E : String) (h' : tp_H), PX' E h' → tp_RunX l G M R Q (k + mc') (n + ms') h' pc L rest E) : tp_Run l G M R Q k n h pc L st := by
  subst hst
  intro p e s m args below meth c A H locs ls hR hS hl
  obtain ⟨c2, c3, c4, c5, c6, c7, c8⟩ := hc
  have hcw : tp_cw M' = .code M'.1 M'.2.1 M'.2.2.1 none := by unfold tp_cw; rw [hh, c7]
  have hws : ∀ w ∈ tp_ws M', w ∈ tp_all := by
    intro w hw
    rcases List.mem_cons.mp hw with rfl | hw
    · exact c2
    · exact hw
  have cn : va_CN R s args M.1.cls ix M'.1 host M'.2.1 M'.2.2.1 none (tp_ws M') (tp_rm M' mc' ms') mc' ms' nA :=
    va_cnB (ws' := tp_all) nA A.hts (tp_allIn hws) (by unfold tp_ws; rw [hcw]) rfl rfl (A.hF.2.2.2.2.1 _ hl0) (A.hts _ c3) ⟨c4.1, c4.2, c5⟩ hrm
  exact tp_back A hS hl (vx_runIN (As := As) (rest := rest) ⟨A.hx, A.hb, A.hml, A.hown, A.hts⟩ hM ⟨cn, c6, A.hts _ c8⟩ ⟨tp_Kcall, tp_pre A hR hS⟩ rfl hn hl.1 rfl (lv_room hcat) hd hk) kk kx
/-- not caught: it goes on to the caller -/
theorem r_outX {mc ms : Nat} {Post : Option Value → tp_H → Prop} {PX : String → tp_H → Prop} {E : String} (hh : M.2.2.2.2.2.2 = []) (hk : k ≤ mc ∧ n ≤ ms) (hp : PX E h) : tp_RunX l G M R (tp_QM G mc ms Post PX) k n h pc L st E := by
  intro p e s m args below meth c A H locs ls q ce hR hS hl hq hv hcl
  have htb : ∀ x ∈ c.exceptionTable.toList, covers x pc = false := by
    rw [A.htb, hh]
    intro x hx
    cases hx
  exact vx_out htb A.hlk hq hv hcl (fun t ht hv => ⟨⟨h, hp, by rw [ht]; exact hR⟩, hS.F ht⟩) hS.2.2 hk.1 hk.2
/-- caught by the row of number i of the table -/
theorem r_catch {E nm : String} {pre suf : List (Nat × Nat × Nat × Nat)} {x : Nat × Nat × Nat × Nat} (hsplit : M.2.2.2.2.2.2 = pre ++ x :: suf) {xe : ExceptionTableEntry} (htab : tableOf (pre ++ x :: suf) = tableOf pre ++ xe :: tableOf suf)
    (hpass : ∀ z ∈ tableOf pre, covers z pc = false ∨ (z.catchType ≠ 0 ∧ ∃ nm : String, Cond.classLink M.1.cls z.catchType nm ∈ tp_all ∧ (E, nm) ∈ tp_nocast)) (hx : covers xe pc = true) (h0 : xe.catchType ≠ 0) (hlink : Cond.classLink M.1.cls xe.catchType nm ∈ tp_all) (hcast : (E, nm) ∈ tp_cast)
    (kk : ∀ q : Nat, tp_Run l G M R Q k n h xe.handlerPc L [.ref q]) : tp_RunX l G M R Q k n h pc L st E := by
  intro p e s m args below meth c A H locs ls q ce hR hS hl hq hv hcl
  refine vx_catch A.hown (tableOf pre) xe (tableOf suf) (by rw [A.htb, hsplit, htab]) (fun z hz => ?_) hx h0 (A.hts _ hlink) (va_Nw.use rfl (A.hF.2.2.2.2.2.2.1 _ hcast)) hq hv hcl (kk q p e s m args below meth c A H locs ls hR hS hl)
  rcases hpass z hz with h1 | ⟨h1, nm', h2, h3⟩
  · exact Or.inl h1
  · exact Or.inr ⟨h1, nm', A.hts _ h2, A.hF.2.2.2.2.2.2.2.1 _ h3⟩
/-- 'throw new E(text)' -/
def tp_XN : List String := ["java/lang/RuntimeException", "java/lang/Exception"]
def tp_XL (own : String) (ik ic : Nat) (E : String) : Prop := Bundle.fit E = true ∧ Cond.classLink own ik E ∈ tp_all ∧ Cond.initialized E ∈ tp_all ∧ (∀ w ∈ (vx_atS own ic E tp_XN).filter goodWord, w ∈ tp_all) ∧ (∀ w ∈ (vx_atS own ic E tp_XN).filter (fun w => !goodWord w), w ∈ [Cond.castable E E]) ∧ (∀ w ∈ Cond.classLink own ik E :: Cond.initialized E :: vx_atS own ic E tp_XN, vx_ot w = true) ∧ (E, E) ∈ tp_cast
theorem r_throwS {mc ms ik is ic : Nat} {text E : String} {Post : Option Value → tp_H → Prop} {PX : String → tp_H → Prop} (hX : tp_XL RX5 ik ic E) (hown : M.1.cls = RX5) (htx : (is, text) ∈ tp_strs) (hh : M.2.2.2.2.2.2 = []) (hcat : (st.map fun v => v.category).sum + 82 ≤ R.locals) (hfr : 5 < R.frames) (hk : k + 1 ≤ R.cells ∧ n + 6 ≤ R.slots) (hk2 : k + 1 ≤ mc ∧ n + 6 ≤ ms)
    (d0 : decode M.2.1 pc = .ok (.new ik, 3)) (d3 : decode M.2.1 (pc + 3) = .ok (.dup, 1)) (d4 : decode M.2.1 (pc + 4) = .ok (.ldc is, 2)) (d6 : decode M.2.1 (pc + 6) = .ok (.invokespecial ic, 3)) (d9 : decode M.2.1 (pc + 9) = .ok (.athrow, 1))
    (hp : ∀ n', h.1 ≤ n' → PX E (n', h.2)) : tp_Run l G M R (tp_QM G mc ms Post PX) k n h pc L st := by
  intro p e s m args below meth c A H locs ls hR hS hl
  obtain ⟨x1, x2, x3, x4, x5, x6, x7⟩ := hX
  obtain ⟨sa, hsa⟩ := A.hF.2.2.2.1 _ htx
  have ho := A.hown
  rw [hown] at ho
  have htb : ∀ x ∈ c.exceptionTable.toList, covers x (pc + 9) = false := by
    rw [A.htb, hh]
    intro x hx
    cases hx
  exact vx_throwS (names := tp_XN) A.hx A.hb A.hfl ho x1 (by decide) (A.hts _ x2) (A.hts _ x3) hsa (vx_hat (fun w hw => A.hts w (x4 w hw)) x5 (vx_c (va_Nw.use rfl (A.hF.2.2.2.2.2.2.1 _ x7)) vx_n)) x6 A.hF.2.2.1.1 A.hF.2.2.1.2 hS (hl.1.trans A.hml.symm) d0 d3 d4 d6 d9 htb hfr (by exact hcat) hk.1 hk.2 A.hlk
    (fun t hv hz hq => ⟨⟨(t.heap.size, h.2), hp _ (by rw [← hR.1]; exact hz), rfl, Nat.le_trans hR.2.1 (by rw [← hR.1]; exact hz), fun a x hax => ⟨(hR.2.2 a x hax).1, (hR.2.2 a x hax).2.kept (hq a ((hR.2.2 a x hax).2.lt))⟩⟩, Nat.le_trans hS.1 hz, fun q h1 h2 => (hq q (Nat.lt_of_lt_of_le h1 hS.1)).trans (hS.2.1 q h1 h2)⟩) hS.2.2 hk2.1 hk2.2
theorem r_throwSW {mc ms ik is ic : Nat} {text E : String} {Post : Option Value → tp_H → Prop} {PX : String → tp_H → Prop} (hX : tp_XL RX5 ik ic E) (hown : M.1.cls = RX5) (htx : (is, text) ∈ tp_strs) (hh : M.2.2.2.2.2.2 = []) (hcat : (st.map fun v => v.category).sum + 82 ≤ R.locals) (hfr : 5 < R.frames) (hk : k + 1 ≤ R.cells ∧ n + 6 ≤ R.slots) (hk2 : k + 1 ≤ mc ∧ n + 6 ≤ ms)
    (d0 : decode M.2.1 pc = .ok (.new ik, 3)) (d3 : decode M.2.1 (pc + 3) = .ok (.dup, 1)) (d4 : decode M.2.1 (pc + 4) = .ok (.ldc_w is, 3)) (d6 : decode M.2.1 (pc + 7) = .ok (.invokespecial ic, 3)) (d9 : decode M.2.1 (pc + 10) = .ok (.athrow, 1))
    (hp : ∀ n', h.1 ≤ n' → PX E (n', h.2)) : tp_Run l G M R (tp_QM G mc ms Post PX) k n h pc L st := by
  intro p e s m args below meth c A H locs ls hR hS hl
  obtain ⟨x1, x2, x3, x4, x5, x6, x7⟩ := hX
  obtain ⟨sa, hsa⟩ := A.hF.2.2.2.1 _ htx
  have ho := A.hown
  rw [hown] at ho
  have htb : ∀ x ∈ c.exceptionTable.toList, covers x (pc + 10) = false := by
    rw [A.htb, hh]
    intro x hx
    cases hx
  exact vx_throwSW (names := tp_XN) A.hx A.hb A.hfl ho x1 (by decide) (A.hts _ x2) (A.hts _ x3) hsa (vx_hat (fun w hw => A.hts w (x4 w hw)) x5 (vx_c (va_Nw.use rfl (A.hF.2.2.2.2.2.2.1 _ x7)) vx_n)) x6 A.hF.2.2.1.1 A.hF.2.2.1.2 hS (hl.1.trans A.hml.symm) d0 d3 d4 d6 d9 htb hfr (by exact hcat) hk.1 hk.2 A.hlk
    (fun t hv hz hq => ⟨⟨(t.heap.size, h.2), hp _ (by rw [← hR.1]; exact hz), rfl, Nat.le_trans hR.2.1 (by rw [← hR.1]; exact hz), fun a x hax => ⟨(hR.2.2 a x hax).1, (hR.2.2 a x hax).2.kept (hq a ((hR.2.2 a x hax).2.lt))⟩⟩, Nat.le_trans hS.1 hz, fun q h1 h2 => (hq q (Nat.lt_of_lt_of_le h1 hS.1)).trans (hS.2.1 q h1 h2)⟩) hS.2.2 hk2.1 hk2.2
end TPC
end
section
section TPN
variable {l : Launch} {G : tp_G} {M : tp_M} {R : Room} {Q : tp_Q} {k n : Nat} {h : tp_H} {pc : Nat} {L : List (Option Value)} {st : List Value}
theorem r_newI {N : Nat} {x : Int32} (hd : decode M.2.1 pc = .ok (.newarray .int, 2)) (hw : Cond.arrayClass .int ∈ tp_all) (hx : x = nI N) (hN : N < 2 ^ 20) (hk : k + 1 ≤ R.cells ∧ n + N ≤ R.slots) (kk : (∀ a e, h.2 a = some e → a < h.1) → tp_Run l G M R Q (k + 1) (n + N) (h.1 + 1, tp_up h.2 h.1 (.inl (G.2.2.1 0, N, .inl (fun _ => 0)))) (pc + 2) L (.ref h.1 :: st)) : tp_Run l G M R Q k n h pc L (.int x :: st) := by
  intro p e s m args below meth c A H locs ls hR hS hl
  subst hx
  have hN2 : N < 2 ^ 31 := by omega
  refine va_newaK (atype := .int) A.hx A.hb (A.hts _ hw) rfl hd rfl (nI_pos hN2) (nI_clamp hN2) (by show N * 4 ≤ 536870912; omega) hk.1 hk.2 hR.1 fun H1 cA e1 z1 o1 hAr hNm => ?_
  have hc : cA = G.2.2.1 0 := Option.some.inj (hNm.symm.trans (A.hK.2 0 _ rfl).2)
  subst hc
  exact kk (fun a x hx => hR.lt hx) p e s m args below meth c A H1 locs ls (hR.push e1 z1 o1) (tp_Spush hS (by rw [hR.1]; exact z1) (by rw [hR.1]; exact o1)) hl
theorem r_newJ {N : Nat} {x : Int32} (hd : decode M.2.1 pc = .ok (.newarray .long, 2)) (hw : Cond.arrayClass .long ∈ tp_all) (hx : x = nI N) (hN : N < 2 ^ 20) (hk : k + 1 ≤ R.cells ∧ n + N ≤ R.slots) (kk : (∀ a e, h.2 a = some e → a < h.1) → tp_Run l G M R Q (k + 1) (n + N) (h.1 + 1, tp_up h.2 h.1 (.inl (G.2.2.1 1, N, .inr (.inl (fun _ => 0))))) (pc + 2) L (.ref h.1 :: st)) : tp_Run l G M R Q k n h pc L (.int x :: st) := by
  intro p e s m args below meth c A H locs ls hR hS hl
  subst hx
  have hN2 : N < 2 ^ 31 := by omega
  refine va_newaK (atype := .long) A.hx A.hb (A.hts _ hw) rfl hd rfl (nI_pos hN2) (nI_clamp hN2) (by show N * 8 ≤ 536870912; omega) hk.1 hk.2 hR.1 fun H1 cA e1 z1 o1 hAr hNm => ?_
  have hc : cA = G.2.2.1 1 := Option.some.inj (hNm.symm.trans (A.hK.2 1 _ rfl).2)
  subst hc
  exact kk (fun a x hx => hR.lt hx) p e s m args below meth c A H1 locs ls (hR.push e1 z1 o1) (tp_Spush hS (by rw [hR.1]; exact z1) (by rw [hR.1]; exact o1)) hl
theorem r_newD {N : Nat} {x : Int32} (hd : decode M.2.1 pc = .ok (.newarray .double, 2)) (hw : Cond.arrayClass .double ∈ tp_all) (hx : x = nI N) (hN : N < 2 ^ 20) (hk : k + 1 ≤ R.cells ∧ n + N ≤ R.slots) (kk : (∀ a e, h.2 a = some e → a < h.1) → tp_Run l G M R Q (k + 1) (n + N) (h.1 + 1, tp_up h.2 h.1 (.inl (G.2.2.1 2, N, .inr (.inr (.inr (.inl (fun _ => 0))))))) (pc + 2) L (.ref h.1 :: st)) : tp_Run l G M R Q k n h pc L (.int x :: st) := by
  intro p e s m args below meth c A H locs ls hR hS hl
  subst hx
  have hN2 : N < 2 ^ 31 := by omega
  refine va_newaK (atype := .double) A.hx A.hb (A.hts _ hw) rfl hd rfl (nI_pos hN2) (nI_clamp hN2) (by show N * 8 ≤ 536870912; omega) hk.1 hk.2 hR.1 fun H1 cA e1 z1 o1 hAr hNm => ?_
  have hc : cA = G.2.2.1 2 := Option.some.inj (hNm.symm.trans (A.hK.2 2 _ rfl).2)
  subst hc
  exact kk (fun a x hx => hR.lt hx) p e s m args below meth c A H1 locs ls (hR.push e1 z1 o1) (tp_Spush hS (by rw [hR.1]; exact z1) (by rw [hR.1]; exact o1)) hl
theorem r_newA {N ix t : Nat} {C : String} {x : Int32} (hd : decode M.2.1 pc = .ok (.anewarray ix, 3)) (hw : Cond.classLink M.1.cls ix C ∈ tp_all) (ho : C ∈ tp_over) (ht : t < 7) (hC : tp_ty t = .object C) (hx : x = nI N) (hN : N < 2 ^ 20) (hk : k + 1 ≤ R.cells ∧ n + N ≤ R.slots) (kk : (∀ a e, h.2 a = some e → a < h.1) → tp_Run l G M R Q (k + 1) (n + N) (h.1 + 1, tp_up h.2 h.1 (.inl (G.2.2.1 t, N, .inr (.inr (.inr (.inr (fun _ => none))))))) (pc + 3) L (.ref h.1 :: st)) : tp_Run l G M R Q k n h pc L (.int x :: st) := by
  intro p e s m args below meth c A H locs ls hR hS hl
  subst hx
  have hN2 : N < 2 ^ 31 := by omega
  have e0 : (nI N).toNatClampNeg = N := nI_clamp hN2
  refine W.anew A.hx A.hb A.hown (A.hts _ hw) (va_AO.use (A.hF.2.2.2.2.2.2.2.2 _ ho)) rfl hd rfl (nI_pos hN2) (by rw [e0]; omega) hk.1 (by rw [e0]; exact hk.2) fun cA kA comp f1 f2 f3 f4 => ?_
  rw [e0]
  have hKt := (A.hK.2 t _ (tp_ty_at ht)).2
  rw [show (G.2.2.1 t, tp_ty t).2 = FieldType.object C from hC] at hKt
  obtain ⟨kA', comp', k1, k2, k3, k4⟩ := hKt
  have hc : cA = G.2.2.1 t := Option.some.inj (f1.symm.trans k4)
  subst hc
  generalize hH1 : H.push ({ cls := G.2.2.1 t, slots := Array.replicate N .null, vm := .none } : Cell) = H1
  have z1 : H1.size = h.1 + 1 := by rw [← hH1, Array.size_push, hR.1]
  have e1 : H1[h.1]? = some (arrV (G.2.2.1 t) N (fun _ => .null)) := by rw [← hH1, ← hR.1, Array.getElem?_push_size, ← arrV_new]
  have o1 : ∀ q : Nat, q < h.1 → H1[q]? = H[q]? := fun q hq => by rw [← hH1, Array.getElem?_push, if_neg (by rw [hR.1]; exact Nat.ne_of_lt hq)]
  rw [hR.1]
  exact kk (fun a x hx => hR.lt hx) p e s m args below meth c A H1 locs ls (hR.push (by show H1[h.1]? = some (vp_cell _ _); rw [vp_cell_q]; exact e1) z1 o1) (tp_Spush hS (by rw [hR.1]; exact z1) (by rw [hR.1]; exact o1)) hl
/-- statics -/
theorem r_gets2 {ix : Nat} (hd : decode M.2.1 pc = .ok (.getstatic ix, 3)) (hw : Cond.fieldLink M.1.cls ix RX5 "MOST_SETTINGS" "[I" ∈ tp_all) (kk : tp_Run l G M R Q k n h (pc + 3) L (.ref (G.2.2.2 2) :: st)) : tp_Run l G M R Q k n h pc L st := by
  intro p e s m args below meth c A H locs ls hR hS hl
  exact va_gets A.hx A.hb A.hF.1.2.2 hS A.hown (A.hts _ hw) (fun _ q => q) hd (kk p e s m args below meth c A H locs ls hR hS hl)
theorem r_gets0 {ix : Nat} (hd : decode M.2.1 pc = .ok (.getstatic ix, 3)) (hw : Cond.fieldLinkNest M.1.cls ix "TravelPurses" "FIRST_SETTINGS" "[I" RX5 ∈ tp_nestF) (kk : tp_Run l G M R Q k n h (pc + 3) L (.ref (G.2.2.2 0) :: st)) : tp_Run l G M R Q k n h pc L st := by
  intro p e s m args below meth c A H locs ls hR hS hl
  exact va_getsN A.hx A.hb A.hF.1.1 hS A.hown (va_Nw.use rfl (A.hF.2.2.2.2.2.1 _ hw)) (fun _ q => q) hd (kk p e s m args below meth c A H locs ls hR hS hl)
theorem r_gets1 {ix : Nat} (hd : decode M.2.1 pc = .ok (.getstatic ix, 3)) (hw : Cond.fieldLinkNest M.1.cls ix "TravelPurses" "FIRST_RATES" "[I" RX5 ∈ tp_nestF) (kk : tp_Run l G M R Q k n h (pc + 3) L (.ref (G.2.2.2 1) :: st)) : tp_Run l G M R Q k n h pc L st := by
  intro p e s m args below meth c A H locs ls hR hS hl
  exact va_getsN A.hx A.hb A.hF.1.2.1 hS A.hown (va_Nw.use rfl (A.hF.2.2.2.2.2.1 _ hw)) (fun _ q => q) hd (kk p e s m args below meth c A H locs ls hR hS hl)
theorem r_tld {t i : Nat} {x : Int32} (hd : decode M.2.1 pc = .ok (.iaload, 1)) (ht : t < 3) (hx : x = nI i) (hi : i < 4) (kk : tp_Run l G M R Q k n h (pc + 1) L (.int (tp_st t i) :: st)) : tp_Run l G M R Q k n h pc L (.int x :: .ref (G.2.2.2 t) :: st) := by
  intro p e s m args below meth c A H locs ls hR hS hl
  subst hx
  exact va_ti A.hx A.hb (A.hF.2.1.1 t ht) hS (tp_inI hi (by omega)) (v := .int (tp_st t i)) (by rw [nI_clamp (by omega)]) hd (kk p e s m args below meth c A H locs ls hR hS hl)
/-- clone() of a static table -/
def tp_KL (own : String) (ix : Nat) : Prop := Cond.methodLink own ix ⟨"[I", "clone", "()Ljava/lang/Object;"⟩ ∈ tp_all ∧ Cond.sameMethod "[I" "java/lang/Object" "clone" "()Ljava/lang/Object;" ∈ tp_all ∧ Cond.native ⟨"java/lang/Object", "clone", "()Ljava/lang/Object;"⟩ ∈ tp_all ∧ Cond.instanceMethod ⟨"java/lang/Object", "clone", "()Ljava/lang/Object;"⟩ ∈ tp_all ∧ Cond.selects "[I" ⟨"[I", "clone", "()Ljava/lang/Object;"⟩ ⟨"java/lang/Object", "clone", "()Ljava/lang/Object;"⟩ ∈ tp_all
theorem r_cloneT {t ix : Nat} (hd : decode M.2.1 pc = .ok (.invokevirtual ix, 3)) (hw : tp_KL M.1.cls ix) (ht : t < 2) (hfr : 1 ≤ R.frames) (hlo : (st.map fun v => v.category).sum + 14 ≤ R.locals) (hk : k + 1 ≤ R.cells ∧ n + 4 ≤ R.slots) (kk : (∀ a e, h.2 a = some e → a < h.1) → tp_Run l G M R Q (k + 1) (n + 4) (h.1 + 1, tp_up h.2 h.1 (.inl (G.2.2.1 0, 4, .inl (tp_st t)))) (pc + 3) L (.ref h.1 :: st)) : tp_Run l G M R Q k n h pc L (.ref (G.2.2.2 t) :: st) := by
  intro p e s m args below meth c A H locs ls hR hS hl T hT X
  obtain ⟨w1, w2, w3, w4, w5⟩ := hw
  obtain ⟨cell, h1, h2, h3, h4, h5, h6, h7⟩ := (A.hF.2.1.2 t ht).kept hS.2.1
  have hcI : s.vm.findClass "[I" = some (G.2.2.1 0) := va_nm_int (A.hK.2 0 _ rfl).2
  have hce : cell.cls = G.2.2.1 0 := Option.some.inj (h4.symm.trans hcI)
  obtain ⟨c0, t0', f1, f2, f3⟩ := Cond.castable_spec (va_Nw.use (A := args) rfl (A.hF.2.2.2.2.2.2.1 ("[I", "java/lang/Cloneable") (by decide)))
  cases hcI.symm.trans f1
  obtain ⟨-, kA, hkA, comp, hkind⟩ := State.isArrayOf_alike X.warmed.alike ((A.hK.2 0 _ rfl).1 0 (fun _ => .null))
  obtain ⟨-, kS, hkS, compS, hkindS⟩ := (A.hK.2 0 _ rfl).1 0 (fun _ => .null)
  have hslots : cell.slots = (arrV (G.2.2.1 0) 4 (fun j => .int (tp_st t j))).slots := by
    apply Array.ext_getElem?
    intro i
    by_cases hi : i < 4
    · rw [h6 i hi, arrV_read _ _ hi]
    · rw [Array.getElem?_eq_none (by rw [h5]; omega), Array.getElem?_eq_none (by rw [arrV_size]; omega)]
  have hfit : ∀ (i : Nat) (v : Value), cell.slots[i]? = some v → fits .int v = true := by
    intro i v hv
    by_cases hi : i < 4
    · rw [h6 i hi] at hv
      cases hv
      rfl
    · rw [Array.getElem?_eq_none (by rw [h5]; omega)] at hv
      cases hv
  obtain ⟨vm', X', stp⟩ := X.cloneArray A.hx A.hown (A.hts _ w1) (A.hts _ w2) (A.hts _ w3) (A.hts _ w4) (A.hts _ w5) (a := G.2.2.2 t) (cell := cell) (by rw [hT]; exact h1) h2.1 h3 (by rw [hce]; exact hcI) f2 (by rw [hce]; exact f3)
    (fun i v hv => by
      rw [hce]
      have hk' : T.vm.classes[G.2.2.1 0]? = some kA := hkA
      have hkd : kA.kind = .array comp .int := hkind
      simpa [State.fitsSlot, State.slotType?, hk', hkd] using hfit i v hv)
    (g := F0 m pc ls (.ref (G.2.2.2 t) :: st)) rfl (by rw [hl.1, A.hml]) rfl (by rw [A.hb]; exact hd) hfr (by show 2 * 0 + _ + 14 ≤ _; omega) hk.1 (by rw [h5]; exact hk.2) (hloader := by rw [hce]; exact Vm.clonesLoader_of_array hkS hkindS)
  have hcellE : ({ cls := cell.cls, slots := cell.slots } : Cell) = arrV (G.2.2.1 0) 4 (fun j => .int (tp_st t j)) := by rw [hce, hslots]; rfl
  rw [hcellE, h5] at X'
  rw [hcellE] at stp
  generalize hH1 : H.push (arrV (G.2.2.1 0) 4 (fun j => .int (tp_st t j))) = H1
  have z1 : H1.size = h.1 + 1 := by rw [← hH1, Array.size_push, hR.1]
  have e1 : H1[h.1]? = some (arrV (G.2.2.1 0) 4 (fun j => .int (tp_st t j))) := by rw [← hH1, ← hR.1, Array.getElem?_push_size]
  have o1 : ∀ q : Nat, q < h.1 → H1[q]? = H[q]? := fun q hq => by rw [← hH1, Array.getElem?_push, if_neg (by rw [hR.1]; exact Nat.ne_of_lt hq)]
  obtain ⟨t2, b1, b2⟩ := kk (fun a x hx => hR.lt hx) p e s m args below meth c A H1 locs ls (hR.push e1 z1 o1) (tp_Spush hS (by rw [hR.1]; exact z1) (by rw [hR.1]; exact o1)) hl ((T.setVm vm').pushCell (arrV (G.2.2.1 0) 4 (fun j => .int (tp_st t j)))) (by rw [← hH1, ← hT]; rfl) X'
  refine ⟨t2, stp t2 ?_, b2⟩
  rw [hT, hR.1]
  exact b1
/-- checkcast of an int array to int[] -/
theorem r_castI {ix a : Nat} {x : vp_A} (hd : decode M.2.1 pc = .ok (.checkcast ix, 3)) (hw : Cond.classLink M.1.cls ix "[I" ∈ tp_all) (hc : h.2 a = some (.inl (G.2.2.1 0, x))) (kk : tp_Run l G M R Q k n h (pc + 3) L (.ref a :: st)) : tp_Run l G M R Q k n h pc L (.ref a :: st) := by
  intro p e s m args below meth c A H locs ls hR hS hl
  exact va_castA A.hx A.hb A.hown (A.hts _ hw) (tp_sing hR hc) 0 rfl (va_nm_int (A.hK.2 0 _ rfl).2) hd (kk p e s m args below meth c A H locs ls hR hS hl)
/-- Math.min -/
theorem r_min {ix : Nat} {x y : Int32} (hd : decode M.2.1 pc = .ok (.invokestatic ix, 3)) (hw : Cond.methodLink M.1.cls ix Lib.Math.min.name ∈ tp_all ∧ Cond.static Lib.Math.min.name ∈ tp_all ∧ Cond.initialized "java/lang/Math" ∈ tp_all ∧ Cond.code Lib.Math.min.name Lib.Math.min.code 2 (some .int) ∈ tp_all) (hfr : 1 ≤ R.frames) (hlo : (st.map fun v => v.category).sum + 13 ≤ R.locals) (hk : k ≤ R.cells ∧ n ≤ R.slots) (kk : tp_Run l G M R Q k n h (pc + 3) L (.int (if y < x then y else x) :: st)) : tp_Run l G M R Q k n h pc L (.int y :: .int x :: st) := by
  intro p e s m args below meth c A H locs ls hR hS hl
  exact va_mmin A.hx A.hb (by rw [hl.1, A.hml]) A.hown (A.hts _ hw.1) (A.hts _ hw.2.1) (A.hts _ hw.2.2.1) (A.hts _ hw.2.2.2) hfr hlo hk.1 hk.2 hd (kk p e s m args below meth c A H locs ls hR hS hl)
/-- Object.<init> -/
theorem r_objInit {ix a : Nat} (hd : decode M.2.1 pc = .ok (.invokespecial ix, 3)) (hw : Cond.methodLink M.1.cls ix objectInit ∈ tp_all ∧ Cond.instanceMethod objectInit ∈ tp_all ∧ Cond.code objectInit ⟨#[0xb1]⟩ 1 none ∈ tp_all) (hfr : 1 ≤ R.frames) (hlo : (st.map fun v => v.category).sum + 12 ≤ R.locals) (kk : tp_Run l G M R Q k n h (pc + 3) L st) : tp_Run l G M R Q k n h pc L (.ref a :: st) := by
  intro p e s m args below meth c A H locs ls hR hS hl
  exact W.objInit A.hx A.hb A.hown (A.hts _ hw.1) (A.hts _ hw.2.1) (A.hts _ hw.2.2) rfl (by rw [A.hml]; exact hl.1) rfl hd hfr (by show 2 * 0 + _ + 12 ≤ _; omega) (kk p e s m args below meth c A H locs ls hR hS hl)
/-- System.arraycopy of ints, whole array from 0 -/
theorem r_copyI {ix a0 a N : Nat} {f g : Nat → Int32} {y : Int32} (hd : decode M.2.1 pc = .ok (.invokestatic ix, 3)) (hw : Cond.methodLink M.1.cls ix arraycopyName ∈ tp_all ∧ Cond.native arraycopyName ∈ tp_all ∧ Cond.static arraycopyName ∈ tp_all ∧ Cond.initialized "java/lang/System" ∈ tp_all) (hc0 : h.2 a0 = some (.inl (G.2.2.1 0, N, .inl f))) (hc1 : h.2 a = some (.inl (G.2.2.1 0, N, .inl g))) (hy : y = nI N) (hN : N < 2 ^ 31) (hfr : 1 ≤ R.frames) (hlo : (st.map fun v => v.category).sum + (nativeFrameWords "java/lang/System" "arraycopy" 5 + 11) ≤ R.locals)
    (kk : tp_Run l G M R Q k n (h.1, tp_up h.2 a (.inl (G.2.2.1 0, N, .inl (va_cpy f g 0 0 N)))) (pc + 3) L st) : tp_Run l G M R Q k n h pc L (.int y :: .int 0 :: .ref a :: .int 0 :: .ref a0 :: st) := by
  intro p e s m args below meth c A H locs ls hR hS hl T hT X
  subst hy
  have e0 : (nI N).toNatClampNeg = N := nI_clamp hN
  have z0 : (0 : Int32).toNatClampNeg = 0 := by decide
  have hq0 : H[a0]? = some (vp_cell (G.2.2.1 0) (N, .inl f)) := (hR.2.2 a0 _ hc0).2
  obtain ⟨hAa, hq1⟩ := hR.2.2 a _ hc1
  have hq1 : H[a]? = some (vp_cell (G.2.2.1 0) (N, .inl g)) := hq1
  obtain ⟨-, k0, hk0, cm0, hkk0⟩ := (A.hK.2 0 _ rfl).1 N (fun j => .int (f j))
  obtain ⟨-, k1, hk1, cm1, hkk1⟩ := (A.hK.2 0 _ rfl).1 N (fun j => .int (g j))
  obtain ⟨vm', X', step⟩ := X.arraycopy A.hx A.hown (A.hts _ hw.1) (A.hts _ hw.2.1) (A.hts _ hw.2.2.1) (A.hts _ hw.2.2.2) (src := a0) (dst := a) (cs := vp_cell (G.2.2.1 0) (N, .inl f)) (cd := vp_cell (G.2.2.1 0) (N, .inl g)) (srcPos := 0) (destPos := 0) (n := nI N) (by rw [hT]; exact hq0) (by rw [hT]; exact hq1)
    (fun _ h => by cases h) (fun _ h => by cases h) (fun h => by cases h) (fun h => by cases h) hk0 hk1 hkk0 hkk1 (by simp [refKind]) (by decide) (by decide) (nI_pos hN)
    (by rw [nI_toInt hN]; show ¬ _ > ((arrV (G.2.2.1 0) N (fun j => .int (f j))).slots.size : Int); rw [arrV_size, show (0 : Int32).toInt = 0 from rfl]; omega)
    (by rw [nI_toInt hN]; show ¬ _ > ((arrV (G.2.2.1 0) N (fun j => .int (g j))).slots.size : Int); rw [arrV_size, show (0 : Int32).toInt = 0 from rfl]; omega)
    (fun vm₁ _ i hi => by
      rw [e0] at hi
      have e : (vp_cell (G.2.2.1 0) (N, .inl f)).slots.getD ((0 : Int32).toNatClampNeg + i) .null = .int (f i) := by
        show (arrV (G.2.2.1 0) N (fun j => .int (f j))).slots.getD _ _ = _
        rw [z0, Nat.zero_add, Array.getD_eq_getD_getElem?, arrV_read _ _ hi]
        rfl
      refine ⟨?_, ?_⟩
      · rw [e]
        rfl
      · rw [e]
        exact trivial)
    (g := F0 m pc ls (.int (nI N) :: .int 0 :: .ref a :: .int 0 :: .ref a0 :: st)) rfl (by rw [hl.1, A.hml]) (rest := st) rfl (by rw [A.hb]; exact hd) hfr (by show 2 * 0 + _ + _ ≤ _; omega)
  have e1 : copied (vp_cell (G.2.2.1 0) (N, .inl f)) (vp_cell (G.2.2.1 0) (N, .inl g)) 0 0 (nI N) = vp_cell (G.2.2.1 0) (N, .inl (va_cpy f g 0 0 N)) := by
    have := va_copied (fun z => Value.int z) (G.2.2.1 0) (G.2.2.1 0) (n0 := N) (n1 := N) (sp := 0) (dp := 0) (n := N) f g (by omega)
    unfold copied
    rw [e0, z0]
    exact this
  rw [e1] at X' step
  have hl9 : a < H.size := (Array.getElem?_eq_some_iff.mp hq1).1
  have hheap : ((T.setVm vm').setCell a (vp_cell (G.2.2.1 0) (N, .inl (va_cpy f g 0 0 N)))).heap = H.setIfInBounds a (vp_cell (G.2.2.1 0) (N, .inl (va_cpy f g 0 0 N))) := by rw [← hT]; rfl
  have oq : ∀ q : Nat, q ≠ a → (H.setIfInBounds a (vp_cell (G.2.2.1 0) (N, .inl (va_cpy f g 0 0 N))))[q]? = H[q]? := fun q hq => by simp [Array.getElem?_setIfInBounds, Ne.symm hq]
  obtain ⟨t2, b1, b2⟩ := kk p e s m args below meth c A _ _ ls (hR.set hAa (e := .inl (G.2.2.1 0, N, .inl (va_cpy f g 0 0 N))) (show (H.setIfInBounds a _)[a]? = some _ by simp [Array.getElem?_setIfInBounds, hl9]) (by simp) oq) ⟨by simp; exact hS.1, fun q g1 g2 => by
      rw [oq q (fun e => g2 (by rw [e]; exact hAa))]
      exact hS.2.1 q g1 g2, fun q hq => by
      rcases List.mem_append.mp hq with h | h
      · exact hS.2.2 q h
      · obtain ⟨z, -, hz⟩ := List.mem_map.mp h
        rw [← hz]
        exact hAa⟩ hl _ hheap X'
  exact ⟨t2, step t2 b1, b2⟩
end TPN
end
section
abbrev mX0_init : tp_M := (yX0_init, cX0_init, 2, none, 2, 42, [])
abbrev mX0_copyFrom : tp_M := (yX0_copyFrom, cX0_copyFrom, 3, none, 1, 26, [])
abbrev mX0_takeIn : tp_M := (yX0_takeIn, cX0_takeIn, 4, none, 1, 21, [])
abbrev mX0_takeBack : tp_M := (yX0_takeBack, cX0_takeBack, 4, some .int, 3, 65, [])
abbrev mX0_mayLoad : tp_M := (yX0_mayLoad, cX0_mayLoad, 3, some .boolean, 0, 0, [])
abbrev mX0_addLoad : tp_M := (yX0_addLoad, cX0_addLoad, 3, none, 2, 44, [])
abbrev mX0_payOut : tp_M := (yX0_payOut, cX0_payOut, 3, some .int, 0, 0, [])
abbrev mX0_freeOf : tp_M := (yX0_freeOf, cX0_freeOf, 2, some .int, 2, 44, [])
abbrev mX0_keptIn : tp_M := (yX0_keptIn, cX0_keptIn, 4, some .int, 1, 21, [])
abbrev mX0_isLocked : tp_M := (yX0_isLocked, cX0_isLocked, 2, some .boolean, 0, 0, [])
abbrev mX0_rateOf : tp_M := (yX0_rateOf, cX0_rateOf, 2, some .int, 1, 21, [])
abbrev mX0_isPair : tp_M := (yX0_isPair, cX0_isPair, 3, some .boolean, 0, 0, [])
abbrev mX0_grossOf : tp_M := (yX0_grossOf, cX0_grossOf, 5, some .long, 2, 42, [])
abbrev mX0_spreadOf : tp_M := (yX0_spreadOf, cX0_spreadOf, 3, some .int, 0, 0, [])
abbrev mX0_netOf : tp_M := (yX0_netOf, cX0_netOf, 6, some .int, 3, 66, [])
abbrev mX0_convert : tp_M := (yX0_convert, cX0_convert, 8, some .int, 3, 66, [])
abbrev mX0_exchangeReason : tp_M := (yX0_exchangeReason, cX0_exchangeReason, 4, some .int, 3, 65, [])
abbrev mX0_holdReason : tp_M := (yX0_holdReason, cX0_holdReason, 3, some .int, 3, 65, [])
abbrev mX0_closingReason : tp_M := (yX0_closingReason, cX0_closingReason, 3, some .int, 0, 0, [])
abbrev mX0_withTip : tp_M := (yX0_withTip, cX0_withTip, 2, some .int, 0, 0, [])
abbrev mX0_addHold : tp_M := (yX0_addHold, cX0_addHold, 4, some .int, 1, 21, [])
abbrev mX0_dropHold : tp_M := (yX0_dropHold, cX0_dropHold, 4, none, 0, 0, [])
abbrev mX0_dropOldHolds : tp_M := (yX0_dropOldHolds, cX0_dropOldHolds, 3, some .int, 1, 23, [])
abbrev mX0_addPayment : tp_M := (yX0_addPayment, cX0_addPayment, 4, some .int, 0, 0, [])
abbrev mX0_mayDispute : tp_M := (yX0_mayDispute, cX0_mayDispute, 2, some .boolean, 0, 0, [])
abbrev mX0_disputedPayments : tp_M := (yX0_disputedPayments, cX0_disputedPayments, 3, some .int, 0, 0, [])
abbrev mX0_creditIn : tp_M := (yX0_creditIn, cX0_creditIn, 4, some .int, 1, 21, [])
abbrev mX0_paidFrom : tp_M := (yX0_paidFrom, cX0_paidFrom, 4, some .int, 1, 21, [])
abbrev mX1_init : tp_M := (yX1_init, cX1_init, 1, none, 1, 20, [])
abbrev mX1_isIn : tp_M := (yX1_isIn, cX1_isIn, 2, some .boolean, 0, 0, [])
abbrev mX1_copyFrom : tp_M := (yX1_copyFrom, cX1_copyFrom, 2, none, 0, 0, [])
abbrev mX2_init : tp_M := (yX2_init, cX2_init, 1, none, 1, 20, [])
abbrev mX2_startOrder : tp_M := (yX2_startOrder, cX2_startOrder, 1, none, 0, 0, [])
abbrev mX2_isOrderWhole : tp_M := (yX2_isOrderWhole, cX2_isOrderWhole, 1, some .boolean, 0, 0, [])
abbrev mX2_reads : tp_M := (yX2_reads, cX2_reads, 2, some .boolean, 2, 42, [])
abbrev mX2_readsSign : tp_M := (yX2_readsSign, cX2_readsSign, 2, some .boolean, 0, 0, [])
abbrev mX2_digitsDue : tp_M := (yX2_digitsDue, cX2_digitsDue, 1, some .int, 0, 0, [])
abbrev mX2_readsDigit : tp_M := (yX2_readsDigit, cX2_readsDigit, 3, some .boolean, 0, 0, [])
abbrev mX2_readsAmount : tp_M := (yX2_readsAmount, cX2_readsAmount, 3, some .boolean, 1, 20, [])
abbrev mX3_init : tp_M := (yX3_init, cX3_init, 1, none, 1, 20, [])
abbrev mX3_isOutOf : tp_M := (yX3_isOutOf, cX3_isOutOf, 2, some .boolean, 0, 0, [])
abbrev mX3_copyFrom : tp_M := (yX3_copyFrom, cX3_copyFrom, 2, none, 0, 0, [])
abbrev mX4_init : tp_M := (yX4_init, cX4_init, 3, none, 1, 20, [])
abbrev mX4_copyFrom : tp_M := (yX4_copyFrom, cX4_copyFrom, 2, none, 0, 0, [])
abbrev mX5_init : tp_M := (yX5_init, cX5_init, 2, none, 3, 63, [])
abbrev mX5_load : tp_M := (yX5_load, cX5_load, 4, some .int, 7, 112, [])
abbrev mX5_quote : tp_M := (yX5_quote, cX5_quote, 4, some .int, 6, 90, [])
abbrev mX5_lock : tp_M := (yX5_lock, cX5_lock, 4, some .int, 8, 134, [])
abbrev mX5_exchange : tp_M := (yX5_exchange, cX5_exchange, 7, some .int, 7, 112, [])
abbrev mX5_hold : tp_M := (yX5_hold, cX5_hold, 5, some .int, 7, 112, [])
abbrev mX5_pay : tp_M := (yX5_pay, cX5_pay, 5, some .int, 7, 112, [])
abbrev mX5_letGo : tp_M := (yX5_letGo, cX5_letGo, 3, some .int, 7, 111, [])
abbrev mX5_dispute : tp_M := (yX5_dispute, cX5_dispute, 4, some .int, 7, 112, [])
abbrev mX5_decide : tp_M := (yX5_decide, cX5_decide, 4, some .int, 7, 112, [])
abbrev mX5_close : tp_M := (yX5_close, cX5_close, 5, some .int, 7, 112, [])
abbrev mX5_pass : tp_M := (yX5_pass, cX5_pass, 2, some .int, 6, 90, [])
abbrev mX5_set : tp_M := (yX5_set, cX5_set, 4, some .int, 6, 90, [])
abbrev mX5_append : tp_M := (yX5_append, cX5_append, 2, some .int, 6, 90, [])
abbrev mX5_clearBuffer : tp_M := (yX5_clearBuffer, cX5_clearBuffer, 2, some .int, 0, 0, [])
abbrev mX5_firstError : tp_M := (yX5_firstError, cX5_firstError, 2, some .int, 3, 63, [])
abbrev mX5_run : tp_M := (yX5_run, cX5_run, 2, some .int, 9, 157, [])
abbrev mX5_undo : tp_M := (yX5_undo, cX5_undo, 1, some .int, 6, 90, [])
abbrev mX5_purse : tp_M := (yX5_purse, cX5_purse, 5, some .int, 7, 112, [])
abbrev mX5_held : tp_M := (yX5_held, cX5_held, 4, some .int, 7, 111, [])
abbrev mX5_payment : tp_M := (yX5_payment, cX5_payment, 4, some .int, 7, 111, [])
abbrev mX5_count : tp_M := (yX5_count, cX5_count, 2, some .int, 6, 90, [])
abbrev mX5_setting : tp_M := (yX5_setting, cX5_setting, 2, some .int, 6, 90, [])
abbrev mX5_ifExchanged : tp_M := (yX5_ifExchanged, cX5_ifExchanged, 7, some .int, 7, 112, [])
abbrev mX5_needed : tp_M := (yX5_needed, cX5_needed, 8, some .int, 8, 134, [])
abbrev mX5_room : tp_M := (yX5_room, cX5_room, 7, some .int, 7, 112, [])
abbrev mX5_whyNot : tp_M := (yX5_whyNot, cX5_whyNot, 8, some .int, 7, 112, [])
abbrev mX5_ifClosed : tp_M := (yX5_ifClosed, cX5_ifClosed, 6, some .int, 7, 112, [])
abbrev mX5_heldShare : tp_M := (yX5_heldShare, cX5_heldShare, 4, some .double, 7, 112, [])
abbrev mX5_digest : tp_M := (yX5_digest, cX5_digest, 4, some .long, 10, 188, [])
abbrev mX5_purseAt : tp_M := (yX5_purseAt, cX5_purseAt, 3, some (.object "TravelPurses$Purse"), 6, 90, [])
abbrev mX5_foreignPurseAt : tp_M := (yX5_foreignPurseAt, cX5_foreignPurseAt, 3, some (.object "TravelPurses$Purse"), 7, 112, [])
abbrev mX5_holdAt : tp_M := (yX5_holdAt, cX5_holdAt, 2, some (.object "TravelPurses$Hold"), 6, 90, [])
abbrev mX5_paymentAt : tp_M := (yX5_paymentAt, cX5_paymentAt, 2, some (.object "TravelPurses$Payment"), 6, 90, [])
abbrev mX5_requireAmount : tp_M := (yX5_requireAmount, cX5_requireAmount, 2, none, 6, 90, [])
abbrev mX5_saveState : tp_M := (yX5_saveState, cX5_saveState, 1, none, 2, 48, [])
abbrev mX5_dropOldestState : tp_M := (yX5_dropOldestState, cX5_dropOldestState, 3, none, 0, 0, [])
abbrev mX5_carryOutRow : tp_M := (yX5_carryOutRow, cX5_carryOutRow, 3, some .int, 8, 135, [])
abbrev mX5_carriesOutOrder : tp_M := (yX5_carriesOutOrder, cX5_carriesOutOrder, 4, some .boolean, 7, 112, [])
abbrev mX5_mix : tp_M := (yX5_mix, cX5_mix, 4, some .long, 0, 0, [])
abbrev mX5_mixWallet : tp_M := (yX5_mixWallet, cX5_mixWallet, 8, some .long, 9, 161, [])
abbrev mX5_mixHolds : tp_M := (yX5_mixHolds, cX5_mixHolds, 7, some .long, 8, 134, [])
abbrev mX5_mixPayments : tp_M := (yX5_mixPayments, cX5_mixPayments, 7, some .long, 8, 134, [])
abbrev mX5_mixBuffer : tp_M := (yX5_mixBuffer, cX5_mixBuffer, 6, some .long, 1, 23, [])
abbrev mX5_bitsOfShare : tp_M := (yX5_bitsOfShare, cX5_bitsOfShare, 8, some .long, 0, 0, [])
abbrev mX6_init : tp_M := (yX6_init, cX6_init, 1, none, 1, 20, [])
abbrev mX6_thrown : tp_M := (yX6_thrown, cX6_thrown, 1, some .int, 0, 0, [])
abbrev mX6_within : tp_M := (yX6_within, cX6_within, 3, some .boolean, 0, 0, [])
abbrev mX6_save : tp_M := (yX6_save, cX6_save, 2, none, 0, 0, [])
abbrev mX6_isWallet : tp_M := (yX6_isWallet, cX6_isWallet, 1, some .boolean, 1, 22, [])
abbrev mX6_isCurrency : tp_M := (yX6_isCurrency, cX6_isCurrency, 1, some .boolean, 1, 22, [])
abbrev mX6_isPurse : tp_M := (yX6_isPurse, cX6_isPurse, 2, some .boolean, 2, 42, [])
abbrev mX6_isForeign : tp_M := (yX6_isForeign, cX6_isForeign, 2, some .boolean, 3, 63, [])
abbrev mX6_isMoney : tp_M := (yX6_isMoney, cX6_isMoney, 1, some .boolean, 1, 22, [])
abbrev mX6_at : tp_M := (yX6_at, cX6_at, 2, some .int, 0, 0, [])
abbrev mX6_of : tp_M := (yX6_of, cX6_of, 4, some .int, 1, 21, [])
abbrev mX6_ofHold : tp_M := (yX6_ofHold, cX6_ofHold, 3, some .int, 0, 0, [])
abbrev mX6_ofPayment : tp_M := (yX6_ofPayment, cX6_ofPayment, 3, some .int, 0, 0, [])
abbrev mX6_isHold : tp_M := (yX6_isHold, cX6_isHold, 2, some .boolean, 1, 22, [])
abbrev mX6_isPayment : tp_M := (yX6_isPayment, cX6_isPayment, 2, some .boolean, 1, 22, [])
abbrev mX6_isOf : tp_M := (yX6_isOf, cX6_isOf, 4, some .boolean, 0, 0, [])
abbrev mX6_keptOf : tp_M := (yX6_keptOf, cX6_keptOf, 5, some .int, 1, 23, [])
abbrev mX6_freeOf : tp_M := (yX6_freeOf, cX6_freeOf, 3, some .int, 2, 47, [])
abbrev mX6_comeIn : tp_M := (yX6_comeIn, cX6_comeIn, 6, none, 2, 44, [])
abbrev mX6_load : tp_M := (yX6_load, cX6_load, 3, some .int, 4, 91, [])
abbrev mX6_canLoad : tp_M := (yX6_canLoad, cX6_canLoad, 3, some .boolean, 2, 44, [])
abbrev mX6_loads : tp_M := (yX6_loads, cX6_loads, 3, none, 3, 69, [])
abbrev mX6_quote : tp_M := (yX6_quote, cX6_quote, 4, some .int, 1, 22, [])
abbrev mX6_isLocked : tp_M := (yX6_isLocked, cX6_isLocked, 3, some .boolean, 2, 44, [])
abbrev mX6_rateOf : tp_M := (yX6_rateOf, cX6_rateOf, 3, some .int, 3, 66, [])
abbrev mX6_lock : tp_M := (yX6_lock, cX6_lock, 3, some .int, 4, 84, [])
abbrev mX6_given : tp_M := (yX6_given, cX6_given, 5, some .int, 4, 88, [])
abbrev mX6_spreadOf : tp_M := (yX6_spreadOf, cX6_spreadOf, 2, some .int, 0, 0, [])
abbrev mX6_brings : tp_M := (yX6_brings, cX6_brings, 6, some .int, 5, 112, [])
abbrev mX6_isWrongPair : tp_M := (yX6_isWrongPair, cX6_isWrongPair, 2, some .boolean, 0, 0, [])
abbrev mX6_whyNoExchange : tp_M := (yX6_whyNoExchange, cX6_whyNoExchange, 5, some .int, 3, 69, [])
abbrev mX6_exchanges : tp_M := (yX6_exchanges, cX6_exchanges, 7, some .int, 5, 112, [])
abbrev mX6_exchange : tp_M := (yX6_exchange, cX6_exchange, 5, some .int, 6, 138, [])
abbrev mX6_withTip : tp_M := (yX6_withTip, cX6_withTip, 2, some .int, 0, 0, [])
abbrev mX6_whyNoHold : tp_M := (yX6_whyNoHold, cX6_whyNoHold, 4, some .int, 3, 69, [])
abbrev mX6_holds : tp_M := (yX6_holds, cX6_holds, 5, some .int, 1, 21, [])
abbrev mX6_hold : tp_M := (yX6_hold, cX6_hold, 4, some .int, 4, 92, [])
abbrev mX6_removeHold : tp_M := (yX6_removeHold, cX6_removeHold, 3, none, 0, 0, [])
abbrev mX6_pay : tp_M := (yX6_pay, cX6_pay, 6, some .int, 2, 43, [])
abbrev mX6_letGo : tp_M := (yX6_letGo, cX6_letGo, 3, some .int, 2, 43, [])
abbrev mX6_canDispute : tp_M := (yX6_canDispute, cX6_canDispute, 2, some .boolean, 1, 22, [])
abbrev mX6_dispute : tp_M := (yX6_dispute, cX6_dispute, 4, some .int, 3, 69, [])
abbrev mX6_takesBack : tp_M := (yX6_takesBack, cX6_takesBack, 6, some .int, 3, 69, [])
abbrev mX6_decide : tp_M := (yX6_decide, cX6_decide, 3, some .int, 4, 94, [])
abbrev mX6_hasHold : tp_M := (yX6_hasHold, cX6_hasHold, 4, some .boolean, 1, 22, [])
abbrev mX6_hasDispute : tp_M := (yX6_hasDispute, cX6_hasDispute, 4, some .boolean, 1, 22, [])
abbrev mX6_hasDebt : tp_M := (yX6_hasDebt, cX6_hasDebt, 4, some .boolean, 2, 44, [])
abbrev mX6_whyNoClosing : tp_M := (yX6_whyNoClosing, cX6_whyNoClosing, 2, some .int, 3, 67, [])
abbrev mX6_closes : tp_M := (yX6_closes, cX6_closes, 5, some .int, 6, 138, [])
abbrev mX6_close : tp_M := (yX6_close, cX6_close, 2, some .int, 7, 162, [])
abbrev mX6_dayPasses : tp_M := (yX6_dayPasses, cX6_dayPasses, 3, some .int, 1, 22, [])
abbrev mX6_pass : tp_M := (yX6_pass, cX6_pass, 5, some .int, 2, 44, [])
abbrev mX6_isSetting : tp_M := (yX6_isSetting, cX6_isSetting, 1, some .boolean, 1, 22, [])
abbrev mX6_greatest : tp_M := (yX6_greatest, cX6_greatest, 1, some .int, 0, 0, [])
abbrev mX6_set : tp_M := (yX6_set, cX6_set, 4, some .int, 2, 42, [])
abbrev mX6_append : tp_M := (yX6_append, cX6_append, 2, some .int, 1, 22, [])
abbrev mX6_clearBuffer : tp_M := (yX6_clearBuffer, cX6_clearBuffer, 2, some .int, 0, 0, [])
abbrev mX6_takesPlace : tp_M := (yX6_takesPlace, cX6_takesPlace, 4, some .boolean, 1, 22, [])
abbrev mX6_takesDigit : tp_M := (yX6_takesDigit, cX6_takesDigit, 4, some .boolean, 2, 42, [])
abbrev mX6_takes : tp_M := (yX6_takes, cX6_takes, 2, some .boolean, 3, 65, [])
abbrev mX6_rightUpTo : tp_M := (yX6_rightUpTo, cX6_rightUpTo, 2, some .int, 4, 86, [])
abbrev mX6_firstError : tp_M := (yX6_firstError, cX6_firstError, 1, some .int, 5, 107, [])
abbrev mX6_carries : tp_M := (yX6_carries, cX6_carries, 9, some .boolean, 6, 138, [])
abbrev mX6_run : tp_M := (yX6_run, cX6_run, 3, some .int, 7, 166, [])
abbrev mX6_undo : tp_M := (yX6_undo, cX6_undo, 2, some .int, 0, 0, [])
abbrev mX6_creditIn : tp_M := (yX6_creditIn, cX6_creditIn, 6, some .int, 1, 23, [])
abbrev mX6_purseNow : tp_M := (yX6_purseNow, cX6_purseNow, 4, some .int, 4, 88, [])
abbrev mX6_purse : tp_M := (yX6_purse, cX6_purse, 4, some .int, 5, 111, [])
abbrev mX6_held : tp_M := (yX6_held, cX6_held, 3, some .int, 2, 43, [])
abbrev mX6_paymentNow : tp_M := (yX6_paymentNow, cX6_paymentNow, 3, some .int, 2, 43, [])
abbrev mX6_payment : tp_M := (yX6_payment, cX6_payment, 3, some .int, 3, 65, [])
abbrev mX6_disputed : tp_M := (yX6_disputed, cX6_disputed, 3, some .int, 1, 22, [])
abbrev mX6_counted : tp_M := (yX6_counted, cX6_counted, 2, some .int, 2, 44, [])
abbrev mX6_count : tp_M := (yX6_count, cX6_count, 2, some .int, 3, 65, [])
abbrev mX6_setting : tp_M := (yX6_setting, cX6_setting, 2, some .int, 2, 42, [])
abbrev mX6_exchangedThen : tp_M := (yX6_exchangedThen, cX6_exchangedThen, 5, some .int, 6, 137, [])
abbrev mX6_ifExchanged : tp_M := (yX6_ifExchanged, cX6_ifExchanged, 5, some .int, 7, 161, [])
abbrev mX6_neededFor : tp_M := (yX6_neededFor, cX6_neededFor, 7, some .int, 6, 137, [])
abbrev mX6_needed : tp_M := (yX6_needed, cX6_needed, 4, some .int, 7, 163, [])
abbrev mX6_roomOf : tp_M := (yX6_roomOf, cX6_roomOf, 7, some .int, 3, 69, [])
abbrev mX6_room : tp_M := (yX6_room, cX6_room, 3, some .int, 4, 95, [])
abbrev mX6_whyNot : tp_M := (yX6_whyNot, cX6_whyNot, 6, some .int, 4, 93, [])
abbrev mX6_closedThen : tp_M := (yX6_closedThen, cX6_closedThen, 5, some .int, 6, 137, [])
abbrev mX6_ifClosed : tp_M := (yX6_ifClosed, cX6_ifClosed, 2, some .int, 7, 161, [])
abbrev mX6_share : tp_M := (yX6_share, cX6_share, 4, some .double, 2, 47, [])
abbrev mX6_heldShare : tp_M := (yX6_heldShare, cX6_heldShare, 3, some .double, 3, 70, [])
abbrev mX6_mix : tp_M := (yX6_mix, cX6_mix, 3, none, 0, 0, [])
abbrev mX6_mixWallet : tp_M := (yX6_mixWallet, cX6_mixWallet, 4, none, 7, 163, [])
abbrev mX6_digest : tp_M := (yX6_digest, cX6_digest, 2, some .long, 8, 186, [])
abbrev mJxe99ae_isNaN_b9ae7 : tp_M := (yJxe99ae_isNaN_b9ae7, cJxe99ae_isNaN_b9ae7, 2, some .boolean, 0, 0, [])
abbrev mJxe99ae_doubleToLongBits_ccdee : tp_M := (yJxe99ae_doubleToLongBits_ccdee, cJxe99ae_doubleToLongBits_ccdee, 2, some .long, 1, 48, [])
abbrev mL_load : tp_M := (yL_load, cL_load, 5, some .int, 8, 135, [(0, 10, 13, 13), (0, 10, 17, 15), (0, 10, 21, 17)])
abbrev mL_quote : tp_M := (yL_quote, cL_quote, 5, some .int, 7, 113, [(0, 10, 13, 13), (0, 10, 17, 15)])
abbrev mL_lock : tp_M := (yL_lock, cL_lock, 5, some .int, 9, 157, [(0, 10, 13, 13)])
abbrev mL_exchange : tp_M := (yL_exchange, cL_exchange, 7, some .int, 8, 138, [(0, 14, 17, 13), (0, 14, 21, 15), (0, 14, 25, 17)])
abbrev mL_hold : tp_M := (yL_hold, cL_hold, 6, some .int, 8, 136, [(0, 12, 15, 13), (0, 12, 19, 15), (0, 12, 23, 17)])
abbrev mL_pay : tp_M := (yL_pay, cL_pay, 5, some .int, 8, 136, [(0, 10, 13, 13), (0, 10, 17, 15), (0, 10, 21, 17)])
abbrev mL_letGo : tp_M := (yL_letGo, cL_letGo, 4, some .int, 8, 133, [(0, 9, 12, 13)])
abbrev mL_dispute : tp_M := (yL_dispute, cL_dispute, 4, some .int, 8, 135, [(0, 9, 12, 13), (0, 9, 15, 17)])
abbrev mL_decide : tp_M := (yL_decide, cL_decide, 5, some .int, 8, 135, [(0, 10, 13, 13), (0, 10, 17, 17)])
abbrev mL_close : tp_M := (yL_close, cL_close, 4, some .int, 8, 136, [(0, 9, 12, 13), (0, 9, 15, 17)])
abbrev mL_pass : tp_M := (yL_pass, cL_pass, 4, some .int, 7, 111, [(0, 9, 12, 15), (0, 9, 15, 17)])
abbrev mL_set : tp_M := (yL_set, cL_set, 5, some .int, 7, 113, [(0, 10, 13, 13), (0, 10, 17, 15)])
abbrev mL_append : tp_M := (yL_append, cL_append, 4, some .int, 7, 111, [(0, 9, 12, 15), (0, 9, 15, 17)])
abbrev mL_run : tp_M := (yL_run, cL_run, 3, some .int, 10, 178, [(0, 8, 11, 15)])
abbrev mL_undo : tp_M := (yL_undo, cL_undo, 3, some .int, 7, 110, [(0, 8, 11, 17)])
abbrev mL_purse : tp_M := (yL_purse, cL_purse, 6, some .int, 8, 136, [(0, 12, 15, 13), (0, 12, 19, 15)])
abbrev mL_held : tp_M := (yL_held, cL_held, 5, some .int, 8, 134, [(0, 10, 13, 13), (0, 10, 17, 15)])
abbrev mL_payment : tp_M := (yL_payment, cL_payment, 5, some .int, 8, 134, [(0, 10, 13, 13), (0, 10, 17, 15)])
abbrev mL_count : tp_M := (yL_count, cL_count, 4, some .int, 7, 111, [(0, 9, 12, 15)])
abbrev mL_setting : tp_M := (yL_setting, cL_setting, 4, some .int, 7, 111, [(0, 9, 12, 13)])
abbrev mL_ifExchanged : tp_M := (yL_ifExchanged, cL_ifExchanged, 7, some .int, 8, 138, [(0, 14, 17, 13), (0, 14, 21, 15)])
abbrev mL_needed : tp_M := (yL_needed, cL_needed, 6, some .int, 9, 161, [(0, 12, 15, 13), (0, 12, 19, 15)])
abbrev mL_room : tp_M := (yL_room, cL_room, 5, some .int, 8, 138, [(0, 10, 13, 13)])
abbrev mL_whyNot : tp_M := (yL_whyNot, cL_whyNot, 8, some .int, 8, 139, [(0, 16, 19, 13), (0, 16, 23, 15)])
abbrev mL_ifClosed : tp_M := (yL_ifClosed, cL_ifClosed, 4, some .int, 8, 137, [(0, 9, 12, 13)])
abbrev mL_heldShare : tp_M := (yL_heldShare, cL_heldShare, 5, some .int, 8, 135, [(0, 9, 12, 13)])
abbrev mL_law : tp_M := (yL_law, cL_law, 9, some .boolean, 11, 211, [])
end
section
theorem tp_many {ws : List Cond} (ps : List Nat) (hp : ws = ps.filterMap (fun i => lw_tbl[i]?)) (h : ws.all goodWord = true) : ∀ w ∈ ws, w ∈ tp_all := by
  intro w hw
  have h1 := List.all_eq_true.mp h w hw
  rw [hp] at hw
  obtain ⟨i, -, hi⟩ := List.mem_filterMap.mp hw
  exact tp_in i hi h1
theorem allX0 : ∀ w ∈ u_ws RX0 TX0 14, w ∈ tp_all := tp_many [244, 246, 248, 250, 252, 254, 256, 258, 260, 262, 264, 266, 268, 270] (by decide +kernel) (by decide +kernel)
theorem ft_0_0 : tp_FT 0 0 .int false := ⟨_, rfl, by decide +kernel, rfl⟩
theorem ft_0_1 : tp_FT 0 1 (.array .int) true := ⟨_, rfl, by decide +kernel, rfl⟩
theorem ft_0_2 : tp_FT 0 2 (.array .int) true := ⟨_, rfl, by decide +kernel, rfl⟩
theorem ft_0_3 : tp_FT 0 3 (.array (.object "TravelPurses$Purse")) true := ⟨_, rfl, by decide +kernel, rfl⟩
theorem ft_0_4 : tp_FT 0 4 (.array (.object "TravelPurses$Hold")) true := ⟨_, rfl, by decide +kernel, rfl⟩
theorem ft_0_5 : tp_FT 0 5 .int false := ⟨_, rfl, by decide +kernel, rfl⟩
theorem ft_0_6 : tp_FT 0 6 (.array (.object "TravelPurses$Payment")) true := ⟨_, rfl, by decide +kernel, rfl⟩
theorem ft_0_7 : tp_FT 0 7 .int false := ⟨_, rfl, by decide +kernel, rfl⟩
theorem ft_0_8 : tp_FT 0 8 .int false := ⟨_, rfl, by decide +kernel, rfl⟩
theorem ft_0_9 : tp_FT 0 9 .int false := ⟨_, rfl, by decide +kernel, rfl⟩
theorem ft_0_10 : tp_FT 0 10 .int false := ⟨_, rfl, by decide +kernel, rfl⟩
theorem ft_0_11 : tp_FT 0 11 .int false := ⟨_, rfl, by decide +kernel, rfl⟩
theorem ft_0_12 : tp_FT 0 12 .int false := ⟨_, rfl, by decide +kernel, rfl⟩
theorem ft_0_13 : tp_FT 0 13 .int false := ⟨_, rfl, by decide +kernel, rfl⟩
theorem allX1 : ∀ w ∈ u_ws RX1 TX1 5, w ∈ tp_all := tp_many [174, 176, 178, 180, 182] (by decide +kernel) (by decide +kernel)
theorem ft_1_0 : tp_FT 1 0 .int false := ⟨_, rfl, by decide +kernel, rfl⟩
theorem ft_1_1 : tp_FT 1 1 .int false := ⟨_, rfl, by decide +kernel, rfl⟩
theorem ft_1_2 : tp_FT 1 2 .int false := ⟨_, rfl, by decide +kernel, rfl⟩
theorem ft_1_3 : tp_FT 1 3 .int false := ⟨_, rfl, by decide +kernel, rfl⟩
theorem ft_1_4 : tp_FT 1 4 .int false := ⟨_, rfl, by decide +kernel, rfl⟩
theorem allX2 : ∀ w ∈ u_ws RX2 TX2 7, w ∈ tp_all := tp_many [292, 294, 296, 298, 300, 302, 304] (by decide +kernel) (by decide +kernel)
theorem ft_2_0 : tp_FT 2 0 .int false := ⟨_, rfl, by decide +kernel, rfl⟩
theorem ft_2_1 : tp_FT 2 1 .int false := ⟨_, rfl, by decide +kernel, rfl⟩
theorem ft_2_2 : tp_FT 2 2 .int false := ⟨_, rfl, by decide +kernel, rfl⟩
theorem ft_2_3 : tp_FT 2 3 .int false := ⟨_, rfl, by decide +kernel, rfl⟩
theorem ft_2_4 : tp_FT 2 4 .int false := ⟨_, rfl, by decide +kernel, rfl⟩
theorem ft_2_5 : tp_FT 2 5 .int false := ⟨_, rfl, by decide +kernel, rfl⟩
theorem ft_2_6 : tp_FT 2 6 .boolean false := ⟨_, rfl, by decide +kernel, rfl⟩
theorem allX3 : ∀ w ∈ u_ws RX3 TX3 5, w ∈ tp_all := tp_many [205, 207, 209, 211, 213] (by decide +kernel) (by decide +kernel)
theorem ft_3_0 : tp_FT 3 0 .int false := ⟨_, rfl, by decide +kernel, rfl⟩
theorem ft_3_1 : tp_FT 3 1 .int false := ⟨_, rfl, by decide +kernel, rfl⟩
theorem ft_3_2 : tp_FT 3 2 .int false := ⟨_, rfl, by decide +kernel, rfl⟩
theorem ft_3_3 : tp_FT 3 3 .int false := ⟨_, rfl, by decide +kernel, rfl⟩
theorem ft_3_4 : tp_FT 3 4 .int false := ⟨_, rfl, by decide +kernel, rfl⟩
theorem allX4 : ∀ w ∈ u_ws RX4 TX4 6, w ∈ tp_all := tp_many [140, 142, 144, 146, 148, 150] (by decide +kernel) (by decide +kernel)
theorem ft_4_0 : tp_FT 4 0 .int true := ⟨_, rfl, by decide +kernel, rfl⟩
theorem ft_4_1 : tp_FT 4 1 .int true := ⟨_, rfl, by decide +kernel, rfl⟩
theorem ft_4_2 : tp_FT 4 2 .int false := ⟨_, rfl, by decide +kernel, rfl⟩
theorem ft_4_3 : tp_FT 4 3 .int false := ⟨_, rfl, by decide +kernel, rfl⟩
theorem ft_4_4 : tp_FT 4 4 .int false := ⟨_, rfl, by decide +kernel, rfl⟩
theorem ft_4_5 : tp_FT 4 5 .int false := ⟨_, rfl, by decide +kernel, rfl⟩
theorem allX5 : ∀ w ∈ u_ws RX5 TX5 6, w ∈ tp_all := tp_many [313, 315, 317, 319, 321, 323] (by decide +kernel) (by decide +kernel)
theorem ft_5_0 : tp_FT 5 0 (.object "TravelPurses$Books") true := ⟨_, rfl, by decide +kernel, rfl⟩
theorem ft_5_1 : tp_FT 5 1 (.array (.object "TravelPurses$Books")) true := ⟨_, rfl, by decide +kernel, rfl⟩
theorem ft_5_2 : tp_FT 5 2 .int false := ⟨_, rfl, by decide +kernel, rfl⟩
theorem ft_5_3 : tp_FT 5 3 (.array .int) true := ⟨_, rfl, by decide +kernel, rfl⟩
theorem ft_5_4 : tp_FT 5 4 .int false := ⟨_, rfl, by decide +kernel, rfl⟩
theorem ft_5_5 : tp_FT 5 5 (.object "TravelPurses$OrderReader") true := ⟨_, rfl, by decide +kernel, rfl⟩
theorem allX6 : ∀ w ∈ u_ws RX6 TX6 11, w ∈ tp_all := tp_many [915, 917, 919, 921, 923, 925, 927, 929, 931, 933, 935] (by decide +kernel) (by decide +kernel)
theorem ft_6_0 : tp_FT 6 0 (.array .int) true := ⟨_, rfl, by decide +kernel, rfl⟩
theorem ft_6_1 : tp_FT 6 1 .int false := ⟨_, rfl, by decide +kernel, rfl⟩
theorem ft_6_2 : tp_FT 6 2 (.array .int) true := ⟨_, rfl, by decide +kernel, rfl⟩
theorem ft_6_3 : tp_FT 6 3 .int false := ⟨_, rfl, by decide +kernel, rfl⟩
theorem ft_6_4 : tp_FT 6 4 (.array .int) true := ⟨_, rfl, by decide +kernel, rfl⟩
theorem ft_6_5 : tp_FT 6 5 .int false := ⟨_, rfl, by decide +kernel, rfl⟩
theorem ft_6_6 : tp_FT 6 6 (.array .int) true := ⟨_, rfl, by decide +kernel, rfl⟩
theorem ft_6_7 : tp_FT 6 7 .int false := ⟨_, rfl, by decide +kernel, rfl⟩
theorem ft_6_8 : tp_FT 6 8 .int false := ⟨_, rfl, by decide +kernel, rfl⟩
theorem ft_6_9 : tp_FT 6 9 .int false := ⟨_, rfl, by decide +kernel, rfl⟩
theorem ft_6_10 : tp_FT 6 10 .long false := ⟨_, rfl, by decide +kernel, rfl⟩
theorem v_X0_3 : Cond.methodLink RX0 3 objectInit ∈ tp_all ∧ Cond.instanceMethod objectInit ∈ tp_all ∧ Cond.code objectInit ⟨#[0xb1]⟩ 1 none ∈ tp_all := ⟨tp_in 96 (by decide +kernel) rfl, tp_in 89 (by decide +kernel) rfl, tp_in 90 (by decide +kernel) rfl⟩
theorem v_X0_13 : tp_KL RX0 13 := ⟨tp_in 99 (by decide +kernel) rfl, tp_in 100 (by decide +kernel) rfl, tp_in 101 (by decide +kernel) rfl, tp_in 102 (by decide +kernel) rfl, tp_in 103 (by decide +kernel) rfl⟩
theorem cl_X0_14 : Cond.classLink RX0 14 "[I" ∈ tp_all := tp_in 105 (by decide +kernel) rfl
theorem f_X0_18 : tp_FL RX0 18 0 1 := ⟨RX0, TX0, 14, tyX0, rfl, by decide, rfl, tp_in 218 (by decide +kernel) rfl, allX0, tyX0_ok, nmX0⟩
theorem f_X0_26 : tp_FL RX0 26 0 2 := ⟨RX0, TX0, 14, tyX0, rfl, by decide, rfl, tp_in 220 (by decide +kernel) rfl, allX0, tyX0_ok, nmX0⟩
theorem cl_X0_29 : Cond.classLink RX0 29 RX4 ∈ tp_all := tp_in 108 (by decide +kernel) rfl
theorem f_X0_31 : tp_FL RX0 31 0 3 := ⟨RX0, TX0, 14, tyX0, rfl, by decide, rfl, tp_in 222 (by decide +kernel) rfl, allX0, tyX0_ok, nmX0⟩
theorem cl_X0_35 : Cond.classLink RX0 35 RX1 ∈ tp_all := tp_in 110 (by decide +kernel) rfl
theorem f_X0_37 : tp_FL RX0 37 0 4 := ⟨RX0, TX0, 14, tyX0, rfl, by decide, rfl, tp_in 224 (by decide +kernel) rfl, allX0, tyX0_ok, nmX0⟩
theorem cl_X0_41 : Cond.classLink RX0 41 RX3 ∈ tp_all := tp_in 112 (by decide +kernel) rfl
theorem f_X0_43 : tp_FL RX0 43 0 6 := ⟨RX0, TX0, 14, tyX0, rfl, by decide, rfl, tp_in 228 (by decide +kernel) rfl, allX0, tyX0_ok, nmX0⟩
theorem n_X0_29 : tp_NL RX0 29 4 := ⟨RX4, TX4, 6, tyX4, rfl, tp_in 108 (by decide +kernel) rfl, tp_in 114 (by decide +kernel) rfl, tp_in 69 (by decide +kernel) rfl, allX4, tyX4_ok⟩
theorem v_X0_47 : tp_CI RX0 47 mX4_init 2 := ⟨⟨tp_in 115 (by decide +kernel) rfl, tp_in 117 (by decide +kernel) rfl, tp_in 69 (by decide +kernel) rfl, ⟨by decide +kernel, by decide +kernel⟩, by decide +kernel⟩, rfl, rfl, tp_in 116 (by decide +kernel) rfl⟩
theorem n_X0_35 : tp_NL RX0 35 1 := ⟨RX1, TX1, 5, tyX1, rfl, tp_in 110 (by decide +kernel) rfl, tp_in 154 (by decide +kernel) rfl, tp_in 70 (by decide +kernel) rfl, allX1, tyX1_ok⟩
theorem vn_X0_50 : tp_cw mX1_init ∈ tp_all ∧ Cond.initialized mX1_init.1.cls ∈ tp_all ∧ (mX1_init.1.cls ≠ "java/lang/invoke/MethodHandle" ∧ mX1_init.1.cls ≠ "java/lang/invoke/VarHandle") ∧ (parseMethodDescriptor mX1_init.1.desc).map (fun d => d.parameters.length) = some 0 ∧ mX1_init.1.name = "<init>" ∧ mX1_init.2.2.2.1 = none ∧ Cond.instanceMethod mX1_init.1 ∈ tp_all := ⟨tp_in 157 (by decide +kernel) rfl, tp_in 70 (by decide +kernel) rfl, ⟨by decide +kernel, by decide +kernel⟩, by decide +kernel, rfl, rfl, tp_in 156 (by decide +kernel) rfl⟩
theorem n_X0_41 : tp_NL RX0 41 3 := ⟨RX3, TX3, 5, tyX3, rfl, tp_in 112 (by decide +kernel) rfl, tp_in 185 (by decide +kernel) rfl, tp_in 71 (by decide +kernel) rfl, allX3, tyX3_ok⟩
theorem vn_X0_51 : tp_cw mX3_init ∈ tp_all ∧ Cond.initialized mX3_init.1.cls ∈ tp_all ∧ (mX3_init.1.cls ≠ "java/lang/invoke/MethodHandle" ∧ mX3_init.1.cls ≠ "java/lang/invoke/VarHandle") ∧ (parseMethodDescriptor mX3_init.1.desc).map (fun d => d.parameters.length) = some 0 ∧ mX3_init.1.name = "<init>" ∧ mX3_init.2.2.2.1 = none ∧ Cond.instanceMethod mX3_init.1 ∈ tp_all := ⟨tp_in 188 (by decide +kernel) rfl, tp_in 71 (by decide +kernel) rfl, ⟨by decide +kernel, by decide +kernel⟩, by decide +kernel, rfl, rfl, tp_in 187 (by decide +kernel) rfl⟩
theorem f_X0_52 : tp_FL RX0 52 0 0 := ⟨RX0, TX0, 14, tyX0, rfl, by decide, rfl, tp_in 216 (by decide +kernel) rfl, allX0, tyX0_ok, nmX0⟩
theorem v_X0_56 : Cond.methodLink RX0 56 arraycopyName ∈ tp_all ∧ Cond.native arraycopyName ∈ tp_all ∧ Cond.static arraycopyName ∈ tp_all ∧ Cond.initialized "java/lang/System" ∈ tp_all := ⟨tp_in 657 (by decide +kernel) rfl, tp_in 659 (by decide +kernel) rfl, tp_in 658 (by decide +kernel) rfl, tp_in 80 (by decide +kernel) rfl⟩
theorem v_X0_62 : tp_CV RX0 62 mX4_copyFrom 1 := ⟨⟨tp_in 660 (by decide +kernel) rfl, tp_in 663 (by decide +kernel) rfl, tp_in 69 (by decide +kernel) rfl, ⟨by decide +kernel, by decide +kernel⟩, by decide +kernel⟩, tp_in 661 (by decide +kernel) rfl, tp_in 662 (by decide +kernel) rfl⟩
theorem f_X0_66 : tp_FL RX0 66 0 5 := ⟨RX0, TX0, 14, tyX0, rfl, by decide, rfl, tp_in 226 (by decide +kernel) rfl, allX0, tyX0_ok, nmX0⟩
theorem v_X0_69 : tp_CV RX0 69 mX1_copyFrom 1 := ⟨⟨tp_in 664 (by decide +kernel) rfl, tp_in 667 (by decide +kernel) rfl, tp_in 70 (by decide +kernel) rfl, ⟨by decide +kernel, by decide +kernel⟩, by decide +kernel⟩, tp_in 665 (by decide +kernel) rfl, tp_in 666 (by decide +kernel) rfl⟩
theorem f_X0_72 : tp_FL RX0 72 0 7 := ⟨RX0, TX0, 14, tyX0, rfl, by decide, rfl, tp_in 230 (by decide +kernel) rfl, allX0, tyX0_ok, nmX0⟩
theorem v_X0_75 : tp_CV RX0 75 mX3_copyFrom 1 := ⟨⟨tp_in 668 (by decide +kernel) rfl, tp_in 671 (by decide +kernel) rfl, tp_in 71 (by decide +kernel) rfl, ⟨by decide +kernel, by decide +kernel⟩, by decide +kernel⟩, tp_in 669 (by decide +kernel) rfl, tp_in 670 (by decide +kernel) rfl⟩
theorem f_X0_78 : tp_FL RX0 78 0 8 := ⟨RX0, TX0, 14, tyX0, rfl, by decide, rfl, tp_in 232 (by decide +kernel) rfl, allX0, tyX0_ok, nmX0⟩
theorem f_X0_81 : tp_FL RX0 81 0 9 := ⟨RX0, TX0, 14, tyX0, rfl, by decide, rfl, tp_in 234 (by decide +kernel) rfl, allX0, tyX0_ok, nmX0⟩
theorem f_X0_84 : tp_FL RX0 84 0 10 := ⟨RX0, TX0, 14, tyX0, rfl, by decide, rfl, tp_in 236 (by decide +kernel) rfl, allX0, tyX0_ok, nmX0⟩
theorem f_X0_87 : tp_FL RX0 87 0 11 := ⟨RX0, TX0, 14, tyX0, rfl, by decide, rfl, tp_in 238 (by decide +kernel) rfl, allX0, tyX0_ok, nmX0⟩
theorem f_X0_90 : tp_FL RX0 90 0 12 := ⟨RX0, TX0, 14, tyX0, rfl, by decide, rfl, tp_in 240 (by decide +kernel) rfl, allX0, tyX0_ok, nmX0⟩
theorem f_X0_93 : tp_FL RX0 93 0 13 := ⟨RX0, TX0, 14, tyX0, rfl, by decide, rfl, tp_in 242 (by decide +kernel) rfl, allX0, tyX0_ok, nmX0⟩
theorem f_X0_96 : tp_FL RX0 96 4 3 := ⟨RX4, TX4, 6, tyX4, rfl, by decide, rfl, tp_in 132 (by decide +kernel) rfl, allX4, tyX4_ok, nmX4⟩
theorem v_X0_99 : Cond.methodLink RX0 99 Lib.Math.min.name ∈ tp_all ∧ Cond.static Lib.Math.min.name ∈ tp_all ∧ Cond.initialized "java/lang/Math" ∈ tp_all ∧ Cond.code Lib.Math.min.name Lib.Math.min.code 2 (some .int) ∈ tp_all := ⟨tp_in 680 (by decide +kernel) rfl, tp_in 681 (by decide +kernel) rfl, tp_in 81 (by decide +kernel) rfl, tp_in 682 (by decide +kernel) rfl⟩
theorem f_X0_105 : tp_FL RX0 105 4 2 := ⟨RX4, TX4, 6, tyX4, rfl, by decide, rfl, tp_in 130 (by decide +kernel) rfl, allX4, tyX4_ok, nmX4⟩
theorem v_X0_108 : tp_CV RX0 108 mX0_freeOf 1 := ⟨⟨tp_in 711 (by decide +kernel) rfl, tp_in 492 (by decide +kernel) rfl, tp_in 68 (by decide +kernel) rfl, ⟨by decide +kernel, by decide +kernel⟩, by decide +kernel⟩, tp_in 490 (by decide +kernel) rfl, tp_in 491 (by decide +kernel) rfl⟩
theorem c_X0_112 : Cond.constant RX0 112 1000000 ∈ tp_all := tp_in 628 (by decide +kernel) rfl
theorem v_X0_113 : tp_CV RX0 113 mX0_takeIn 2 := ⟨⟨tp_in 676 (by decide +kernel) rfl, tp_in 679 (by decide +kernel) rfl, tp_in 68 (by decide +kernel) rfl, ⟨by decide +kernel, by decide +kernel⟩, by decide +kernel⟩, tp_in 677 (by decide +kernel) rfl, tp_in 678 (by decide +kernel) rfl⟩
theorem v_X0_117 : tp_CV RX0 117 mX0_keptIn 1 := ⟨⟨tp_in 493 (by decide +kernel) rfl, tp_in 484 (by decide +kernel) rfl, tp_in 68 (by decide +kernel) rfl, ⟨by decide +kernel, by decide +kernel⟩, by decide +kernel⟩, tp_in 482 (by decide +kernel) rfl, tp_in 483 (by decide +kernel) rfl⟩
theorem v_X0_120 : tp_CV RX0 120 mX1_isIn 1 := ⟨⟨tp_in 485 (by decide +kernel) rfl, tp_in 488 (by decide +kernel) rfl, tp_in 70 (by decide +kernel) rfl, ⟨by decide +kernel, by decide +kernel⟩, by decide +kernel⟩, tp_in 486 (by decide +kernel) rfl, tp_in 487 (by decide +kernel) rfl⟩
theorem f_X0_124 : tp_FL RX0 124 1 3 := ⟨RX1, TX1, 5, tyX1, rfl, by decide, rfl, tp_in 170 (by decide +kernel) rfl, allX1, tyX1_ok, nmX1⟩
theorem f_X0_127 : tp_FL RX0 127 4 5 := ⟨RX4, TX4, 6, tyX4, rfl, by decide, rfl, tp_in 139 (by decide +kernel) rfl, allX4, tyX4_ok, nmX4⟩
theorem v_X0_130 : tp_CV RX0 130 mX0_isLocked 1 := ⟨⟨tp_in 498 (by decide +kernel) rfl, tp_in 501 (by decide +kernel) rfl, tp_in 68 (by decide +kernel) rfl, ⟨by decide +kernel, by decide +kernel⟩, by decide +kernel⟩, tp_in 499 (by decide +kernel) rfl, tp_in 500 (by decide +kernel) rfl⟩
theorem f_X0_133 : tp_FL RX0 133 4 4 := ⟨RX4, TX4, 6, tyX4, rfl, by decide, rfl, tp_in 136 (by decide +kernel) rfl, allX4, tyX4_ok, nmX4⟩
theorem f_X0_136 : tp_FL RX0 136 4 1 := ⟨RX4, TX4, 6, tyX4, rfl, by decide, rfl, tp_in 127 (by decide +kernel) rfl, allX4, tyX4_ok, nmX4⟩
theorem v_X0_139 : tp_CV RX0 139 mX0_rateOf 1 := ⟨⟨tp_in 557 (by decide +kernel) rfl, tp_in 497 (by decide +kernel) rfl, tp_in 68 (by decide +kernel) rfl, ⟨by decide +kernel, by decide +kernel⟩, by decide +kernel⟩, tp_in 495 (by decide +kernel) rfl, tp_in 496 (by decide +kernel) rfl⟩
theorem c_X0_142 : Cond.constantLong RX0 142 1000 ∈ tp_all := tp_in 558 (by decide +kernel) rfl
theorem v_X0_144 : tp_CV RX0 144 mX0_grossOf 3 := ⟨⟨tp_in 553 (by decide +kernel) rfl, tp_in 556 (by decide +kernel) rfl, tp_in 68 (by decide +kernel) rfl, ⟨by decide +kernel, by decide +kernel⟩, by decide +kernel⟩, tp_in 554 (by decide +kernel) rfl, tp_in 555 (by decide +kernel) rfl⟩
theorem v_X0_148 : tp_CV RX0 148 mX0_spreadOf 1 := ⟨⟨tp_in 559 (by decide +kernel) rfl, tp_in 562 (by decide +kernel) rfl, tp_in 68 (by decide +kernel) rfl, ⟨by decide +kernel, by decide +kernel⟩, by decide +kernel⟩, tp_in 560 (by decide +kernel) rfl, tp_in 561 (by decide +kernel) rfl⟩
theorem v_X0_152 : tp_CV RX0 152 mX0_isPair 2 := ⟨⟨tp_in 710 (by decide +kernel) rfl, tp_in 548 (by decide +kernel) rfl, tp_in 68 (by decide +kernel) rfl, ⟨by decide +kernel, by decide +kernel⟩, by decide +kernel⟩, tp_in 546 (by decide +kernel) rfl, tp_in 547 (by decide +kernel) rfl⟩
theorem v_X0_156 : tp_CV RX0 156 mX0_withTip 1 := ⟨⟨tp_in 728 (by decide +kernel) rfl, tp_in 525 (by decide +kernel) rfl, tp_in 68 (by decide +kernel) rfl, ⟨by decide +kernel, by decide +kernel⟩, by decide +kernel⟩, tp_in 523 (by decide +kernel) rfl, tp_in 524 (by decide +kernel) rfl⟩
theorem f_X0_160 : tp_FL RX0 160 1 0 := ⟨RX1, TX1, 5, tyX1, rfl, by decide, rfl, tp_in 161 (by decide +kernel) rfl, allX1, tyX1_ok, nmX1⟩
theorem f_X0_163 : tp_FL RX0 163 3 0 := ⟨RX3, TX3, 5, tyX3, rfl, by decide, rfl, tp_in 192 (by decide +kernel) rfl, allX3, tyX3_ok, nmX3⟩
theorem f_X0_164 : tp_FL RX0 164 3 4 := ⟨RX3, TX3, 5, tyX3, rfl, by decide, rfl, tp_in 204 (by decide +kernel) rfl, allX3, tyX3_ok, nmX3⟩
theorem f_X0_167 : tp_FL RX0 167 4 0 := ⟨RX4, TX4, 6, tyX4, rfl, by decide, rfl, tp_in 122 (by decide +kernel) rfl, allX4, tyX4_ok, nmX4⟩
theorem f_X0_168 : tp_FL RX0 168 1 1 := ⟨RX1, TX1, 5, tyX1, rfl, by decide, rfl, tp_in 164 (by decide +kernel) rfl, allX1, tyX1_ok, nmX1⟩
theorem f_X0_169 : tp_FL RX0 169 1 2 := ⟨RX1, TX1, 5, tyX1, rfl, by decide, rfl, tp_in 167 (by decide +kernel) rfl, allX1, tyX1_ok, nmX1⟩
theorem f_X0_172 : tp_FL RX0 172 1 4 := ⟨RX1, TX1, 5, tyX1, rfl, by decide, rfl, tp_in 173 (by decide +kernel) rfl, allX1, tyX1_ok, nmX1⟩
theorem v_X0_173 : tp_CV RX0 173 mX0_dropHold 1 := ⟨⟨tp_in 804 (by decide +kernel) rfl, tp_in 746 (by decide +kernel) rfl, tp_in 68 (by decide +kernel) rfl, ⟨by decide +kernel, by decide +kernel⟩, by decide +kernel⟩, tp_in 744 (by decide +kernel) rfl, tp_in 745 (by decide +kernel) rfl⟩
theorem f_X0_177 : tp_FL RX0 177 3 1 := ⟨RX3, TX3, 5, tyX3, rfl, by decide, rfl, tp_in 195 (by decide +kernel) rfl, allX3, tyX3_ok, nmX3⟩
theorem f_X0_178 : tp_FL RX0 178 3 2 := ⟨RX3, TX3, 5, tyX3, rfl, by decide, rfl, tp_in 198 (by decide +kernel) rfl, allX3, tyX3_ok, nmX3⟩
theorem f_X0_179 : tp_FL RX0 179 3 3 := ⟨RX3, TX3, 5, tyX3, rfl, by decide, rfl, tp_in 201 (by decide +kernel) rfl, allX3, tyX3_ok, nmX3⟩
theorem v_X0_180 : tp_CV RX0 180 mX3_isOutOf 1 := ⟨⟨tp_in 507 (by decide +kernel) rfl, tp_in 510 (by decide +kernel) rfl, tp_in 71 (by decide +kernel) rfl, ⟨by decide +kernel, by decide +kernel⟩, by decide +kernel⟩, tp_in 508 (by decide +kernel) rfl, tp_in 509 (by decide +kernel) rfl⟩
theorem v_X1_1 : Cond.methodLink RX1 1 objectInit ∈ tp_all ∧ Cond.instanceMethod objectInit ∈ tp_all ∧ Cond.code objectInit ⟨#[0xb1]⟩ 1 none ∈ tp_all := ⟨tp_in 158 (by decide +kernel) rfl, tp_in 89 (by decide +kernel) rfl, tp_in 90 (by decide +kernel) rfl⟩
theorem f_X1_7 : tp_FL RX1 7 1 0 := ⟨RX1, TX1, 5, tyX1, rfl, by decide, rfl, tp_in 159 (by decide +kernel) rfl, allX1, tyX1_ok, nmX1⟩
theorem f_X1_13 : tp_FL RX1 13 4 0 := ⟨RX4, TX4, 6, tyX4, rfl, by decide, rfl, tp_in 120 (by decide +kernel) rfl, allX4, tyX4_ok, nmX4⟩
theorem f_X1_16 : tp_FL RX1 16 1 1 := ⟨RX1, TX1, 5, tyX1, rfl, by decide, rfl, tp_in 162 (by decide +kernel) rfl, allX1, tyX1_ok, nmX1⟩
theorem f_X1_19 : tp_FL RX1 19 4 1 := ⟨RX4, TX4, 6, tyX4, rfl, by decide, rfl, tp_in 124 (by decide +kernel) rfl, allX4, tyX4_ok, nmX4⟩
theorem f_X1_20 : tp_FL RX1 20 1 2 := ⟨RX1, TX1, 5, tyX1, rfl, by decide, rfl, tp_in 165 (by decide +kernel) rfl, allX1, tyX1_ok, nmX1⟩
theorem f_X1_23 : tp_FL RX1 23 1 3 := ⟨RX1, TX1, 5, tyX1, rfl, by decide, rfl, tp_in 168 (by decide +kernel) rfl, allX1, tyX1_ok, nmX1⟩
theorem f_X1_26 : tp_FL RX1 26 1 4 := ⟨RX1, TX1, 5, tyX1, rfl, by decide, rfl, tp_in 171 (by decide +kernel) rfl, allX1, tyX1_ok, nmX1⟩
theorem v_X2_3 : Cond.methodLink RX2 3 objectInit ∈ tp_all ∧ Cond.instanceMethod objectInit ∈ tp_all ∧ Cond.code objectInit ⟨#[0xb1]⟩ 1 none ∈ tp_all := ⟨tp_in 279 (by decide +kernel) rfl, tp_in 89 (by decide +kernel) rfl, tp_in 90 (by decide +kernel) rfl⟩
theorem f_X2_9 : tp_FL RX2 9 2 0 := ⟨RX2, TX2, 7, tyX2, rfl, by decide, rfl, tp_in 280 (by decide +kernel) rfl, allX2, tyX2_ok, nmX2⟩
theorem f_X2_15 : tp_FL RX2 15 2 1 := ⟨RX2, TX2, 7, tyX2, rfl, by decide, rfl, tp_in 282 (by decide +kernel) rfl, allX2, tyX2_ok, nmX2⟩
theorem f_X2_18 : tp_FL RX2 18 2 2 := ⟨RX2, TX2, 7, tyX2, rfl, by decide, rfl, tp_in 284 (by decide +kernel) rfl, allX2, tyX2_ok, nmX2⟩
theorem f_X2_21 : tp_FL RX2 21 2 3 := ⟨RX2, TX2, 7, tyX2, rfl, by decide, rfl, tp_in 286 (by decide +kernel) rfl, allX2, tyX2_ok, nmX2⟩
theorem f_X2_24 : tp_FL RX2 24 2 4 := ⟨RX2, TX2, 7, tyX2, rfl, by decide, rfl, tp_in 288 (by decide +kernel) rfl, allX2, tyX2_ok, nmX2⟩
theorem f_X2_27 : tp_FL RX2 27 2 5 := ⟨RX2, TX2, 7, tyX2, rfl, by decide, rfl, tp_in 290 (by decide +kernel) rfl, allX2, tyX2_ok, nmX2⟩
theorem f_X2_30 : tp_FL RX2 30 2 6 := ⟨RX2, TX2, 7, tyX2, rfl, by decide, rfl, tp_in 291 (by decide +kernel) rfl, allX2, tyX2_ok, nmX2⟩
theorem v_X2_34 : tp_CV RX2 34 mX2_readsSign 1 := ⟨⟨tp_in 342 (by decide +kernel) rfl, tp_in 345 (by decide +kernel) rfl, tp_in 72 (by decide +kernel) rfl, ⟨by decide +kernel, by decide +kernel⟩, by decide +kernel⟩, tp_in 344 (by decide +kernel) rfl, tp_in 0 (by decide +kernel) rfl⟩
theorem v_X2_38 : tp_CV RX2 38 mX2_digitsDue 0 := ⟨⟨tp_in 346 (by decide +kernel) rfl, tp_in 349 (by decide +kernel) rfl, tp_in 72 (by decide +kernel) rfl, ⟨by decide +kernel, by decide +kernel⟩, by decide +kernel⟩, tp_in 348 (by decide +kernel) rfl, tp_in 1 (by decide +kernel) rfl⟩
theorem v_X2_42 : tp_CV RX2 42 mX2_readsDigit 1 := ⟨⟨tp_in 350 (by decide +kernel) rfl, tp_in 353 (by decide +kernel) rfl, tp_in 72 (by decide +kernel) rfl, ⟨by decide +kernel, by decide +kernel⟩, by decide +kernel⟩, tp_in 352 (by decide +kernel) rfl, tp_in 2 (by decide +kernel) rfl⟩
theorem v_X2_45 : tp_CV RX2 45 mX2_isOrderWhole 0 := ⟨⟨tp_in 354 (by decide +kernel) rfl, tp_in 357 (by decide +kernel) rfl, tp_in 72 (by decide +kernel) rfl, ⟨by decide +kernel, by decide +kernel⟩, by decide +kernel⟩, tp_in 355 (by decide +kernel) rfl, tp_in 356 (by decide +kernel) rfl⟩
theorem v_X2_49 : tp_CV RX2 49 mX2_startOrder 0 := ⟨⟨tp_in 358 (by decide +kernel) rfl, tp_in 337 (by decide +kernel) rfl, tp_in 72 (by decide +kernel) rfl, ⟨by decide +kernel, by decide +kernel⟩, by decide +kernel⟩, tp_in 335 (by decide +kernel) rfl, tp_in 336 (by decide +kernel) rfl⟩
theorem v_X2_52 : tp_CV RX2 52 mX2_readsAmount 1 := ⟨⟨tp_in 359 (by decide +kernel) rfl, tp_in 362 (by decide +kernel) rfl, tp_in 72 (by decide +kernel) rfl, ⟨by decide +kernel, by decide +kernel⟩, by decide +kernel⟩, tp_in 361 (by decide +kernel) rfl, tp_in 3 (by decide +kernel) rfl⟩
theorem v_X3_1 : Cond.methodLink RX3 1 objectInit ∈ tp_all ∧ Cond.instanceMethod objectInit ∈ tp_all ∧ Cond.code objectInit ⟨#[0xb1]⟩ 1 none ∈ tp_all := ⟨tp_in 189 (by decide +kernel) rfl, tp_in 89 (by decide +kernel) rfl, tp_in 90 (by decide +kernel) rfl⟩
theorem f_X3_7 : tp_FL RX3 7 3 0 := ⟨RX3, TX3, 5, tyX3, rfl, by decide, rfl, tp_in 190 (by decide +kernel) rfl, allX3, tyX3_ok, nmX3⟩
theorem f_X3_13 : tp_FL RX3 13 4 0 := ⟨RX4, TX4, 6, tyX4, rfl, by decide, rfl, tp_in 121 (by decide +kernel) rfl, allX4, tyX4_ok, nmX4⟩
theorem f_X3_16 : tp_FL RX3 16 3 1 := ⟨RX3, TX3, 5, tyX3, rfl, by decide, rfl, tp_in 193 (by decide +kernel) rfl, allX3, tyX3_ok, nmX3⟩
theorem f_X3_19 : tp_FL RX3 19 4 1 := ⟨RX4, TX4, 6, tyX4, rfl, by decide, rfl, tp_in 125 (by decide +kernel) rfl, allX4, tyX4_ok, nmX4⟩
theorem f_X3_20 : tp_FL RX3 20 3 2 := ⟨RX3, TX3, 5, tyX3, rfl, by decide, rfl, tp_in 196 (by decide +kernel) rfl, allX3, tyX3_ok, nmX3⟩
theorem f_X3_23 : tp_FL RX3 23 3 3 := ⟨RX3, TX3, 5, tyX3, rfl, by decide, rfl, tp_in 199 (by decide +kernel) rfl, allX3, tyX3_ok, nmX3⟩
theorem f_X3_26 : tp_FL RX3 26 3 4 := ⟨RX3, TX3, 5, tyX3, rfl, by decide, rfl, tp_in 202 (by decide +kernel) rfl, allX3, tyX3_ok, nmX3⟩
theorem v_X4_3 : Cond.methodLink RX4 3 objectInit ∈ tp_all ∧ Cond.instanceMethod objectInit ∈ tp_all ∧ Cond.code objectInit ⟨#[0xb1]⟩ 1 none ∈ tp_all := ⟨tp_in 118 (by decide +kernel) rfl, tp_in 89 (by decide +kernel) rfl, tp_in 90 (by decide +kernel) rfl⟩
theorem f_X4_9 : tp_FL RX4 9 4 0 := ⟨RX4, TX4, 6, tyX4, rfl, by decide, rfl, tp_in 119 (by decide +kernel) rfl, allX4, tyX4_ok, nmX4⟩
theorem f_X4_15 : tp_FL RX4 15 4 1 := ⟨RX4, TX4, 6, tyX4, rfl, by decide, rfl, tp_in 123 (by decide +kernel) rfl, allX4, tyX4_ok, nmX4⟩
theorem f_X4_18 : tp_FL RX4 18 4 5 := ⟨RX4, TX4, 6, tyX4, rfl, by decide, rfl, tp_in 137 (by decide +kernel) rfl, allX4, tyX4_ok, nmX4⟩
theorem f_X4_21 : tp_FL RX4 21 4 2 := ⟨RX4, TX4, 6, tyX4, rfl, by decide, rfl, tp_in 128 (by decide +kernel) rfl, allX4, tyX4_ok, nmX4⟩
theorem f_X4_24 : tp_FL RX4 24 4 3 := ⟨RX4, TX4, 6, tyX4, rfl, by decide, rfl, tp_in 131 (by decide +kernel) rfl, allX4, tyX4_ok, nmX4⟩
theorem f_X4_27 : tp_FL RX4 27 4 4 := ⟨RX4, TX4, 6, tyX4, rfl, by decide, rfl, tp_in 134 (by decide +kernel) rfl, allX4, tyX4_ok, nmX4⟩
theorem v_X5_1 : Cond.methodLink RX5 1 objectInit ∈ tp_all ∧ Cond.instanceMethod objectInit ∈ tp_all ∧ Cond.code objectInit ⟨#[0xb1]⟩ 1 none ∈ tp_all := ⟨tp_in 88 (by decide +kernel) rfl, tp_in 89 (by decide +kernel) rfl, tp_in 90 (by decide +kernel) rfl⟩
theorem n_X5_7 : tp_NL RX5 7 0 := ⟨RX0, TX0, 14, tyX0, rfl, tp_in 91 (by decide +kernel) rfl, tp_in 92 (by decide +kernel) rfl, tp_in 68 (by decide +kernel) rfl, allX0, tyX0_ok⟩
theorem v_X5_9 : tp_CI RX5 9 mX0_init 0 := ⟨⟨tp_in 93 (by decide +kernel) rfl, tp_in 95 (by decide +kernel) rfl, tp_in 68 (by decide +kernel) rfl, ⟨by decide +kernel, by decide +kernel⟩, by decide +kernel⟩, rfl, rfl, tp_in 94 (by decide +kernel) rfl⟩
theorem f_X5_10 : tp_FL RX5 10 5 0 := ⟨RX5, TX5, 6, tyX5, rfl, by decide, rfl, tp_in 307 (by decide +kernel) rfl, allX5, tyX5_ok, nmX5⟩
theorem cl_X5_7 : Cond.classLink RX5 7 RX0 ∈ tp_all := tp_in 91 (by decide +kernel) rfl
theorem f_X5_16 : tp_FL RX5 16 5 1 := ⟨RX5, TX5, 6, tyX5, rfl, by decide, rfl, tp_in 308 (by decide +kernel) rfl, allX5, tyX5_ok, nmX5⟩
theorem f_X5_20 : tp_FL RX5 20 5 3 := ⟨RX5, TX5, 6, tyX5, rfl, by decide, rfl, tp_in 310 (by decide +kernel) rfl, allX5, tyX5_ok, nmX5⟩
theorem n_X5_24 : tp_NL RX5 24 2 := ⟨RX2, TX2, 7, tyX2, rfl, tp_in 274 (by decide +kernel) rfl, tp_in 275 (by decide +kernel) rfl, tp_in 72 (by decide +kernel) rfl, allX2, tyX2_ok⟩
theorem vn_X5_26 : tp_cw mX2_init ∈ tp_all ∧ Cond.initialized mX2_init.1.cls ∈ tp_all ∧ (mX2_init.1.cls ≠ "java/lang/invoke/MethodHandle" ∧ mX2_init.1.cls ≠ "java/lang/invoke/VarHandle") ∧ (parseMethodDescriptor mX2_init.1.desc).map (fun d => d.parameters.length) = some 0 ∧ mX2_init.1.name = "<init>" ∧ mX2_init.2.2.2.1 = none ∧ Cond.instanceMethod mX2_init.1 ∈ tp_all := ⟨tp_in 278 (by decide +kernel) rfl, tp_in 72 (by decide +kernel) rfl, ⟨by decide +kernel, by decide +kernel⟩, by decide +kernel, rfl, rfl, tp_in 277 (by decide +kernel) rfl⟩
theorem f_X5_27 : tp_FL RX5 27 5 5 := ⟨RX5, TX5, 6, tyX5, rfl, by decide, rfl, tp_in 312 (by decide +kernel) rfl, allX5, tyX5_ok, nmX5⟩
theorem v_X5_31 : tp_CV RX5 31 mX5_purseAt 2 := ⟨⟨tp_in 476 (by decide +kernel) rfl, tp_in 479 (by decide +kernel) rfl, tp_in 67 (by decide +kernel) rfl, ⟨by decide +kernel, by decide +kernel⟩, by decide +kernel⟩, tp_in 478 (by decide +kernel) rfl, tp_in 6 (by decide +kernel) rfl⟩
theorem v_X5_35 : tp_CV RX5 35 mX5_requireAmount 1 := ⟨⟨tp_in 540 (by decide +kernel) rfl, tp_in 543 (by decide +kernel) rfl, tp_in 67 (by decide +kernel) rfl, ⟨by decide +kernel, by decide +kernel⟩, by decide +kernel⟩, tp_in 542 (by decide +kernel) rfl, tp_in 7 (by decide +kernel) rfl⟩
theorem v_X5_39 : tp_CV RX5 39 mX0_mayLoad 2 := ⟨⟨tp_in 624 (by decide +kernel) rfl, tp_in 627 (by decide +kernel) rfl, tp_in 68 (by decide +kernel) rfl, ⟨by decide +kernel, by decide +kernel⟩, by decide +kernel⟩, tp_in 625 (by decide +kernel) rfl, tp_in 626 (by decide +kernel) rfl⟩
theorem v_X5_50 : tp_CV RX5 50 mX5_saveState 0 := ⟨⟨tp_in 645 (by decide +kernel) rfl, tp_in 648 (by decide +kernel) rfl, tp_in 67 (by decide +kernel) rfl, ⟨by decide +kernel, by decide +kernel⟩, by decide +kernel⟩, tp_in 647 (by decide +kernel) rfl, tp_in 14 (by decide +kernel) rfl⟩
theorem v_X5_53 : tp_CV RX5 53 mX0_addLoad 2 := ⟨⟨tp_in 672 (by decide +kernel) rfl, tp_in 675 (by decide +kernel) rfl, tp_in 68 (by decide +kernel) rfl, ⟨by decide +kernel, by decide +kernel⟩, by decide +kernel⟩, tp_in 673 (by decide +kernel) rfl, tp_in 674 (by decide +kernel) rfl⟩
theorem f_X5_57 : tp_FL RX5 57 4 2 := ⟨RX4, TX4, 6, tyX4, rfl, by decide, rfl, tp_in 129 (by decide +kernel) rfl, allX4, tyX4_ok, nmX4⟩
theorem f_X5_73 : tp_FL RX5 73 0 2 := ⟨RX0, TX0, 14, tyX0, rfl, by decide, rfl, tp_in 221 (by decide +kernel) rfl, allX0, tyX0_ok, nmX0⟩
theorem v_X5_76 : tp_CV RX5 76 mX5_foreignPurseAt 2 := ⟨⟨tp_in 567 (by decide +kernel) rfl, tp_in 570 (by decide +kernel) rfl, tp_in 67 (by decide +kernel) rfl, ⟨by decide +kernel, by decide +kernel⟩, by decide +kernel⟩, tp_in 569 (by decide +kernel) rfl, tp_in 8 (by decide +kernel) rfl⟩
theorem f_X5_79 : tp_FL RX5 79 4 1 := ⟨RX4, TX4, 6, tyX4, rfl, by decide, rfl, tp_in 126 (by decide +kernel) rfl, allX4, tyX4_ok, nmX4⟩
theorem f_X5_82 : tp_FL RX5 82 4 4 := ⟨RX4, TX4, 6, tyX4, rfl, by decide, rfl, tp_in 135 (by decide +kernel) rfl, allX4, tyX4_ok, nmX4⟩
theorem f_X5_85 : tp_FL RX5 85 0 0 := ⟨RX0, TX0, 14, tyX0, rfl, by decide, rfl, tp_in 217 (by decide +kernel) rfl, allX0, tyX0_ok, nmX0⟩
theorem f_X5_88 : tp_FL RX5 88 0 1 := ⟨RX0, TX0, 14, tyX0, rfl, by decide, rfl, tp_in 219 (by decide +kernel) rfl, allX0, tyX0_ok, nmX0⟩
theorem f_X5_91 : tp_FL RX5 91 4 5 := ⟨RX4, TX4, 6, tyX4, rfl, by decide, rfl, tp_in 138 (by decide +kernel) rfl, allX4, tyX4_ok, nmX4⟩
theorem v_X5_94 : tp_CV RX5 94 mX0_exchangeReason 3 := ⟨⟨tp_in 706 (by decide +kernel) rfl, tp_in 709 (by decide +kernel) rfl, tp_in 68 (by decide +kernel) rfl, ⟨by decide +kernel, by decide +kernel⟩, by decide +kernel⟩, tp_in 707 (by decide +kernel) rfl, tp_in 708 (by decide +kernel) rfl⟩
theorem v_X5_100 : tp_CV RX5 100 mX0_convert 3 := ⟨⟨tp_in 713 (by decide +kernel) rfl, tp_in 716 (by decide +kernel) rfl, tp_in 68 (by decide +kernel) rfl, ⟨by decide +kernel, by decide +kernel⟩, by decide +kernel⟩, tp_in 714 (by decide +kernel) rfl, tp_in 715 (by decide +kernel) rfl⟩
theorem v_X5_103 : tp_CV RX5 103 mX0_holdReason 2 := ⟨⟨tp_in 724 (by decide +kernel) rfl, tp_in 727 (by decide +kernel) rfl, tp_in 68 (by decide +kernel) rfl, ⟨by decide +kernel, by decide +kernel⟩, by decide +kernel⟩, tp_in 725 (by decide +kernel) rfl, tp_in 726 (by decide +kernel) rfl⟩
theorem v_X5_109 : tp_CV RX5 109 mX0_addHold 2 := ⟨⟨tp_in 730 (by decide +kernel) rfl, tp_in 733 (by decide +kernel) rfl, tp_in 68 (by decide +kernel) rfl, ⟨by decide +kernel, by decide +kernel⟩, by decide +kernel⟩, tp_in 731 (by decide +kernel) rfl, tp_in 732 (by decide +kernel) rfl⟩
theorem v_X5_112 : tp_CV RX5 112 mX5_holdAt 1 := ⟨⟨tp_in 588 (by decide +kernel) rfl, tp_in 591 (by decide +kernel) rfl, tp_in 67 (by decide +kernel) rfl, ⟨by decide +kernel, by decide +kernel⟩, by decide +kernel⟩, tp_in 590 (by decide +kernel) rfl, tp_in 10 (by decide +kernel) rfl⟩
theorem f_X5_118 : tp_FL RX5 118 1 3 := ⟨RX1, TX1, 5, tyX1, rfl, by decide, rfl, tp_in 169 (by decide +kernel) rfl, allX1, tyX1_ok, nmX1⟩
theorem f_X5_123 : tp_FL RX5 123 0 7 := ⟨RX0, TX0, 14, tyX0, rfl, by decide, rfl, tp_in 231 (by decide +kernel) rfl, allX0, tyX0_ok, nmX0⟩
theorem f_X5_128 : tp_FL RX5 128 1 0 := ⟨RX1, TX1, 5, tyX1, rfl, by decide, rfl, tp_in 160 (by decide +kernel) rfl, allX1, tyX1_ok, nmX1⟩
theorem f_X5_131 : tp_FL RX5 131 1 1 := ⟨RX1, TX1, 5, tyX1, rfl, by decide, rfl, tp_in 163 (by decide +kernel) rfl, allX1, tyX1_ok, nmX1⟩
theorem v_X5_132 : tp_CV RX5 132 mX0_dropHold 1 := ⟨⟨tp_in 743 (by decide +kernel) rfl, tp_in 746 (by decide +kernel) rfl, tp_in 68 (by decide +kernel) rfl, ⟨by decide +kernel, by decide +kernel⟩, by decide +kernel⟩, tp_in 744 (by decide +kernel) rfl, tp_in 745 (by decide +kernel) rfl⟩
theorem v_X5_135 : tp_CV RX5 135 mX0_addPayment 2 := ⟨⟨tp_in 747 (by decide +kernel) rfl, tp_in 750 (by decide +kernel) rfl, tp_in 68 (by decide +kernel) rfl, ⟨by decide +kernel, by decide +kernel⟩, by decide +kernel⟩, tp_in 748 (by decide +kernel) rfl, tp_in 749 (by decide +kernel) rfl⟩
theorem v_X5_138 : tp_CV RX5 138 mX5_paymentAt 1 := ⟨⟨tp_in 601 (by decide +kernel) rfl, tp_in 604 (by decide +kernel) rfl, tp_in 67 (by decide +kernel) rfl, ⟨by decide +kernel, by decide +kernel⟩, by decide +kernel⟩, tp_in 603 (by decide +kernel) rfl, tp_in 12 (by decide +kernel) rfl⟩
theorem v_X5_142 : tp_CV RX5 142 mX0_mayDispute 1 := ⟨⟨tp_in 606 (by decide +kernel) rfl, tp_in 609 (by decide +kernel) rfl, tp_in 68 (by decide +kernel) rfl, ⟨by decide +kernel, by decide +kernel⟩, by decide +kernel⟩, tp_in 607 (by decide +kernel) rfl, tp_in 608 (by decide +kernel) rfl⟩
theorem f_X5_148 : tp_FL RX5 148 3 0 := ⟨RX3, TX3, 5, tyX3, rfl, by decide, rfl, tp_in 191 (by decide +kernel) rfl, allX3, tyX3_ok, nmX3⟩
theorem f_X5_151 : tp_FL RX5 151 3 1 := ⟨RX3, TX3, 5, tyX3, rfl, by decide, rfl, tp_in 194 (by decide +kernel) rfl, allX3, tyX3_ok, nmX3⟩
theorem f_X5_152 : tp_FL RX5 152 3 4 := ⟨RX3, TX3, 5, tyX3, rfl, by decide, rfl, tp_in 203 (by decide +kernel) rfl, allX3, tyX3_ok, nmX3⟩
theorem f_X5_155 : tp_FL RX5 155 3 2 := ⟨RX3, TX3, 5, tyX3, rfl, by decide, rfl, tp_in 197 (by decide +kernel) rfl, allX3, tyX3_ok, nmX3⟩
theorem v_X5_158 : tp_CV RX5 158 mX0_takeIn 2 := ⟨⟨tp_in 766 (by decide +kernel) rfl, tp_in 679 (by decide +kernel) rfl, tp_in 68 (by decide +kernel) rfl, ⟨by decide +kernel, by decide +kernel⟩, by decide +kernel⟩, tp_in 677 (by decide +kernel) rfl, tp_in 678 (by decide +kernel) rfl⟩
theorem v_X5_163 : tp_CV RX5 163 mX0_takeBack 2 := ⟨⟨tp_in 775 (by decide +kernel) rfl, tp_in 778 (by decide +kernel) rfl, tp_in 68 (by decide +kernel) rfl, ⟨by decide +kernel, by decide +kernel⟩, by decide +kernel⟩, tp_in 776 (by decide +kernel) rfl, tp_in 777 (by decide +kernel) rfl⟩
theorem v_X5_166 : tp_CV RX5 166 mX0_closingReason 1 := ⟨⟨tp_in 572 (by decide +kernel) rfl, tp_in 575 (by decide +kernel) rfl, tp_in 68 (by decide +kernel) rfl, ⟨by decide +kernel, by decide +kernel⟩, by decide +kernel⟩, tp_in 573 (by decide +kernel) rfl, tp_in 574 (by decide +kernel) rfl⟩
theorem v_X5_172 : tp_CV RX5 172 mX0_payOut 1 := ⟨⟨tp_in 787 (by decide +kernel) rfl, tp_in 790 (by decide +kernel) rfl, tp_in 68 (by decide +kernel) rfl, ⟨by decide +kernel, by decide +kernel⟩, by decide +kernel⟩, tp_in 788 (by decide +kernel) rfl, tp_in 789 (by decide +kernel) rfl⟩
theorem v_X5_180 : tp_CV RX5 180 mX0_dropOldHolds 0 := ⟨⟨tp_in 800 (by decide +kernel) rfl, tp_in 803 (by decide +kernel) rfl, tp_in 68 (by decide +kernel) rfl, ⟨by decide +kernel, by decide +kernel⟩, by decide +kernel⟩, tp_in 801 (by decide +kernel) rfl, tp_in 802 (by decide +kernel) rfl⟩
theorem g_X5_186 : Cond.fieldLink RX5 186 RX5 "MOST_SETTINGS" "[I" ∈ tp_all := tp_in 812 (by decide +kernel) rfl
theorem f_X5_193 : tp_FL RX5 193 5 4 := ⟨RX5, TX5, 6, tyX5, rfl, by decide, rfl, tp_in 311 (by decide +kernel) rfl, allX5, tyX5_ok, nmX5⟩
theorem v_X5_198 : tp_CV RX5 198 mX2_startOrder 0 := ⟨⟨tp_in 334 (by decide +kernel) rfl, tp_in 337 (by decide +kernel) rfl, tp_in 72 (by decide +kernel) rfl, ⟨by decide +kernel, by decide +kernel⟩, by decide +kernel⟩, tp_in 335 (by decide +kernel) rfl, tp_in 336 (by decide +kernel) rfl⟩
theorem v_X5_201 : tp_CV RX5 201 mX2_reads 1 := ⟨⟨tp_in 338 (by decide +kernel) rfl, tp_in 341 (by decide +kernel) rfl, tp_in 72 (by decide +kernel) rfl, ⟨by decide +kernel, by decide +kernel⟩, by decide +kernel⟩, tp_in 339 (by decide +kernel) rfl, tp_in 340 (by decide +kernel) rfl⟩
theorem v_X5_205 : tp_CV RX5 205 mX5_firstError 0 := ⟨⟨tp_in 831 (by decide +kernel) rfl, tp_in 333 (by decide +kernel) rfl, tp_in 67 (by decide +kernel) rfl, ⟨by decide +kernel, by decide +kernel⟩, by decide +kernel⟩, tp_in 331 (by decide +kernel) rfl, tp_in 332 (by decide +kernel) rfl⟩
theorem v_X5_208 : tp_CV RX5 208 mX2_isOrderWhole 0 := ⟨⟨tp_in 832 (by decide +kernel) rfl, tp_in 357 (by decide +kernel) rfl, tp_in 72 (by decide +kernel) rfl, ⟨by decide +kernel, by decide +kernel⟩, by decide +kernel⟩, tp_in 355 (by decide +kernel) rfl, tp_in 356 (by decide +kernel) rfl⟩
theorem v_X5_214 : tp_CV RX5 214 mX5_carryOutRow 0 := ⟨⟨tp_in 834 (by decide +kernel) rfl, tp_in 837 (by decide +kernel) rfl, tp_in 67 (by decide +kernel) rfl, ⟨by decide +kernel, by decide +kernel⟩, by decide +kernel⟩, tp_in 836 (by decide +kernel) rfl, tp_in 16 (by decide +kernel) rfl⟩
theorem f_X5_217 : tp_FL RX5 217 5 2 := ⟨RX5, TX5, 6, tyX5, rfl, by decide, rfl, tp_in 309 (by decide +kernel) rfl, allX5, tyX5_ok, nmX5⟩
theorem v_X5_222 : tp_CV RX5 222 mX0_copyFrom 1 := ⟨⟨tp_in 653 (by decide +kernel) rfl, tp_in 656 (by decide +kernel) rfl, tp_in 68 (by decide +kernel) rfl, ⟨by decide +kernel, by decide +kernel⟩, by decide +kernel⟩, tp_in 654 (by decide +kernel) rfl, tp_in 655 (by decide +kernel) rfl⟩
theorem v_X5_226 : tp_CV RX5 226 mX0_keptIn 1 := ⟨⟨tp_in 481 (by decide +kernel) rfl, tp_in 484 (by decide +kernel) rfl, tp_in 68 (by decide +kernel) rfl, ⟨by decide +kernel, by decide +kernel⟩, by decide +kernel⟩, tp_in 482 (by decide +kernel) rfl, tp_in 483 (by decide +kernel) rfl⟩
theorem v_X5_229 : tp_CV RX5 229 mX0_freeOf 1 := ⟨⟨tp_in 489 (by decide +kernel) rfl, tp_in 492 (by decide +kernel) rfl, tp_in 68 (by decide +kernel) rfl, ⟨by decide +kernel, by decide +kernel⟩, by decide +kernel⟩, tp_in 490 (by decide +kernel) rfl, tp_in 491 (by decide +kernel) rfl⟩
theorem f_X5_232 : tp_FL RX5 232 4 3 := ⟨RX4, TX4, 6, tyX4, rfl, by decide, rfl, tp_in 133 (by decide +kernel) rfl, allX4, tyX4_ok, nmX4⟩
theorem v_X5_235 : tp_CV RX5 235 mX0_rateOf 1 := ⟨⟨tp_in 494 (by decide +kernel) rfl, tp_in 497 (by decide +kernel) rfl, tp_in 68 (by decide +kernel) rfl, ⟨by decide +kernel, by decide +kernel⟩, by decide +kernel⟩, tp_in 495 (by decide +kernel) rfl, tp_in 496 (by decide +kernel) rfl⟩
theorem v_X5_238 : tp_CV RX5 238 mX0_isLocked 1 := ⟨⟨tp_in 502 (by decide +kernel) rfl, tp_in 501 (by decide +kernel) rfl, tp_in 68 (by decide +kernel) rfl, ⟨by decide +kernel, by decide +kernel⟩, by decide +kernel⟩, tp_in 499 (by decide +kernel) rfl, tp_in 500 (by decide +kernel) rfl⟩
theorem v_X5_242 : tp_CV RX5 242 mX0_creditIn 1 := ⟨⟨tp_in 503 (by decide +kernel) rfl, tp_in 506 (by decide +kernel) rfl, tp_in 68 (by decide +kernel) rfl, ⟨by decide +kernel, by decide +kernel⟩, by decide +kernel⟩, tp_in 504 (by decide +kernel) rfl, tp_in 505 (by decide +kernel) rfl⟩
theorem v_X5_245 : tp_CV RX5 245 mX0_paidFrom 1 := ⟨⟨tp_in 511 (by decide +kernel) rfl, tp_in 514 (by decide +kernel) rfl, tp_in 68 (by decide +kernel) rfl, ⟨by decide +kernel, by decide +kernel⟩, by decide +kernel⟩, tp_in 512 (by decide +kernel) rfl, tp_in 513 (by decide +kernel) rfl⟩
theorem f_X5_250 : tp_FL RX5 250 1 2 := ⟨RX1, TX1, 5, tyX1, rfl, by decide, rfl, tp_in 166 (by decide +kernel) rfl, allX1, tyX1_ok, nmX1⟩
theorem f_X5_251 : tp_FL RX5 251 1 4 := ⟨RX1, TX1, 5, tyX1, rfl, by decide, rfl, tp_in 172 (by decide +kernel) rfl, allX1, tyX1_ok, nmX1⟩
theorem f_X5_252 : tp_FL RX5 252 3 3 := ⟨RX3, TX3, 5, tyX3, rfl, by decide, rfl, tp_in 200 (by decide +kernel) rfl, allX3, tyX3_ok, nmX3⟩
theorem f_X5_253 : tp_FL RX5 253 0 5 := ⟨RX0, TX0, 14, tyX0, rfl, by decide, rfl, tp_in 227 (by decide +kernel) rfl, allX0, tyX0_ok, nmX0⟩
theorem v_X5_256 : tp_CV RX5 256 mX0_disputedPayments 0 := ⟨⟨tp_in 372 (by decide +kernel) rfl, tp_in 375 (by decide +kernel) rfl, tp_in 68 (by decide +kernel) rfl, ⟨by decide +kernel, by decide +kernel⟩, by decide +kernel⟩, tp_in 373 (by decide +kernel) rfl, tp_in 374 (by decide +kernel) rfl⟩
theorem f_X5_259 : tp_FL RX5 259 0 8 := ⟨RX0, TX0, 14, tyX0, rfl, by decide, rfl, tp_in 233 (by decide +kernel) rfl, allX0, tyX0_ok, nmX0⟩
theorem f_X5_262 : tp_FL RX5 262 0 9 := ⟨RX0, TX0, 14, tyX0, rfl, by decide, rfl, tp_in 235 (by decide +kernel) rfl, allX0, tyX0_ok, nmX0⟩
theorem f_X5_265 : tp_FL RX5 265 0 10 := ⟨RX0, TX0, 14, tyX0, rfl, by decide, rfl, tp_in 237 (by decide +kernel) rfl, allX0, tyX0_ok, nmX0⟩
theorem f_X5_268 : tp_FL RX5 268 0 11 := ⟨RX0, TX0, 14, tyX0, rfl, by decide, rfl, tp_in 239 (by decide +kernel) rfl, allX0, tyX0_ok, nmX0⟩
theorem f_X5_271 : tp_FL RX5 271 0 12 := ⟨RX0, TX0, 14, tyX0, rfl, by decide, rfl, tp_in 241 (by decide +kernel) rfl, allX0, tyX0_ok, nmX0⟩
theorem f_X5_274 : tp_FL RX5 274 0 13 := ⟨RX0, TX0, 14, tyX0, rfl, by decide, rfl, tp_in 243 (by decide +kernel) rfl, allX0, tyX0_ok, nmX0⟩
theorem v_X5_279 : tp_CV RX5 279 mX0_isPair 2 := ⟨⟨tp_in 545 (by decide +kernel) rfl, tp_in 548 (by decide +kernel) rfl, tp_in 68 (by decide +kernel) rfl, ⟨by decide +kernel, by decide +kernel⟩, by decide +kernel⟩, tp_in 546 (by decide +kernel) rfl, tp_in 547 (by decide +kernel) rfl⟩
theorem v_X5_283 : tp_CV RX5 283 mX0_netOf 3 := ⟨⟨tp_in 549 (by decide +kernel) rfl, tp_in 552 (by decide +kernel) rfl, tp_in 68 (by decide +kernel) rfl, ⟨by decide +kernel, by decide +kernel⟩, by decide +kernel⟩, tp_in 550 (by decide +kernel) rfl, tp_in 551 (by decide +kernel) rfl⟩
theorem c_X5_288 : Cond.constant RX5 288 65536 ∈ tp_all := tp_in 520 (by decide +kernel) rfl
theorem c_X5_289 : Cond.constant RX5 289 99999 ∈ tp_all := tp_in 521 (by decide +kernel) rfl
theorem v_X5_290 : tp_CV RX5 290 mX0_withTip 1 := ⟨⟨tp_in 522 (by decide +kernel) rfl, tp_in 525 (by decide +kernel) rfl, tp_in 68 (by decide +kernel) rfl, ⟨by decide +kernel, by decide +kernel⟩, by decide +kernel⟩, tp_in 523 (by decide +kernel) rfl, tp_in 524 (by decide +kernel) rfl⟩
theorem c_X5_295 : Cond.constantLong RX5 295 2551 ∈ tp_all := tp_in 367 (by decide +kernel) rfl
theorem v_X5_297 : tp_CV RX5 297 mX5_count 1 := ⟨⟨tp_in 368 (by decide +kernel) rfl, tp_in 371 (by decide +kernel) rfl, tp_in 67 (by decide +kernel) rfl, ⟨by decide +kernel, by decide +kernel⟩, by decide +kernel⟩, tp_in 369 (by decide +kernel) rfl, tp_in 370 (by decide +kernel) rfl⟩
theorem v_X5_300 : tp_CS RX5 300 mX5_mix 2 := ⟨⟨tp_in 444 (by decide +kernel) rfl, tp_in 446 (by decide +kernel) rfl, tp_in 67 (by decide +kernel) rfl, ⟨by decide +kernel, by decide +kernel⟩, by decide +kernel⟩, tp_in 445 (by decide +kernel) rfl⟩
theorem v_X5_304 : tp_CV RX5 304 mX5_setting 1 := ⟨⟨tp_in 448 (by decide +kernel) rfl, tp_in 451 (by decide +kernel) rfl, tp_in 67 (by decide +kernel) rfl, ⟨by decide +kernel, by decide +kernel⟩, by decide +kernel⟩, tp_in 449 (by decide +kernel) rfl, tp_in 450 (by decide +kernel) rfl⟩
theorem v_X5_307 : tp_CV RX5 307 mX5_mixWallet 2 := ⟨⟨tp_in 468 (by decide +kernel) rfl, tp_in 471 (by decide +kernel) rfl, tp_in 67 (by decide +kernel) rfl, ⟨by decide +kernel, by decide +kernel⟩, by decide +kernel⟩, tp_in 470 (by decide +kernel) rfl, tp_in 5 (by decide +kernel) rfl⟩
theorem v_X5_311 : tp_CV RX5 311 mX5_mixHolds 1 := ⟨⟨tp_in 580 (by decide +kernel) rfl, tp_in 583 (by decide +kernel) rfl, tp_in 67 (by decide +kernel) rfl, ⟨by decide +kernel, by decide +kernel⟩, by decide +kernel⟩, tp_in 582 (by decide +kernel) rfl, tp_in 9 (by decide +kernel) rfl⟩
theorem v_X5_315 : tp_CV RX5 315 mX5_mixPayments 1 := ⟨⟨tp_in 593 (by decide +kernel) rfl, tp_in 596 (by decide +kernel) rfl, tp_in 67 (by decide +kernel) rfl, ⟨by decide +kernel, by decide +kernel⟩, by decide +kernel⟩, tp_in 595 (by decide +kernel) rfl, tp_in 11 (by decide +kernel) rfl⟩
theorem v_X5_318 : tp_CV RX5 318 mX5_mixBuffer 1 := ⟨⟨tp_in 610 (by decide +kernel) rfl, tp_in 613 (by decide +kernel) rfl, tp_in 67 (by decide +kernel) rfl, ⟨by decide +kernel, by decide +kernel⟩, by decide +kernel⟩, tp_in 612 (by decide +kernel) rfl, tp_in 13 (by decide +kernel) rfl⟩
theorem f_X5_323 : tp_FL RX5 323 0 3 := ⟨RX0, TX0, 14, tyX0, rfl, by decide, rfl, tp_in 223 (by decide +kernel) rfl, allX0, tyX0_ok, nmX0⟩
theorem f_X5_329 : tp_FL RX5 329 0 4 := ⟨RX0, TX0, 14, tyX0, rfl, by decide, rfl, tp_in 225 (by decide +kernel) rfl, allX0, tyX0_ok, nmX0⟩
theorem f_X5_335 : tp_FL RX5 335 0 6 := ⟨RX0, TX0, 14, tyX0, rfl, by decide, rfl, tp_in 229 (by decide +kernel) rfl, allX0, tyX0_ok, nmX0⟩
theorem v_X5_341 : tp_CV RX5 341 mX5_dropOldestState 0 := ⟨⟨tp_in 649 (by decide +kernel) rfl, tp_in 652 (by decide +kernel) rfl, tp_in 67 (by decide +kernel) rfl, ⟨by decide +kernel, by decide +kernel⟩, by decide +kernel⟩, tp_in 651 (by decide +kernel) rfl, tp_in 15 (by decide +kernel) rfl⟩
theorem v_X5_344 : tp_CV RX5 344 mX5_carriesOutOrder 0 := ⟨⟨tp_in 838 (by decide +kernel) rfl, tp_in 841 (by decide +kernel) rfl, tp_in 67 (by decide +kernel) rfl, ⟨by decide +kernel, by decide +kernel⟩, by decide +kernel⟩, tp_in 840 (by decide +kernel) rfl, tp_in 17 (by decide +kernel) rfl⟩
theorem f_X5_347 : tp_FL RX5 347 2 1 := ⟨RX2, TX2, 7, tyX2, rfl, by decide, rfl, tp_in 283 (by decide +kernel) rfl, allX2, tyX2_ok, nmX2⟩
theorem f_X5_348 : tp_FL RX5 348 2 2 := ⟨RX2, TX2, 7, tyX2, rfl, by decide, rfl, tp_in 285 (by decide +kernel) rfl, allX2, tyX2_ok, nmX2⟩
theorem f_X5_351 : tp_FL RX5 351 2 4 := ⟨RX2, TX2, 7, tyX2, rfl, by decide, rfl, tp_in 289 (by decide +kernel) rfl, allX2, tyX2_ok, nmX2⟩
theorem f_X5_352 : tp_FL RX5 352 2 0 := ⟨RX2, TX2, 7, tyX2, rfl, by decide, rfl, tp_in 281 (by decide +kernel) rfl, allX2, tyX2_ok, nmX2⟩
theorem f_X5_355 : tp_FL RX5 355 2 3 := ⟨RX2, TX2, 7, tyX2, rfl, by decide, rfl, tp_in 287 (by decide +kernel) rfl, allX2, tyX2_ok, nmX2⟩
theorem c_X5_358 : Cond.constantLong RX5 358 31 ∈ tp_all := tp_in 447 (by decide +kernel) rfl
theorem v_X5_360 : tp_CV RX5 360 mX5_purse 3 := ⟨⟨tp_in 472 (by decide +kernel) rfl, tp_in 475 (by decide +kernel) rfl, tp_in 67 (by decide +kernel) rfl, ⟨by decide +kernel, by decide +kernel⟩, by decide +kernel⟩, tp_in 473 (by decide +kernel) rfl, tp_in 474 (by decide +kernel) rfl⟩
theorem v_X5_364 : tp_CV RX5 364 mX5_room 2 := ⟨⟨tp_in 516 (by decide +kernel) rfl, tp_in 519 (by decide +kernel) rfl, tp_in 67 (by decide +kernel) rfl, ⟨by decide +kernel, by decide +kernel⟩, by decide +kernel⟩, tp_in 517 (by decide +kernel) rfl, tp_in 518 (by decide +kernel) rfl⟩
theorem v_X5_368 : tp_CV RX5 368 mX5_heldShare 2 := ⟨⟨tp_in 526 (by decide +kernel) rfl, tp_in 529 (by decide +kernel) rfl, tp_in 67 (by decide +kernel) rfl, ⟨by decide +kernel, by decide +kernel⟩, by decide +kernel⟩, tp_in 527 (by decide +kernel) rfl, tp_in 528 (by decide +kernel) rfl⟩
theorem v_X5_372 : tp_CS RX5 372 mX5_bitsOfShare 1 := ⟨⟨tp_in 530 (by decide +kernel) rfl, tp_in 532 (by decide +kernel) rfl, tp_in 67 (by decide +kernel) rfl, ⟨by decide +kernel, by decide +kernel⟩, by decide +kernel⟩, tp_in 531 (by decide +kernel) rfl⟩
theorem v_X5_376 : tp_CV RX5 376 mX5_ifExchanged 4 := ⟨⟨tp_in 536 (by decide +kernel) rfl, tp_in 539 (by decide +kernel) rfl, tp_in 67 (by decide +kernel) rfl, ⟨by decide +kernel, by decide +kernel⟩, by decide +kernel⟩, tp_in 537 (by decide +kernel) rfl, tp_in 538 (by decide +kernel) rfl⟩
theorem v_X5_380 : tp_CV RX5 380 mX5_needed 3 := ⟨⟨tp_in 563 (by decide +kernel) rfl, tp_in 566 (by decide +kernel) rfl, tp_in 67 (by decide +kernel) rfl, ⟨by decide +kernel, by decide +kernel⟩, by decide +kernel⟩, tp_in 564 (by decide +kernel) rfl, tp_in 565 (by decide +kernel) rfl⟩
theorem v_X5_383 : tp_CV RX5 383 mX5_ifClosed 1 := ⟨⟨tp_in 576 (by decide +kernel) rfl, tp_in 579 (by decide +kernel) rfl, tp_in 67 (by decide +kernel) rfl, ⟨by decide +kernel, by decide +kernel⟩, by decide +kernel⟩, tp_in 577 (by decide +kernel) rfl, tp_in 578 (by decide +kernel) rfl⟩
theorem v_X5_386 : tp_CV RX5 386 mX5_held 2 := ⟨⟨tp_in 584 (by decide +kernel) rfl, tp_in 587 (by decide +kernel) rfl, tp_in 67 (by decide +kernel) rfl, ⟨by decide +kernel, by decide +kernel⟩, by decide +kernel⟩, tp_in 585 (by decide +kernel) rfl, tp_in 586 (by decide +kernel) rfl⟩
theorem v_X5_389 : tp_CV RX5 389 mX5_payment 2 := ⟨⟨tp_in 597 (by decide +kernel) rfl, tp_in 600 (by decide +kernel) rfl, tp_in 67 (by decide +kernel) rfl, ⟨by decide +kernel, by decide +kernel⟩, by decide +kernel⟩, tp_in 598 (by decide +kernel) rfl, tp_in 599 (by decide +kernel) rfl⟩
theorem c_X5_392 : Cond.constantLong RX5 392 1023 ∈ tp_all := tp_in 533 (by decide +kernel) rfl
theorem c_X5_394 : Cond.constantDouble RX5 394 4611686018427387904 ∈ tp_all := tp_in 534 (by decide +kernel) rfl
theorem c_X5_396 : Cond.constantDouble RX5 396 4841369599423283200 ∈ tp_all := tp_in 535 (by decide +kernel) rfl
theorem v_X6_1 : Cond.methodLink RX6 1 objectInit ∈ tp_all ∧ Cond.instanceMethod objectInit ∈ tp_all ∧ Cond.code objectInit ⟨#[0xb1]⟩ 1 none ∈ tp_all := ⟨tp_in 903 (by decide +kernel) rfl, tp_in 89 (by decide +kernel) rfl, tp_in 90 (by decide +kernel) rfl⟩
theorem f_X6_7 : tp_FL RX6 7 6 0 := ⟨RX6, TX6, 11, tyX6, rfl, by decide, rfl, tp_in 904 (by decide +kernel) rfl, allX6, tyX6_ok, nmX6⟩
theorem f_X6_13 : tp_FL RX6 13 6 2 := ⟨RX6, TX6, 11, tyX6, rfl, by decide, rfl, tp_in 906 (by decide +kernel) rfl, allX6, tyX6_ok, nmX6⟩
theorem f_X6_16 : tp_FL RX6 16 6 4 := ⟨RX6, TX6, 11, tyX6, rfl, by decide, rfl, tp_in 908 (by decide +kernel) rfl, allX6, tyX6_ok, nmX6⟩
theorem f_X6_19 : tp_FL RX6 19 6 6 := ⟨RX6, TX6, 11, tyX6, rfl, by decide, rfl, tp_in 910 (by decide +kernel) rfl, allX6, tyX6_ok, nmX6⟩
theorem f_X6_22 : tp_FL RX6 22 6 5 := ⟨RX6, TX6, 11, tyX6, rfl, by decide, rfl, tp_in 909 (by decide +kernel) rfl, allX6, tyX6_ok, nmX6⟩
theorem f_X6_26 : tp_FL RX6 26 6 1 := ⟨RX6, TX6, 11, tyX6, rfl, by decide, rfl, tp_in 905 (by decide +kernel) rfl, allX6, tyX6_ok, nmX6⟩
theorem v_X6_29 : tp_CS RX6 29 mX6_within 3 := ⟨⟨tp_in 949 (by decide +kernel) rfl, tp_in 951 (by decide +kernel) rfl, tp_in 73 (by decide +kernel) rfl, ⟨by decide +kernel, by decide +kernel⟩, by decide +kernel⟩, tp_in 950 (by decide +kernel) rfl⟩
theorem v_X6_33 : tp_CS RX6 33 mX6_isWallet 1 := ⟨⟨tp_in 946 (by decide +kernel) rfl, tp_in 948 (by decide +kernel) rfl, tp_in 73 (by decide +kernel) rfl, ⟨by decide +kernel, by decide +kernel⟩, by decide +kernel⟩, tp_in 947 (by decide +kernel) rfl⟩
theorem v_X6_37 : tp_CS RX6 37 mX6_isCurrency 1 := ⟨⟨tp_in 994 (by decide +kernel) rfl, tp_in 996 (by decide +kernel) rfl, tp_in 73 (by decide +kernel) rfl, ⟨by decide +kernel, by decide +kernel⟩, by decide +kernel⟩, tp_in 995 (by decide +kernel) rfl⟩
theorem v_X6_40 : tp_CS RX6 40 mX6_isPurse 2 := ⟨⟨tp_in 991 (by decide +kernel) rfl, tp_in 993 (by decide +kernel) rfl, tp_in 73 (by decide +kernel) rfl, ⟨by decide +kernel, by decide +kernel⟩, by decide +kernel⟩, tp_in 992 (by decide +kernel) rfl⟩
theorem c_X6_44 : Cond.constant RX6 44 99999 ∈ tp_all := tp_in 955 (by decide +kernel) rfl
theorem v_X6_45 : tp_CS RX6 45 mX6_at 2 := ⟨⟨tp_in 964 (by decide +kernel) rfl, tp_in 966 (by decide +kernel) rfl, tp_in 73 (by decide +kernel) rfl, ⟨by decide +kernel, by decide +kernel⟩, by decide +kernel⟩, tp_in 965 (by decide +kernel) rfl⟩
theorem v_X6_49 : tp_CV RX6 49 mX6_isOf 3 := ⟨⟨tp_in 1016 (by decide +kernel) rfl, tp_in 1019 (by decide +kernel) rfl, tp_in 73 (by decide +kernel) rfl, ⟨by decide +kernel, by decide +kernel⟩, by decide +kernel⟩, tp_in 1018 (by decide +kernel) rfl, tp_in 26 (by decide +kernel) rfl⟩
theorem v_X6_52 : tp_CV RX6 52 mX6_ofHold 2 := ⟨⟨tp_in 1020 (by decide +kernel) rfl, tp_in 1023 (by decide +kernel) rfl, tp_in 73 (by decide +kernel) rfl, ⟨by decide +kernel, by decide +kernel⟩, by decide +kernel⟩, tp_in 1022 (by decide +kernel) rfl, tp_in 27 (by decide +kernel) rfl⟩
theorem v_X6_55 : tp_CV RX6 55 mX6_of 3 := ⟨⟨tp_in 960 (by decide +kernel) rfl, tp_in 963 (by decide +kernel) rfl, tp_in 73 (by decide +kernel) rfl, ⟨by decide +kernel, by decide +kernel⟩, by decide +kernel⟩, tp_in 962 (by decide +kernel) rfl, tp_in 19 (by decide +kernel) rfl⟩
theorem v_X6_59 : tp_CV RX6 59 mX6_keptOf 2 := ⟨⟨tp_in 1012 (by decide +kernel) rfl, tp_in 1015 (by decide +kernel) rfl, tp_in 73 (by decide +kernel) rfl, ⟨by decide +kernel, by decide +kernel⟩, by decide +kernel⟩, tp_in 1014 (by decide +kernel) rfl, tp_in 25 (by decide +kernel) rfl⟩
theorem v_X6_62 : tp_CS RX6 62 mX6_isMoney 1 := ⟨⟨tp_in 952 (by decide +kernel) rfl, tp_in 954 (by decide +kernel) rfl, tp_in 73 (by decide +kernel) rfl, ⟨by decide +kernel, by decide +kernel⟩, by decide +kernel⟩, tp_in 953 (by decide +kernel) rfl⟩
theorem v_X6_65 : tp_CV RX6 65 mX6_canLoad 2 := ⟨⟨tp_in 956 (by decide +kernel) rfl, tp_in 959 (by decide +kernel) rfl, tp_in 73 (by decide +kernel) rfl, ⟨by decide +kernel, by decide +kernel⟩, by decide +kernel⟩, tp_in 958 (by decide +kernel) rfl, tp_in 18 (by decide +kernel) rfl⟩
theorem v_X6_68 : tp_CV RX6 68 mX6_save 0 := ⟨⟨tp_in 968 (by decide +kernel) rfl, tp_in 971 (by decide +kernel) rfl, tp_in 73 (by decide +kernel) rfl, ⟨by decide +kernel, by decide +kernel⟩, by decide +kernel⟩, tp_in 970 (by decide +kernel) rfl, tp_in 20 (by decide +kernel) rfl⟩
theorem v_X6_71 : tp_CV RX6 71 mX6_loads 2 := ⟨⟨tp_in 972 (by decide +kernel) rfl, tp_in 975 (by decide +kernel) rfl, tp_in 73 (by decide +kernel) rfl, ⟨by decide +kernel, by decide +kernel⟩, by decide +kernel⟩, tp_in 974 (by decide +kernel) rfl, tp_in 21 (by decide +kernel) rfl⟩
theorem c_X6_75 : Cond.constant RX6 75 1000000 ∈ tp_all := tp_in 967 (by decide +kernel) rfl
theorem v_X6_76 : tp_CV RX6 76 mX6_comeIn 3 := ⟨⟨tp_in 976 (by decide +kernel) rfl, tp_in 979 (by decide +kernel) rfl, tp_in 73 (by decide +kernel) rfl, ⟨by decide +kernel, by decide +kernel⟩, by decide +kernel⟩, tp_in 978 (by decide +kernel) rfl, tp_in 22 (by decide +kernel) rfl⟩
theorem v_X6_80 : tp_CV RX6 80 mX6_isLocked 2 := ⟨⟨tp_in 1037 (by decide +kernel) rfl, tp_in 1040 (by decide +kernel) rfl, tp_in 73 (by decide +kernel) rfl, ⟨by decide +kernel, by decide +kernel⟩, by decide +kernel⟩, tp_in 1039 (by decide +kernel) rfl, tp_in 31 (by decide +kernel) rfl⟩
theorem v_X6_83 : tp_CS RX6 83 mX6_isForeign 2 := ⟨⟨tp_in 988 (by decide +kernel) rfl, tp_in 990 (by decide +kernel) rfl, tp_in 73 (by decide +kernel) rfl, ⟨by decide +kernel, by decide +kernel⟩, by decide +kernel⟩, tp_in 989 (by decide +kernel) rfl⟩
theorem c_X6_86 : Cond.constantLong RX6 86 1000 ∈ tp_all := tp_in 1032 (by decide +kernel) rfl
theorem v_X6_88 : tp_CV RX6 88 mX6_rateOf 2 := ⟨⟨tp_in 1033 (by decide +kernel) rfl, tp_in 1036 (by decide +kernel) rfl, tp_in 73 (by decide +kernel) rfl, ⟨by decide +kernel, by decide +kernel⟩, by decide +kernel⟩, tp_in 1035 (by decide +kernel) rfl, tp_in 30 (by decide +kernel) rfl⟩
theorem v_X6_91 : tp_CV RX6 91 mX6_given 4 := ⟨⟨tp_in 1028 (by decide +kernel) rfl, tp_in 1031 (by decide +kernel) rfl, tp_in 73 (by decide +kernel) rfl, ⟨by decide +kernel, by decide +kernel⟩, by decide +kernel⟩, tp_in 1030 (by decide +kernel) rfl, tp_in 29 (by decide +kernel) rfl⟩
theorem v_X6_95 : tp_CV RX6 95 mX6_spreadOf 1 := ⟨⟨tp_in 1041 (by decide +kernel) rfl, tp_in 1044 (by decide +kernel) rfl, tp_in 73 (by decide +kernel) rfl, ⟨by decide +kernel, by decide +kernel⟩, by decide +kernel⟩, tp_in 1043 (by decide +kernel) rfl, tp_in 32 (by decide +kernel) rfl⟩
theorem v_X6_99 : tp_CS RX6 99 mX6_isWrongPair 2 := ⟨⟨tp_in 1005 (by decide +kernel) rfl, tp_in 1007 (by decide +kernel) rfl, tp_in 73 (by decide +kernel) rfl, ⟨by decide +kernel, by decide +kernel⟩, by decide +kernel⟩, tp_in 1006 (by decide +kernel) rfl⟩
theorem v_X6_102 : tp_CV RX6 102 mX6_freeOf 2 := ⟨⟨tp_in 1008 (by decide +kernel) rfl, tp_in 1011 (by decide +kernel) rfl, tp_in 73 (by decide +kernel) rfl, ⟨by decide +kernel, by decide +kernel⟩, by decide +kernel⟩, tp_in 1010 (by decide +kernel) rfl, tp_in 24 (by decide +kernel) rfl⟩
theorem v_X6_105 : tp_CV RX6 105 mX6_whyNoExchange 4 := ⟨⟨tp_in 1001 (by decide +kernel) rfl, tp_in 1004 (by decide +kernel) rfl, tp_in 73 (by decide +kernel) rfl, ⟨by decide +kernel, by decide +kernel⟩, by decide +kernel⟩, tp_in 1003 (by decide +kernel) rfl, tp_in 23 (by decide +kernel) rfl⟩
theorem v_X6_108 : tp_CV RX6 108 mX6_exchanges 4 := ⟨⟨tp_in 1024 (by decide +kernel) rfl, tp_in 1027 (by decide +kernel) rfl, tp_in 73 (by decide +kernel) rfl, ⟨by decide +kernel, by decide +kernel⟩, by decide +kernel⟩, tp_in 1026 (by decide +kernel) rfl, tp_in 28 (by decide +kernel) rfl⟩
theorem v_X6_111 : tp_CV RX6 111 mX6_withTip 1 := ⟨⟨tp_in 1053 (by decide +kernel) rfl, tp_in 1056 (by decide +kernel) rfl, tp_in 73 (by decide +kernel) rfl, ⟨by decide +kernel, by decide +kernel⟩, by decide +kernel⟩, tp_in 1055 (by decide +kernel) rfl, tp_in 34 (by decide +kernel) rfl⟩
theorem v_X6_114 : tp_CV RX6 114 mX6_whyNoHold 3 := ⟨⟨tp_in 1049 (by decide +kernel) rfl, tp_in 1052 (by decide +kernel) rfl, tp_in 73 (by decide +kernel) rfl, ⟨by decide +kernel, by decide +kernel⟩, by decide +kernel⟩, tp_in 1051 (by decide +kernel) rfl, tp_in 33 (by decide +kernel) rfl⟩
theorem v_X6_117 : tp_CV RX6 117 mX6_holds 3 := ⟨⟨tp_in 1057 (by decide +kernel) rfl, tp_in 1060 (by decide +kernel) rfl, tp_in 73 (by decide +kernel) rfl, ⟨by decide +kernel, by decide +kernel⟩, by decide +kernel⟩, tp_in 1059 (by decide +kernel) rfl, tp_in 35 (by decide +kernel) rfl⟩
theorem v_X6_120 : tp_CV RX6 120 mX6_isHold 1 := ⟨⟨tp_in 1065 (by decide +kernel) rfl, tp_in 1068 (by decide +kernel) rfl, tp_in 73 (by decide +kernel) rfl, ⟨by decide +kernel, by decide +kernel⟩, by decide +kernel⟩, tp_in 1067 (by decide +kernel) rfl, tp_in 36 (by decide +kernel) rfl⟩
theorem v_X6_123 : tp_CV RX6 123 mX6_removeHold 1 := ⟨⟨tp_in 1069 (by decide +kernel) rfl, tp_in 1072 (by decide +kernel) rfl, tp_in 73 (by decide +kernel) rfl, ⟨by decide +kernel, by decide +kernel⟩, by decide +kernel⟩, tp_in 1071 (by decide +kernel) rfl, tp_in 37 (by decide +kernel) rfl⟩
theorem v_X6_127 : tp_CV RX6 127 mX6_ofPayment 2 := ⟨⟨tp_in 1089 (by decide +kernel) rfl, tp_in 1092 (by decide +kernel) rfl, tp_in 73 (by decide +kernel) rfl, ⟨by decide +kernel, by decide +kernel⟩, by decide +kernel⟩, tp_in 1091 (by decide +kernel) rfl, tp_in 40 (by decide +kernel) rfl⟩
theorem v_X6_130 : tp_CV RX6 130 mX6_isPayment 1 := ⟨⟨tp_in 1081 (by decide +kernel) rfl, tp_in 1084 (by decide +kernel) rfl, tp_in 73 (by decide +kernel) rfl, ⟨by decide +kernel, by decide +kernel⟩, by decide +kernel⟩, tp_in 1083 (by decide +kernel) rfl, tp_in 38 (by decide +kernel) rfl⟩
theorem v_X6_133 : tp_CV RX6 133 mX6_canDispute 1 := ⟨⟨tp_in 1085 (by decide +kernel) rfl, tp_in 1088 (by decide +kernel) rfl, tp_in 73 (by decide +kernel) rfl, ⟨by decide +kernel, by decide +kernel⟩, by decide +kernel⟩, tp_in 1087 (by decide +kernel) rfl, tp_in 39 (by decide +kernel) rfl⟩
theorem v_X6_136 : tp_CV RX6 136 mX6_takesBack 3 := ⟨⟨tp_in 1097 (by decide +kernel) rfl, tp_in 1100 (by decide +kernel) rfl, tp_in 73 (by decide +kernel) rfl, ⟨by decide +kernel, by decide +kernel⟩, by decide +kernel⟩, tp_in 1099 (by decide +kernel) rfl, tp_in 41 (by decide +kernel) rfl⟩
theorem v_X6_139 : tp_CV RX6 139 mX6_hasHold 1 := ⟨⟨tp_in 1109 (by decide +kernel) rfl, tp_in 1112 (by decide +kernel) rfl, tp_in 73 (by decide +kernel) rfl, ⟨by decide +kernel, by decide +kernel⟩, by decide +kernel⟩, tp_in 1111 (by decide +kernel) rfl, tp_in 43 (by decide +kernel) rfl⟩
theorem v_X6_142 : tp_CV RX6 142 mX6_hasDispute 1 := ⟨⟨tp_in 1113 (by decide +kernel) rfl, tp_in 1116 (by decide +kernel) rfl, tp_in 73 (by decide +kernel) rfl, ⟨by decide +kernel, by decide +kernel⟩, by decide +kernel⟩, tp_in 1115 (by decide +kernel) rfl, tp_in 44 (by decide +kernel) rfl⟩
theorem v_X6_145 : tp_CV RX6 145 mX6_hasDebt 1 := ⟨⟨tp_in 1117 (by decide +kernel) rfl, tp_in 1120 (by decide +kernel) rfl, tp_in 73 (by decide +kernel) rfl, ⟨by decide +kernel, by decide +kernel⟩, by decide +kernel⟩, tp_in 1119 (by decide +kernel) rfl, tp_in 45 (by decide +kernel) rfl⟩
theorem v_X6_148 : tp_CV RX6 148 mX6_whyNoClosing 1 := ⟨⟨tp_in 1105 (by decide +kernel) rfl, tp_in 1108 (by decide +kernel) rfl, tp_in 73 (by decide +kernel) rfl, ⟨by decide +kernel, by decide +kernel⟩, by decide +kernel⟩, tp_in 1107 (by decide +kernel) rfl, tp_in 42 (by decide +kernel) rfl⟩
theorem v_X6_151 : tp_CV RX6 151 mX6_closes 1 := ⟨⟨tp_in 1121 (by decide +kernel) rfl, tp_in 1124 (by decide +kernel) rfl, tp_in 73 (by decide +kernel) rfl, ⟨by decide +kernel, by decide +kernel⟩, by decide +kernel⟩, tp_in 1123 (by decide +kernel) rfl, tp_in 46 (by decide +kernel) rfl⟩
theorem v_X6_154 : tp_CV RX6 154 mX6_dayPasses 0 := ⟨⟨tp_in 1129 (by decide +kernel) rfl, tp_in 1132 (by decide +kernel) rfl, tp_in 73 (by decide +kernel) rfl, ⟨by decide +kernel, by decide +kernel⟩, by decide +kernel⟩, tp_in 1131 (by decide +kernel) rfl, tp_in 47 (by decide +kernel) rfl⟩
theorem v_X6_158 : tp_CS RX6 158 mX6_isSetting 1 := ⟨⟨tp_in 1137 (by decide +kernel) rfl, tp_in 1139 (by decide +kernel) rfl, tp_in 73 (by decide +kernel) rfl, ⟨by decide +kernel, by decide +kernel⟩, by decide +kernel⟩, tp_in 1138 (by decide +kernel) rfl⟩
theorem v_X6_161 : tp_CS RX6 161 mX6_greatest 1 := ⟨⟨tp_in 1140 (by decide +kernel) rfl, tp_in 1142 (by decide +kernel) rfl, tp_in 73 (by decide +kernel) rfl, ⟨by decide +kernel, by decide +kernel⟩, by decide +kernel⟩, tp_in 1141 (by decide +kernel) rfl⟩
theorem f_X6_164 : tp_FL RX6 164 6 3 := ⟨RX6, TX6, 11, tyX6, rfl, by decide, rfl, tp_in 907 (by decide +kernel) rfl, allX6, tyX6_ok, nmX6⟩
theorem f_X6_167 : tp_FL RX6 167 6 7 := ⟨RX6, TX6, 11, tyX6, rfl, by decide, rfl, tp_in 911 (by decide +kernel) rfl, allX6, tyX6_ok, nmX6⟩
theorem f_X6_170 : tp_FL RX6 170 6 9 := ⟨RX6, TX6, 11, tyX6, rfl, by decide, rfl, tp_in 913 (by decide +kernel) rfl, allX6, tyX6_ok, nmX6⟩
theorem f_X6_173 : tp_FL RX6 173 6 8 := ⟨RX6, TX6, 11, tyX6, rfl, by decide, rfl, tp_in 912 (by decide +kernel) rfl, allX6, tyX6_ok, nmX6⟩
theorem v_X6_176 : tp_CV RX6 176 mX6_takesPlace 1 := ⟨⟨tp_in 1163 (by decide +kernel) rfl, tp_in 1166 (by decide +kernel) rfl, tp_in 73 (by decide +kernel) rfl, ⟨by decide +kernel, by decide +kernel⟩, by decide +kernel⟩, tp_in 1165 (by decide +kernel) rfl, tp_in 50 (by decide +kernel) rfl⟩
theorem v_X6_179 : tp_CV RX6 179 mX6_takesDigit 1 := ⟨⟨tp_in 1167 (by decide +kernel) rfl, tp_in 1170 (by decide +kernel) rfl, tp_in 73 (by decide +kernel) rfl, ⟨by decide +kernel, by decide +kernel⟩, by decide +kernel⟩, tp_in 1169 (by decide +kernel) rfl, tp_in 51 (by decide +kernel) rfl⟩
theorem v_X6_182 : tp_CV RX6 182 mX6_takes 1 := ⟨⟨tp_in 1159 (by decide +kernel) rfl, tp_in 1162 (by decide +kernel) rfl, tp_in 73 (by decide +kernel) rfl, ⟨by decide +kernel, by decide +kernel⟩, by decide +kernel⟩, tp_in 1161 (by decide +kernel) rfl, tp_in 49 (by decide +kernel) rfl⟩
theorem v_X6_185 : tp_CV RX6 185 mX6_rightUpTo 0 := ⟨⟨tp_in 1155 (by decide +kernel) rfl, tp_in 1158 (by decide +kernel) rfl, tp_in 73 (by decide +kernel) rfl, ⟨by decide +kernel, by decide +kernel⟩, by decide +kernel⟩, tp_in 1157 (by decide +kernel) rfl, tp_in 48 (by decide +kernel) rfl⟩
theorem v_X6_188 : tp_CV RX6 188 mX6_carries 1 := ⟨⟨tp_in 1175 (by decide +kernel) rfl, tp_in 1178 (by decide +kernel) rfl, tp_in 73 (by decide +kernel) rfl, ⟨by decide +kernel, by decide +kernel⟩, by decide +kernel⟩, tp_in 1177 (by decide +kernel) rfl, tp_in 52 (by decide +kernel) rfl⟩
theorem v_X6_191 : tp_CV RX6 191 mX6_creditIn 2 := ⟨⟨tp_in 1191 (by decide +kernel) rfl, tp_in 1194 (by decide +kernel) rfl, tp_in 73 (by decide +kernel) rfl, ⟨by decide +kernel, by decide +kernel⟩, by decide +kernel⟩, tp_in 1193 (by decide +kernel) rfl, tp_in 54 (by decide +kernel) rfl⟩
theorem v_X6_194 : tp_CV RX6 194 mX6_purseNow 3 := ⟨⟨tp_in 1187 (by decide +kernel) rfl, tp_in 1190 (by decide +kernel) rfl, tp_in 73 (by decide +kernel) rfl, ⟨by decide +kernel, by decide +kernel⟩, by decide +kernel⟩, tp_in 1189 (by decide +kernel) rfl, tp_in 53 (by decide +kernel) rfl⟩
theorem v_X6_197 : tp_CV RX6 197 mX6_paymentNow 2 := ⟨⟨tp_in 1203 (by decide +kernel) rfl, tp_in 1206 (by decide +kernel) rfl, tp_in 73 (by decide +kernel) rfl, ⟨by decide +kernel, by decide +kernel⟩, by decide +kernel⟩, tp_in 1205 (by decide +kernel) rfl, tp_in 55 (by decide +kernel) rfl⟩
theorem v_X6_200 : tp_CV RX6 200 mX6_disputed 0 := ⟨⟨tp_in 1215 (by decide +kernel) rfl, tp_in 1218 (by decide +kernel) rfl, tp_in 73 (by decide +kernel) rfl, ⟨by decide +kernel, by decide +kernel⟩, by decide +kernel⟩, tp_in 1217 (by decide +kernel) rfl, tp_in 57 (by decide +kernel) rfl⟩
theorem v_X6_203 : tp_CV RX6 203 mX6_counted 1 := ⟨⟨tp_in 1211 (by decide +kernel) rfl, tp_in 1214 (by decide +kernel) rfl, tp_in 73 (by decide +kernel) rfl, ⟨by decide +kernel, by decide +kernel⟩, by decide +kernel⟩, tp_in 1213 (by decide +kernel) rfl, tp_in 56 (by decide +kernel) rfl⟩
theorem v_X6_206 : tp_CV RX6 206 mX6_brings 4 := ⟨⟨tp_in 1231 (by decide +kernel) rfl, tp_in 1234 (by decide +kernel) rfl, tp_in 73 (by decide +kernel) rfl, ⟨by decide +kernel, by decide +kernel⟩, by decide +kernel⟩, tp_in 1233 (by decide +kernel) rfl, tp_in 59 (by decide +kernel) rfl⟩
theorem v_X6_209 : tp_CV RX6 209 mX6_exchangedThen 4 := ⟨⟨tp_in 1227 (by decide +kernel) rfl, tp_in 1230 (by decide +kernel) rfl, tp_in 73 (by decide +kernel) rfl, ⟨by decide +kernel, by decide +kernel⟩, by decide +kernel⟩, tp_in 1229 (by decide +kernel) rfl, tp_in 58 (by decide +kernel) rfl⟩
theorem c_X6_212 : Cond.constant RX6 212 200000 ∈ tp_all := tp_in 1243 (by decide +kernel) rfl
theorem v_X6_213 : tp_CV RX6 213 mX6_neededFor 3 := ⟨⟨tp_in 1239 (by decide +kernel) rfl, tp_in 1242 (by decide +kernel) rfl, tp_in 73 (by decide +kernel) rfl, ⟨by decide +kernel, by decide +kernel⟩, by decide +kernel⟩, tp_in 1241 (by decide +kernel) rfl, tp_in 60 (by decide +kernel) rfl⟩
theorem v_X6_216 : tp_CV RX6 216 mX6_roomOf 2 := ⟨⟨tp_in 1248 (by decide +kernel) rfl, tp_in 1251 (by decide +kernel) rfl, tp_in 73 (by decide +kernel) rfl, ⟨by decide +kernel, by decide +kernel⟩, by decide +kernel⟩, tp_in 1250 (by decide +kernel) rfl, tp_in 61 (by decide +kernel) rfl⟩
theorem v_X6_219 : tp_CV RX6 219 mX6_closedThen 1 := ⟨⟨tp_in 1260 (by decide +kernel) rfl, tp_in 1263 (by decide +kernel) rfl, tp_in 73 (by decide +kernel) rfl, ⟨by decide +kernel, by decide +kernel⟩, by decide +kernel⟩, tp_in 1262 (by decide +kernel) rfl, tp_in 62 (by decide +kernel) rfl⟩
theorem v_X6_222 : tp_CV RX6 222 mX6_share 2 := ⟨⟨tp_in 1268 (by decide +kernel) rfl, tp_in 1271 (by decide +kernel) rfl, tp_in 73 (by decide +kernel) rfl, ⟨by decide +kernel, by decide +kernel⟩, by decide +kernel⟩, tp_in 1270 (by decide +kernel) rfl, tp_in 63 (by decide +kernel) rfl⟩
theorem c_X6_226 : Cond.constantLong RX6 226 31 ∈ tp_all := tp_in 1281 (by decide +kernel) rfl
theorem f_X6_228 : tp_FL RX6 228 6 10 := ⟨RX6, TX6, 11, tyX6, rfl, by decide, rfl, tp_in 914 (by decide +kernel) rfl, allX6, tyX6_ok, nmX6⟩
theorem v_X6_232 : tp_CV RX6 232 mX6_mix 1 := ⟨⟨tp_in 1277 (by decide +kernel) rfl, tp_in 1280 (by decide +kernel) rfl, tp_in 73 (by decide +kernel) rfl, ⟨by decide +kernel, by decide +kernel⟩, by decide +kernel⟩, tp_in 1279 (by decide +kernel) rfl, tp_in 64 (by decide +kernel) rfl⟩
theorem v_X6_236 : tp_CS RX6 236 mJxe99ae_doubleToLongBits_ccdee 1 := ⟨⟨tp_in 1286 (by decide +kernel) rfl, tp_in 1288 (by decide +kernel) rfl, tp_in 82 (by decide +kernel) rfl, ⟨by decide +kernel, by decide +kernel⟩, by decide +kernel⟩, tp_in 1287 (by decide +kernel) rfl⟩
theorem c_X6_242 : Cond.constantLong RX6 242 2551 ∈ tp_all := tp_in 1276 (by decide +kernel) rfl
theorem v_X6_244 : tp_CV RX6 244 mX6_mixWallet 1 := ⟨⟨tp_in 1282 (by decide +kernel) rfl, tp_in 1285 (by decide +kernel) rfl, tp_in 73 (by decide +kernel) rfl, ⟨by decide +kernel, by decide +kernel⟩, by decide +kernel⟩, tp_in 1284 (by decide +kernel) rfl, tp_in 65 (by decide +kernel) rfl⟩
theorem v_Jxe99ae_122 : tp_CS RJxe99ae 122 mJxe99ae_isNaN_b9ae7 1 := ⟨⟨tp_in 1289 (by decide +kernel) rfl, tp_in 1291 (by decide +kernel) rfl, tp_in 82 (by decide +kernel) rfl, ⟨by decide +kernel, by decide +kernel⟩, by decide +kernel⟩, tp_in 1290 (by decide +kernel) rfl⟩
theorem c_Jxe99ae_137 : Cond.constantLong RJxe99ae 137 9221120237041090560 ∈ tp_all := tp_in 1295 (by decide +kernel) rfl
theorem v_L_7 : tp_CV RL 7 mX5_load 2 := ⟨⟨tp_in 620 (by decide +kernel) rfl, tp_in 623 (by decide +kernel) rfl, tp_in 67 (by decide +kernel) rfl, ⟨by decide +kernel, by decide +kernel⟩, by decide +kernel⟩, tp_in 621 (by decide +kernel) rfl, tp_in 622 (by decide +kernel) rfl⟩
theorem v_L_19 : tp_CV RL 19 mX5_quote 2 := ⟨⟨tp_in 686 (by decide +kernel) rfl, tp_in 689 (by decide +kernel) rfl, tp_in 67 (by decide +kernel) rfl, ⟨by decide +kernel, by decide +kernel⟩, by decide +kernel⟩, tp_in 687 (by decide +kernel) rfl, tp_in 688 (by decide +kernel) rfl⟩
theorem v_L_22 : tp_CV RL 22 mX5_lock 2 := ⟨⟨tp_in 695 (by decide +kernel) rfl, tp_in 698 (by decide +kernel) rfl, tp_in 67 (by decide +kernel) rfl, ⟨by decide +kernel, by decide +kernel⟩, by decide +kernel⟩, tp_in 696 (by decide +kernel) rfl, tp_in 697 (by decide +kernel) rfl⟩
theorem v_L_25 : tp_CV RL 25 mX5_exchange 4 := ⟨⟨tp_in 702 (by decide +kernel) rfl, tp_in 705 (by decide +kernel) rfl, tp_in 67 (by decide +kernel) rfl, ⟨by decide +kernel, by decide +kernel⟩, by decide +kernel⟩, tp_in 703 (by decide +kernel) rfl, tp_in 704 (by decide +kernel) rfl⟩
theorem v_L_29 : tp_CV RL 29 mX5_hold 3 := ⟨⟨tp_in 720 (by decide +kernel) rfl, tp_in 723 (by decide +kernel) rfl, tp_in 67 (by decide +kernel) rfl, ⟨by decide +kernel, by decide +kernel⟩, by decide +kernel⟩, tp_in 721 (by decide +kernel) rfl, tp_in 722 (by decide +kernel) rfl⟩
theorem v_L_33 : tp_CV RL 33 mX5_pay 2 := ⟨⟨tp_in 737 (by decide +kernel) rfl, tp_in 740 (by decide +kernel) rfl, tp_in 67 (by decide +kernel) rfl, ⟨by decide +kernel, by decide +kernel⟩, by decide +kernel⟩, tp_in 738 (by decide +kernel) rfl, tp_in 739 (by decide +kernel) rfl⟩
theorem v_L_36 : tp_CV RL 36 mX5_letGo 1 := ⟨⟨tp_in 754 (by decide +kernel) rfl, tp_in 757 (by decide +kernel) rfl, tp_in 67 (by decide +kernel) rfl, ⟨by decide +kernel, by decide +kernel⟩, by decide +kernel⟩, tp_in 755 (by decide +kernel) rfl, tp_in 756 (by decide +kernel) rfl⟩
theorem v_L_40 : tp_CV RL 40 mX5_dispute 1 := ⟨⟨tp_in 761 (by decide +kernel) rfl, tp_in 764 (by decide +kernel) rfl, tp_in 67 (by decide +kernel) rfl, ⟨by decide +kernel, by decide +kernel⟩, by decide +kernel⟩, tp_in 762 (by decide +kernel) rfl, tp_in 763 (by decide +kernel) rfl⟩
theorem v_L_43 : tp_CV RL 43 mX5_decide 2 := ⟨⟨tp_in 770 (by decide +kernel) rfl, tp_in 773 (by decide +kernel) rfl, tp_in 67 (by decide +kernel) rfl, ⟨by decide +kernel, by decide +kernel⟩, by decide +kernel⟩, tp_in 771 (by decide +kernel) rfl, tp_in 772 (by decide +kernel) rfl⟩
theorem v_L_47 : tp_CV RL 47 mX5_close 1 := ⟨⟨tp_in 782 (by decide +kernel) rfl, tp_in 785 (by decide +kernel) rfl, tp_in 67 (by decide +kernel) rfl, ⟨by decide +kernel, by decide +kernel⟩, by decide +kernel⟩, tp_in 783 (by decide +kernel) rfl, tp_in 784 (by decide +kernel) rfl⟩
theorem v_L_50 : tp_CV RL 50 mX5_pass 1 := ⟨⟨tp_in 794 (by decide +kernel) rfl, tp_in 797 (by decide +kernel) rfl, tp_in 67 (by decide +kernel) rfl, ⟨by decide +kernel, by decide +kernel⟩, by decide +kernel⟩, tp_in 795 (by decide +kernel) rfl, tp_in 796 (by decide +kernel) rfl⟩
theorem v_L_53 : tp_CV RL 53 mX5_set 2 := ⟨⟨tp_in 808 (by decide +kernel) rfl, tp_in 811 (by decide +kernel) rfl, tp_in 67 (by decide +kernel) rfl, ⟨by decide +kernel, by decide +kernel⟩, by decide +kernel⟩, tp_in 809 (by decide +kernel) rfl, tp_in 810 (by decide +kernel) rfl⟩
theorem v_L_56 : tp_CV RL 56 mX5_append 1 := ⟨⟨tp_in 818 (by decide +kernel) rfl, tp_in 821 (by decide +kernel) rfl, tp_in 67 (by decide +kernel) rfl, ⟨by decide +kernel, by decide +kernel⟩, by decide +kernel⟩, tp_in 819 (by decide +kernel) rfl, tp_in 820 (by decide +kernel) rfl⟩
theorem v_L_59 : tp_CV RL 59 mX5_run 0 := ⟨⟨tp_in 827 (by decide +kernel) rfl, tp_in 830 (by decide +kernel) rfl, tp_in 67 (by decide +kernel) rfl, ⟨by decide +kernel, by decide +kernel⟩, by decide +kernel⟩, tp_in 828 (by decide +kernel) rfl, tp_in 829 (by decide +kernel) rfl⟩
theorem v_L_63 : tp_CV RL 63 mX5_undo 0 := ⟨⟨tp_in 845 (by decide +kernel) rfl, tp_in 848 (by decide +kernel) rfl, tp_in 67 (by decide +kernel) rfl, ⟨by decide +kernel, by decide +kernel⟩, by decide +kernel⟩, tp_in 846 (by decide +kernel) rfl, tp_in 847 (by decide +kernel) rfl⟩
theorem v_L_66 : tp_CV RL 66 mX5_purse 3 := ⟨⟨tp_in 853 (by decide +kernel) rfl, tp_in 475 (by decide +kernel) rfl, tp_in 67 (by decide +kernel) rfl, ⟨by decide +kernel, by decide +kernel⟩, by decide +kernel⟩, tp_in 473 (by decide +kernel) rfl, tp_in 474 (by decide +kernel) rfl⟩
theorem v_L_69 : tp_CV RL 69 mX5_held 2 := ⟨⟨tp_in 857 (by decide +kernel) rfl, tp_in 587 (by decide +kernel) rfl, tp_in 67 (by decide +kernel) rfl, ⟨by decide +kernel, by decide +kernel⟩, by decide +kernel⟩, tp_in 585 (by decide +kernel) rfl, tp_in 586 (by decide +kernel) rfl⟩
theorem v_L_72 : tp_CV RL 72 mX5_payment 2 := ⟨⟨tp_in 861 (by decide +kernel) rfl, tp_in 600 (by decide +kernel) rfl, tp_in 67 (by decide +kernel) rfl, ⟨by decide +kernel, by decide +kernel⟩, by decide +kernel⟩, tp_in 598 (by decide +kernel) rfl, tp_in 599 (by decide +kernel) rfl⟩
theorem v_L_75 : tp_CV RL 75 mX5_count 1 := ⟨⟨tp_in 865 (by decide +kernel) rfl, tp_in 371 (by decide +kernel) rfl, tp_in 67 (by decide +kernel) rfl, ⟨by decide +kernel, by decide +kernel⟩, by decide +kernel⟩, tp_in 369 (by decide +kernel) rfl, tp_in 370 (by decide +kernel) rfl⟩
theorem v_L_78 : tp_CV RL 78 mX5_setting 1 := ⟨⟨tp_in 869 (by decide +kernel) rfl, tp_in 451 (by decide +kernel) rfl, tp_in 67 (by decide +kernel) rfl, ⟨by decide +kernel, by decide +kernel⟩, by decide +kernel⟩, tp_in 449 (by decide +kernel) rfl, tp_in 450 (by decide +kernel) rfl⟩
theorem v_L_81 : tp_CV RL 81 mX5_ifExchanged 4 := ⟨⟨tp_in 873 (by decide +kernel) rfl, tp_in 539 (by decide +kernel) rfl, tp_in 67 (by decide +kernel) rfl, ⟨by decide +kernel, by decide +kernel⟩, by decide +kernel⟩, tp_in 537 (by decide +kernel) rfl, tp_in 538 (by decide +kernel) rfl⟩
theorem v_L_84 : tp_CV RL 84 mX5_needed 3 := ⟨⟨tp_in 877 (by decide +kernel) rfl, tp_in 566 (by decide +kernel) rfl, tp_in 67 (by decide +kernel) rfl, ⟨by decide +kernel, by decide +kernel⟩, by decide +kernel⟩, tp_in 564 (by decide +kernel) rfl, tp_in 565 (by decide +kernel) rfl⟩
theorem v_L_87 : tp_CV RL 87 mX5_room 2 := ⟨⟨tp_in 881 (by decide +kernel) rfl, tp_in 519 (by decide +kernel) rfl, tp_in 67 (by decide +kernel) rfl, ⟨by decide +kernel, by decide +kernel⟩, by decide +kernel⟩, tp_in 517 (by decide +kernel) rfl, tp_in 518 (by decide +kernel) rfl⟩
theorem v_L_90 : tp_CV RL 90 mX5_whyNot 5 := ⟨⟨tp_in 885 (by decide +kernel) rfl, tp_in 888 (by decide +kernel) rfl, tp_in 67 (by decide +kernel) rfl, ⟨by decide +kernel, by decide +kernel⟩, by decide +kernel⟩, tp_in 886 (by decide +kernel) rfl, tp_in 887 (by decide +kernel) rfl⟩
theorem v_L_94 : tp_CV RL 94 mX5_ifClosed 1 := ⟨⟨tp_in 893 (by decide +kernel) rfl, tp_in 579 (by decide +kernel) rfl, tp_in 67 (by decide +kernel) rfl, ⟨by decide +kernel, by decide +kernel⟩, by decide +kernel⟩, tp_in 577 (by decide +kernel) rfl, tp_in 578 (by decide +kernel) rfl⟩
theorem v_L_97 : tp_CV RL 97 mX5_heldShare 2 := ⟨⟨tp_in 897 (by decide +kernel) rfl, tp_in 529 (by decide +kernel) rfl, tp_in 67 (by decide +kernel) rfl, ⟨by decide +kernel, by decide +kernel⟩, by decide +kernel⟩, tp_in 527 (by decide +kernel) rfl, tp_in 528 (by decide +kernel) rfl⟩
theorem n_L_8 : tp_NL RL 8 5 := ⟨RX5, TX5, 6, tyX5, rfl, tp_in 83 (by decide +kernel) rfl, tp_in 84 (by decide +kernel) rfl, tp_in 67 (by decide +kernel) rfl, allX5, tyX5_ok⟩
theorem v_L_101 : tp_CI RL 101 mX5_init 0 := ⟨⟨tp_in 85 (by decide +kernel) rfl, tp_in 87 (by decide +kernel) rfl, tp_in 67 (by decide +kernel) rfl, ⟨by decide +kernel, by decide +kernel⟩, by decide +kernel⟩, rfl, rfl, tp_in 86 (by decide +kernel) rfl⟩
theorem n_L_102 : tp_NL RL 102 6 := ⟨RX6, TX6, 11, tyX6, rfl, tp_in 898 (by decide +kernel) rfl, tp_in 899 (by decide +kernel) rfl, tp_in 73 (by decide +kernel) rfl, allX6, tyX6_ok⟩
theorem v_L_104 : tp_CI RL 104 mX6_init 0 := ⟨⟨tp_in 900 (by decide +kernel) rfl, tp_in 902 (by decide +kernel) rfl, tp_in 73 (by decide +kernel) rfl, ⟨by decide +kernel, by decide +kernel⟩, by decide +kernel⟩, rfl, rfl, tp_in 901 (by decide +kernel) rfl⟩
theorem v_L_105 : tp_CS RL 105 mL_load 4 := ⟨⟨tp_in 614 (by decide +kernel) rfl, tp_in 616 (by decide +kernel) rfl, tp_in 66 (by decide +kernel) rfl, ⟨by decide +kernel, by decide +kernel⟩, by decide +kernel⟩, tp_in 615 (by decide +kernel) rfl⟩
theorem v_L_110 : tp_CV RL 110 mX6_load 2 := ⟨⟨tp_in 942 (by decide +kernel) rfl, tp_in 945 (by decide +kernel) rfl, tp_in 73 (by decide +kernel) rfl, ⟨by decide +kernel, by decide +kernel⟩, by decide +kernel⟩, tp_in 943 (by decide +kernel) rfl, tp_in 944 (by decide +kernel) rfl⟩
theorem v_L_111 : tp_CV RL 111 mX6_thrown 0 := ⟨⟨tp_in 938 (by decide +kernel) rfl, tp_in 941 (by decide +kernel) rfl, tp_in 73 (by decide +kernel) rfl, ⟨by decide +kernel, by decide +kernel⟩, by decide +kernel⟩, tp_in 939 (by decide +kernel) rfl, tp_in 940 (by decide +kernel) rfl⟩
theorem v_L_114 : tp_CS RL 114 mL_quote 4 := ⟨⟨tp_in 683 (by decide +kernel) rfl, tp_in 685 (by decide +kernel) rfl, tp_in 66 (by decide +kernel) rfl, ⟨by decide +kernel, by decide +kernel⟩, by decide +kernel⟩, tp_in 684 (by decide +kernel) rfl⟩
theorem v_L_116 : tp_CV RL 116 mX6_quote 2 := ⟨⟨tp_in 980 (by decide +kernel) rfl, tp_in 983 (by decide +kernel) rfl, tp_in 73 (by decide +kernel) rfl, ⟨by decide +kernel, by decide +kernel⟩, by decide +kernel⟩, tp_in 981 (by decide +kernel) rfl, tp_in 982 (by decide +kernel) rfl⟩
theorem v_L_117 : tp_CS RL 117 mL_lock 4 := ⟨⟨tp_in 692 (by decide +kernel) rfl, tp_in 694 (by decide +kernel) rfl, tp_in 66 (by decide +kernel) rfl, ⟨by decide +kernel, by decide +kernel⟩, by decide +kernel⟩, tp_in 693 (by decide +kernel) rfl⟩
theorem v_L_119 : tp_CV RL 119 mX6_lock 2 := ⟨⟨tp_in 984 (by decide +kernel) rfl, tp_in 987 (by decide +kernel) rfl, tp_in 73 (by decide +kernel) rfl, ⟨by decide +kernel, by decide +kernel⟩, by decide +kernel⟩, tp_in 985 (by decide +kernel) rfl, tp_in 986 (by decide +kernel) rfl⟩
theorem v_L_120 : tp_CS RL 120 mL_exchange 6 := ⟨⟨tp_in 699 (by decide +kernel) rfl, tp_in 701 (by decide +kernel) rfl, tp_in 66 (by decide +kernel) rfl, ⟨by decide +kernel, by decide +kernel⟩, by decide +kernel⟩, tp_in 700 (by decide +kernel) rfl⟩
theorem v_L_123 : tp_CV RL 123 mX6_exchange 4 := ⟨⟨tp_in 997 (by decide +kernel) rfl, tp_in 1000 (by decide +kernel) rfl, tp_in 73 (by decide +kernel) rfl, ⟨by decide +kernel, by decide +kernel⟩, by decide +kernel⟩, tp_in 998 (by decide +kernel) rfl, tp_in 999 (by decide +kernel) rfl⟩
theorem v_L_124 : tp_CS RL 124 mL_hold 5 := ⟨⟨tp_in 717 (by decide +kernel) rfl, tp_in 719 (by decide +kernel) rfl, tp_in 66 (by decide +kernel) rfl, ⟨by decide +kernel, by decide +kernel⟩, by decide +kernel⟩, tp_in 718 (by decide +kernel) rfl⟩
theorem v_L_127 : tp_CV RL 127 mX6_hold 3 := ⟨⟨tp_in 1045 (by decide +kernel) rfl, tp_in 1048 (by decide +kernel) rfl, tp_in 73 (by decide +kernel) rfl, ⟨by decide +kernel, by decide +kernel⟩, by decide +kernel⟩, tp_in 1046 (by decide +kernel) rfl, tp_in 1047 (by decide +kernel) rfl⟩
theorem v_L_128 : tp_CS RL 128 mL_pay 4 := ⟨⟨tp_in 734 (by decide +kernel) rfl, tp_in 736 (by decide +kernel) rfl, tp_in 66 (by decide +kernel) rfl, ⟨by decide +kernel, by decide +kernel⟩, by decide +kernel⟩, tp_in 735 (by decide +kernel) rfl⟩
theorem v_L_130 : tp_CV RL 130 mX6_pay 2 := ⟨⟨tp_in 1061 (by decide +kernel) rfl, tp_in 1064 (by decide +kernel) rfl, tp_in 73 (by decide +kernel) rfl, ⟨by decide +kernel, by decide +kernel⟩, by decide +kernel⟩, tp_in 1062 (by decide +kernel) rfl, tp_in 1063 (by decide +kernel) rfl⟩
theorem v_L_131 : tp_CS RL 131 mL_letGo 3 := ⟨⟨tp_in 751 (by decide +kernel) rfl, tp_in 753 (by decide +kernel) rfl, tp_in 66 (by decide +kernel) rfl, ⟨by decide +kernel, by decide +kernel⟩, by decide +kernel⟩, tp_in 752 (by decide +kernel) rfl⟩
theorem v_L_134 : tp_CV RL 134 mX6_letGo 1 := ⟨⟨tp_in 1073 (by decide +kernel) rfl, tp_in 1076 (by decide +kernel) rfl, tp_in 73 (by decide +kernel) rfl, ⟨by decide +kernel, by decide +kernel⟩, by decide +kernel⟩, tp_in 1074 (by decide +kernel) rfl, tp_in 1075 (by decide +kernel) rfl⟩
theorem v_L_135 : tp_CS RL 135 mL_dispute 3 := ⟨⟨tp_in 758 (by decide +kernel) rfl, tp_in 760 (by decide +kernel) rfl, tp_in 66 (by decide +kernel) rfl, ⟨by decide +kernel, by decide +kernel⟩, by decide +kernel⟩, tp_in 759 (by decide +kernel) rfl⟩
theorem v_L_137 : tp_CV RL 137 mX6_dispute 1 := ⟨⟨tp_in 1077 (by decide +kernel) rfl, tp_in 1080 (by decide +kernel) rfl, tp_in 73 (by decide +kernel) rfl, ⟨by decide +kernel, by decide +kernel⟩, by decide +kernel⟩, tp_in 1078 (by decide +kernel) rfl, tp_in 1079 (by decide +kernel) rfl⟩
theorem v_L_138 : tp_CS RL 138 mL_decide 4 := ⟨⟨tp_in 767 (by decide +kernel) rfl, tp_in 769 (by decide +kernel) rfl, tp_in 66 (by decide +kernel) rfl, ⟨by decide +kernel, by decide +kernel⟩, by decide +kernel⟩, tp_in 768 (by decide +kernel) rfl⟩
theorem v_L_141 : tp_CV RL 141 mX6_decide 2 := ⟨⟨tp_in 1093 (by decide +kernel) rfl, tp_in 1096 (by decide +kernel) rfl, tp_in 73 (by decide +kernel) rfl, ⟨by decide +kernel, by decide +kernel⟩, by decide +kernel⟩, tp_in 1094 (by decide +kernel) rfl, tp_in 1095 (by decide +kernel) rfl⟩
theorem v_L_142 : tp_CS RL 142 mL_close 3 := ⟨⟨tp_in 779 (by decide +kernel) rfl, tp_in 781 (by decide +kernel) rfl, tp_in 66 (by decide +kernel) rfl, ⟨by decide +kernel, by decide +kernel⟩, by decide +kernel⟩, tp_in 780 (by decide +kernel) rfl⟩
theorem v_L_144 : tp_CV RL 144 mX6_close 1 := ⟨⟨tp_in 1101 (by decide +kernel) rfl, tp_in 1104 (by decide +kernel) rfl, tp_in 73 (by decide +kernel) rfl, ⟨by decide +kernel, by decide +kernel⟩, by decide +kernel⟩, tp_in 1102 (by decide +kernel) rfl, tp_in 1103 (by decide +kernel) rfl⟩
theorem v_L_145 : tp_CS RL 145 mL_pass 3 := ⟨⟨tp_in 791 (by decide +kernel) rfl, tp_in 793 (by decide +kernel) rfl, tp_in 66 (by decide +kernel) rfl, ⟨by decide +kernel, by decide +kernel⟩, by decide +kernel⟩, tp_in 792 (by decide +kernel) rfl⟩
theorem v_L_147 : tp_CV RL 147 mX6_pass 1 := ⟨⟨tp_in 1125 (by decide +kernel) rfl, tp_in 1128 (by decide +kernel) rfl, tp_in 73 (by decide +kernel) rfl, ⟨by decide +kernel, by decide +kernel⟩, by decide +kernel⟩, tp_in 1126 (by decide +kernel) rfl, tp_in 1127 (by decide +kernel) rfl⟩
theorem v_L_148 : tp_CS RL 148 mL_set 4 := ⟨⟨tp_in 805 (by decide +kernel) rfl, tp_in 807 (by decide +kernel) rfl, tp_in 66 (by decide +kernel) rfl, ⟨by decide +kernel, by decide +kernel⟩, by decide +kernel⟩, tp_in 806 (by decide +kernel) rfl⟩
theorem v_L_150 : tp_CV RL 150 mX6_set 2 := ⟨⟨tp_in 1133 (by decide +kernel) rfl, tp_in 1136 (by decide +kernel) rfl, tp_in 73 (by decide +kernel) rfl, ⟨by decide +kernel, by decide +kernel⟩, by decide +kernel⟩, tp_in 1134 (by decide +kernel) rfl, tp_in 1135 (by decide +kernel) rfl⟩
theorem v_L_151 : tp_CS RL 151 mL_append 3 := ⟨⟨tp_in 815 (by decide +kernel) rfl, tp_in 817 (by decide +kernel) rfl, tp_in 66 (by decide +kernel) rfl, ⟨by decide +kernel, by decide +kernel⟩, by decide +kernel⟩, tp_in 816 (by decide +kernel) rfl⟩
theorem v_L_153 : tp_CV RL 153 mX6_append 1 := ⟨⟨tp_in 1143 (by decide +kernel) rfl, tp_in 1146 (by decide +kernel) rfl, tp_in 73 (by decide +kernel) rfl, ⟨by decide +kernel, by decide +kernel⟩, by decide +kernel⟩, tp_in 1144 (by decide +kernel) rfl, tp_in 1145 (by decide +kernel) rfl⟩
theorem v_L_154 : tp_CV RL 154 mX5_clearBuffer 0 := ⟨⟨tp_in 326 (by decide +kernel) rfl, tp_in 329 (by decide +kernel) rfl, tp_in 67 (by decide +kernel) rfl, ⟨by decide +kernel, by decide +kernel⟩, by decide +kernel⟩, tp_in 327 (by decide +kernel) rfl, tp_in 328 (by decide +kernel) rfl⟩
theorem v_L_157 : tp_CV RL 157 mX6_clearBuffer 0 := ⟨⟨tp_in 1147 (by decide +kernel) rfl, tp_in 1150 (by decide +kernel) rfl, tp_in 73 (by decide +kernel) rfl, ⟨by decide +kernel, by decide +kernel⟩, by decide +kernel⟩, tp_in 1148 (by decide +kernel) rfl, tp_in 1149 (by decide +kernel) rfl⟩
theorem v_L_158 : tp_CV RL 158 mX5_firstError 0 := ⟨⟨tp_in 330 (by decide +kernel) rfl, tp_in 333 (by decide +kernel) rfl, tp_in 67 (by decide +kernel) rfl, ⟨by decide +kernel, by decide +kernel⟩, by decide +kernel⟩, tp_in 331 (by decide +kernel) rfl, tp_in 332 (by decide +kernel) rfl⟩
theorem v_L_161 : tp_CV RL 161 mX6_firstError 0 := ⟨⟨tp_in 1151 (by decide +kernel) rfl, tp_in 1154 (by decide +kernel) rfl, tp_in 73 (by decide +kernel) rfl, ⟨by decide +kernel, by decide +kernel⟩, by decide +kernel⟩, tp_in 1152 (by decide +kernel) rfl, tp_in 1153 (by decide +kernel) rfl⟩
theorem v_L_162 : tp_CS RL 162 mL_run 2 := ⟨⟨tp_in 824 (by decide +kernel) rfl, tp_in 826 (by decide +kernel) rfl, tp_in 66 (by decide +kernel) rfl, ⟨by decide +kernel, by decide +kernel⟩, by decide +kernel⟩, tp_in 825 (by decide +kernel) rfl⟩
theorem v_L_165 : tp_CV RL 165 mX6_run 0 := ⟨⟨tp_in 1171 (by decide +kernel) rfl, tp_in 1174 (by decide +kernel) rfl, tp_in 73 (by decide +kernel) rfl, ⟨by decide +kernel, by decide +kernel⟩, by decide +kernel⟩, tp_in 1172 (by decide +kernel) rfl, tp_in 1173 (by decide +kernel) rfl⟩
theorem v_L_166 : tp_CS RL 166 mL_undo 2 := ⟨⟨tp_in 842 (by decide +kernel) rfl, tp_in 844 (by decide +kernel) rfl, tp_in 66 (by decide +kernel) rfl, ⟨by decide +kernel, by decide +kernel⟩, by decide +kernel⟩, tp_in 843 (by decide +kernel) rfl⟩
theorem v_L_168 : tp_CV RL 168 mX6_undo 0 := ⟨⟨tp_in 1179 (by decide +kernel) rfl, tp_in 1182 (by decide +kernel) rfl, tp_in 73 (by decide +kernel) rfl, ⟨by decide +kernel, by decide +kernel⟩, by decide +kernel⟩, tp_in 1180 (by decide +kernel) rfl, tp_in 1181 (by decide +kernel) rfl⟩
theorem v_L_169 : tp_CS RL 169 mL_purse 5 := ⟨⟨tp_in 850 (by decide +kernel) rfl, tp_in 852 (by decide +kernel) rfl, tp_in 66 (by decide +kernel) rfl, ⟨by decide +kernel, by decide +kernel⟩, by decide +kernel⟩, tp_in 851 (by decide +kernel) rfl⟩
theorem v_L_171 : tp_CV RL 171 mX6_purse 3 := ⟨⟨tp_in 1183 (by decide +kernel) rfl, tp_in 1186 (by decide +kernel) rfl, tp_in 73 (by decide +kernel) rfl, ⟨by decide +kernel, by decide +kernel⟩, by decide +kernel⟩, tp_in 1184 (by decide +kernel) rfl, tp_in 1185 (by decide +kernel) rfl⟩
theorem v_L_172 : tp_CS RL 172 mL_held 4 := ⟨⟨tp_in 854 (by decide +kernel) rfl, tp_in 856 (by decide +kernel) rfl, tp_in 66 (by decide +kernel) rfl, ⟨by decide +kernel, by decide +kernel⟩, by decide +kernel⟩, tp_in 855 (by decide +kernel) rfl⟩
theorem v_L_174 : tp_CV RL 174 mX6_held 2 := ⟨⟨tp_in 1195 (by decide +kernel) rfl, tp_in 1198 (by decide +kernel) rfl, tp_in 73 (by decide +kernel) rfl, ⟨by decide +kernel, by decide +kernel⟩, by decide +kernel⟩, tp_in 1196 (by decide +kernel) rfl, tp_in 1197 (by decide +kernel) rfl⟩
theorem v_L_175 : tp_CS RL 175 mL_payment 4 := ⟨⟨tp_in 858 (by decide +kernel) rfl, tp_in 860 (by decide +kernel) rfl, tp_in 66 (by decide +kernel) rfl, ⟨by decide +kernel, by decide +kernel⟩, by decide +kernel⟩, tp_in 859 (by decide +kernel) rfl⟩
theorem v_L_177 : tp_CV RL 177 mX6_payment 2 := ⟨⟨tp_in 1199 (by decide +kernel) rfl, tp_in 1202 (by decide +kernel) rfl, tp_in 73 (by decide +kernel) rfl, ⟨by decide +kernel, by decide +kernel⟩, by decide +kernel⟩, tp_in 1200 (by decide +kernel) rfl, tp_in 1201 (by decide +kernel) rfl⟩
theorem v_L_178 : tp_CS RL 178 mL_count 3 := ⟨⟨tp_in 862 (by decide +kernel) rfl, tp_in 864 (by decide +kernel) rfl, tp_in 66 (by decide +kernel) rfl, ⟨by decide +kernel, by decide +kernel⟩, by decide +kernel⟩, tp_in 863 (by decide +kernel) rfl⟩
theorem v_L_180 : tp_CV RL 180 mX6_count 1 := ⟨⟨tp_in 1207 (by decide +kernel) rfl, tp_in 1210 (by decide +kernel) rfl, tp_in 73 (by decide +kernel) rfl, ⟨by decide +kernel, by decide +kernel⟩, by decide +kernel⟩, tp_in 1208 (by decide +kernel) rfl, tp_in 1209 (by decide +kernel) rfl⟩
theorem v_L_181 : tp_CS RL 181 mL_setting 3 := ⟨⟨tp_in 866 (by decide +kernel) rfl, tp_in 868 (by decide +kernel) rfl, tp_in 66 (by decide +kernel) rfl, ⟨by decide +kernel, by decide +kernel⟩, by decide +kernel⟩, tp_in 867 (by decide +kernel) rfl⟩
theorem v_L_183 : tp_CV RL 183 mX6_setting 1 := ⟨⟨tp_in 1219 (by decide +kernel) rfl, tp_in 1222 (by decide +kernel) rfl, tp_in 73 (by decide +kernel) rfl, ⟨by decide +kernel, by decide +kernel⟩, by decide +kernel⟩, tp_in 1220 (by decide +kernel) rfl, tp_in 1221 (by decide +kernel) rfl⟩
theorem v_L_184 : tp_CS RL 184 mL_ifExchanged 6 := ⟨⟨tp_in 870 (by decide +kernel) rfl, tp_in 872 (by decide +kernel) rfl, tp_in 66 (by decide +kernel) rfl, ⟨by decide +kernel, by decide +kernel⟩, by decide +kernel⟩, tp_in 871 (by decide +kernel) rfl⟩
theorem v_L_186 : tp_CV RL 186 mX6_ifExchanged 4 := ⟨⟨tp_in 1223 (by decide +kernel) rfl, tp_in 1226 (by decide +kernel) rfl, tp_in 73 (by decide +kernel) rfl, ⟨by decide +kernel, by decide +kernel⟩, by decide +kernel⟩, tp_in 1224 (by decide +kernel) rfl, tp_in 1225 (by decide +kernel) rfl⟩
theorem v_L_187 : tp_CS RL 187 mL_needed 5 := ⟨⟨tp_in 874 (by decide +kernel) rfl, tp_in 876 (by decide +kernel) rfl, tp_in 66 (by decide +kernel) rfl, ⟨by decide +kernel, by decide +kernel⟩, by decide +kernel⟩, tp_in 875 (by decide +kernel) rfl⟩
theorem v_L_189 : tp_CV RL 189 mX6_needed 3 := ⟨⟨tp_in 1235 (by decide +kernel) rfl, tp_in 1238 (by decide +kernel) rfl, tp_in 73 (by decide +kernel) rfl, ⟨by decide +kernel, by decide +kernel⟩, by decide +kernel⟩, tp_in 1236 (by decide +kernel) rfl, tp_in 1237 (by decide +kernel) rfl⟩
theorem v_L_190 : tp_CS RL 190 mL_room 4 := ⟨⟨tp_in 878 (by decide +kernel) rfl, tp_in 880 (by decide +kernel) rfl, tp_in 66 (by decide +kernel) rfl, ⟨by decide +kernel, by decide +kernel⟩, by decide +kernel⟩, tp_in 879 (by decide +kernel) rfl⟩
theorem v_L_192 : tp_CV RL 192 mX6_room 2 := ⟨⟨tp_in 1244 (by decide +kernel) rfl, tp_in 1247 (by decide +kernel) rfl, tp_in 73 (by decide +kernel) rfl, ⟨by decide +kernel, by decide +kernel⟩, by decide +kernel⟩, tp_in 1245 (by decide +kernel) rfl, tp_in 1246 (by decide +kernel) rfl⟩
theorem v_L_193 : tp_CS RL 193 mL_whyNot 7 := ⟨⟨tp_in 882 (by decide +kernel) rfl, tp_in 884 (by decide +kernel) rfl, tp_in 66 (by decide +kernel) rfl, ⟨by decide +kernel, by decide +kernel⟩, by decide +kernel⟩, tp_in 883 (by decide +kernel) rfl⟩
theorem v_L_196 : tp_CV RL 196 mX6_whyNot 5 := ⟨⟨tp_in 1252 (by decide +kernel) rfl, tp_in 1255 (by decide +kernel) rfl, tp_in 73 (by decide +kernel) rfl, ⟨by decide +kernel, by decide +kernel⟩, by decide +kernel⟩, tp_in 1253 (by decide +kernel) rfl, tp_in 1254 (by decide +kernel) rfl⟩
theorem v_L_197 : tp_CS RL 197 mL_ifClosed 3 := ⟨⟨tp_in 890 (by decide +kernel) rfl, tp_in 892 (by decide +kernel) rfl, tp_in 66 (by decide +kernel) rfl, ⟨by decide +kernel, by decide +kernel⟩, by decide +kernel⟩, tp_in 891 (by decide +kernel) rfl⟩
theorem v_L_199 : tp_CV RL 199 mX6_ifClosed 1 := ⟨⟨tp_in 1256 (by decide +kernel) rfl, tp_in 1259 (by decide +kernel) rfl, tp_in 73 (by decide +kernel) rfl, ⟨by decide +kernel, by decide +kernel⟩, by decide +kernel⟩, tp_in 1257 (by decide +kernel) rfl, tp_in 1258 (by decide +kernel) rfl⟩
theorem v_L_200 : tp_CS RL 200 mL_heldShare 4 := ⟨⟨tp_in 894 (by decide +kernel) rfl, tp_in 896 (by decide +kernel) rfl, tp_in 66 (by decide +kernel) rfl, ⟨by decide +kernel, by decide +kernel⟩, by decide +kernel⟩, tp_in 895 (by decide +kernel) rfl⟩
theorem v_L_203 : tp_CV RL 203 mX6_heldShare 2 := ⟨⟨tp_in 1264 (by decide +kernel) rfl, tp_in 1267 (by decide +kernel) rfl, tp_in 73 (by decide +kernel) rfl, ⟨by decide +kernel, by decide +kernel⟩, by decide +kernel⟩, tp_in 1265 (by decide +kernel) rfl, tp_in 1266 (by decide +kernel) rfl⟩
theorem v_L_204 : tp_CV RL 204 mX5_digest 0 := ⟨⟨tp_in 363 (by decide +kernel) rfl, tp_in 366 (by decide +kernel) rfl, tp_in 67 (by decide +kernel) rfl, ⟨by decide +kernel, by decide +kernel⟩, by decide +kernel⟩, tp_in 364 (by decide +kernel) rfl, tp_in 365 (by decide +kernel) rfl⟩
theorem v_L_208 : tp_CV RL 208 mX6_digest 0 := ⟨⟨tp_in 1272 (by decide +kernel) rfl, tp_in 1275 (by decide +kernel) rfl, tp_in 73 (by decide +kernel) rfl, ⟨by decide +kernel, by decide +kernel⟩, by decide +kernel⟩, tp_in 1273 (by decide +kernel) rfl, tp_in 1274 (by decide +kernel) rfl⟩
theorem ac_int : Cond.arrayClass .int ∈ tp_all := tp_in 153 (by decide +kernel) rfl
theorem ac_long : Cond.arrayClass .long ∈ tp_all := tp_in 1296 (by decide +kernel) rfl
theorem ac_double : Cond.arrayClass .double ∈ tp_all := tp_in 1297 (by decide +kernel) rfl
theorem xl_IllegalStateException_g : ∀ w ∈ (vx_atS RX5 47 "java/lang/IllegalStateException" tp_XN).filter goodWord, w ∈ lw_tbl := by decide +kernel
theorem xl_IllegalStateException : tp_XL RX5 43 47 "java/lang/IllegalStateException" := ⟨by decide +kernel, tp_in 629 (by decide +kernel) rfl, tp_in 79 (by decide +kernel) rfl, fun w hw => List.mem_filter.mpr ⟨xl_IllegalStateException_g w hw, (List.mem_filter.mp hw).2⟩, by decide +kernel, by decide +kernel, by decide +kernel⟩
theorem xl_IndexOutOfBoundsException_g : ∀ w ∈ (vx_atS RX5 67 "java/lang/IndexOutOfBoundsException" tp_XN).filter goodWord, w ∈ lw_tbl := by decide +kernel
theorem xl_IndexOutOfBoundsException : tp_XL RX5 63 67 "java/lang/IndexOutOfBoundsException" := ⟨by decide +kernel, tp_in 452 (by decide +kernel) rfl, tp_in 77 (by decide +kernel) rfl, fun w hw => List.mem_filter.mpr ⟨xl_IndexOutOfBoundsException_g w hw, (List.mem_filter.mp hw).2⟩, by decide +kernel, by decide +kernel, by decide +kernel⟩
theorem xl_IllegalArgumentException_g : ∀ w ∈ (vx_atS RX5 72 "java/lang/IllegalArgumentException" tp_XN).filter goodWord, w ∈ lw_tbl := by decide +kernel
theorem xl_IllegalArgumentException : tp_XL RX5 68 72 "java/lang/IllegalArgumentException" := ⟨by decide +kernel, tp_in 376 (by decide +kernel) rfl, tp_in 78 (by decide +kernel) rfl, fun w hw => List.mem_filter.mpr ⟨xl_IllegalArgumentException_g w hw, (List.mem_filter.mp hw).2⟩, by decide +kernel, by decide +kernel, by decide +kernel⟩
theorem cl_L_13 : Cond.classLink RL 13 "java/lang/IndexOutOfBoundsException" ∈ tp_all := tp_in 617 (by decide +kernel) rfl
theorem cl_L_15 : Cond.classLink RL 15 "java/lang/IllegalArgumentException" ∈ tp_all := tp_in 618 (by decide +kernel) rfl
theorem cl_L_17 : Cond.classLink RL 17 "java/lang/IllegalStateException" ∈ tp_all := tp_in 619 (by decide +kernel) rfl
end
