section
/-! ===== BEGIN words of one list among another's, by their places ===== -/
theorem goodIn_r {big : List Cond} (ws : List Cond) (ps : List Nat) (hp : ws = ps.filterMap (fun i => big[i]?)) (h : ws.all goodWord = true) : GoodIn big ws := by
  intro w hw
  have h1 := List.all_eq_true.mp h w hw
  rw [hp] at hw
  obtain ⟨i, -, hi⟩ := List.mem_filterMap.mp hw
  have hm : w ∈ big := by first | exact List.mem_of_getElem? hi | exact List.getElem?_mem hi
  exact ⟨hm, good_of_word h1⟩
theorem goodIn_app {big a b : List Cond} (ha : GoodIn big a) (hb : GoodIn big b) : GoodIn big (a ++ b) := fun w h => (List.mem_append.mp h).elim (ha w) (hb w)
theorem goodIn_ca {big a b : List Cond} {c : Cond} (ha : GoodIn big (c :: a)) (hb : GoodIn big b) : GoodIn big (c :: (a ++ b)) := fun w h => (List.mem_cons.mp h).elim (fun e => ha w (List.mem_cons.mpr (Or.inl e))) (fun h => (List.mem_append.mp h).elim (fun h => ha w (List.mem_cons.mpr (Or.inr h))) (hb w))
theorem goodIn_sub {big ws : List Cond} (hm : ∀ w ∈ ws, w ∈ big) (h : ws.all goodWord = true) : GoodIn big ws := fun w hw => ⟨hm w hw, good_of_word (List.all_eq_true.mp h w hw)⟩
/-! ===== END ===== -/

/-! ===== BEGIN exceptions that leave a method, and their catching by the caller (launches without stack traces) ===== -/
section VXA
/-! The laws vx_back, vx_callV, vx_callS, vx_callSW, vx_throw0, vx_throwS follow proofs of the library, with one case more: JvmDerived/Free/Laws.lean (Back.of_free), Shelf42/LK1.lean (callV, callS), Shelf/KitTraced.lean (throwNew0V, throwNewS). -/
/-- where a method has thrown q: the class by its name, the cell, what was written, the world -/
def vx_T (XC : String → State → State → Prop) (st : State) (q : Addr) (t : State) (mc ms : Nat) (free : Addr → Prop) : Prop :=
  ∃ (E : String) (ce : Cell) (L : List Loc), XC E st t ∧ t.heap[q]? = some ce ∧ ce.vm = .none ∧ st.vm.findClass E = some ce.cls ∧ st.WarmedH t.vm ∧ st.sameButNew ({ t with vm := st.vm } : State) L mc ms ∧ ∀ z ∈ L, free z.base
def vx_Q (Qc : Array Value → State → Outcome → State → Prop) (XC : String → State → State → Prop) (mc ms : Nat) (free : Addr → Prop) : Array Value → State → Outcome → State → Prop := fun a st o t =>
  (Qc a st o t ∧ ∃ L, FrameEnd st o t L mc ms ∧ ∀ q ∈ L, free q.base) ∨ ∃ q, o = .threw q ∧ vx_T XC st q t mc ms free
/-- a callee that returns or throws -/
def vx_Met (l : Launch) (y : MethodName) (ws : List Cond) (rm : Room) (Pc : Array Value → State → Prop) (Qc : Array Value → State → Outcome → State → Prop) (XC : String → State → State → Prop) (mc ms : Nat) (free : Addr → Prop) : Prop :=
  MetFree l y (headSpec ws rm) Pc (fun _ _ _ _ _ => True) (vx_Q Qc XC mc ms free)
def vx_Post (XC : String → State → State → Prop) (mc ms : Nat) (free : Addr → Prop) : Pt → Array Value → Addr → Pt → Prop := fun A a q B =>
  ∃ (g : JFrame) (mk : MethodId) (t : State) (L : List Loc) (E : String) (ce : Cell), B.U.heap = t.heap ∧ B.U.vm = t.vm ∧ XC E (A.U.calling g mk a) t ∧ t.heap[q]? = some ce ∧ ce.vm = .none ∧ A.U.vm.findClass E = some ce.cls ∧ B.locs = A.locs ++ L ∧ (∀ z ∈ L, free z.base) ∧ B.cells = A.cells + mc ∧ B.slots = A.slots + ms
def vx_Back (l : Launch) (R : Room) (p : Program) (e : Env) (below : List Frame) (s : State) (sargs : Array Value) (y : MethodName) (len W9 : Nat)
    (Pre : Pt → Array Value → Prop) (Post : Pt → Array Value → Option Value → Pt → Prop) (PostX : Pt → Array Value → Addr → Pt → Prop) : Prop :=
  ∀ (m : MethodId) (meth : Method) (c : Code) (A : Pt) (g : JFrame) (ig : Instr) (mk : MethodId) (a : Array Value),
    Stand p l e R s m sargs below meth c A.U A.locs A.cells A.slots → g.method = m → g.locals.size = c.maxLocals → decode c.code g.pc = .ok (ig, len) →
    2 * g.monitorRoom + (g.stack.map fun v => v.category).sum ≤ W9 → A.U.methodNamed? y = some mk → Pre A a →
    (∃ (v : Option Value) (B : Pt), Stand p l e R s m sargs below meth c B.U B.locs B.cells B.slots ∧ Post A a v B ∧
      Steps p.tables e below (doInvoke e (A.U.setTop g) [] mk a).1 (B.U.setTop { g with pc := g.pc + len, stack := v.toList ++ g.stack })) ∨
    (∃ (q : Addr) (B : Pt), Stand p l e R s m sargs below meth c B.U B.locs B.cells B.slots ∧ PostX A a q B ∧
      Steps p.tables e below (doInvoke e (A.U.setTop g) [] mk a).1 ((B.U.setTop g).pushFrame (.throwing q)))
section Payer
variable {l : Launch} {R : Room} {p : Program} {e : Env} {below : List Frame} {s : State} {sargs : Array Value} {y : MethodName} {len W9 : Nat}
theorem vx_back {ws : List Cond} {rm : Room} {Pc : Array Value → State → Prop} {Qc : Array Value → State → Outcome → State → Prop} {XC : String → State → State → Prop} {mc ms : Nat} {free : Addr → Prop} {bytes : ByteArray} {maxL : Nat} {ret : Option FieldType}
    (hM : vx_Met l y ws rm Pc Qc XC mc ms free) (hblind : FrameBlind Pc) (hrc : rm.cells = mc) (hrs : rm.slots = ms)
    (hframes : rm.frames + 1 ≤ R.frames) (hlocals : W9 + (maxL + 11) + rm.locals ≤ R.locals)
    (hws : ∀ w ∈ ws, ∀ a' U, s.WarmedH U.vm → w.before a' U = true) (hcode : Cond.code y bytes maxL ret ∈ ws) (hinit : ∀ a' U, s.WarmedH U.vm → (Cond.initialized y.cls).before a' U = true) :
    vx_Back l R p e below s sargs y len W9 (PreOf R mc ms Pc) (PostOf Qc mc ms free) (vx_Post XC mc ms free) := by
  intro m meth c A g ig mk a X hg hsize hdg hW hn hp
  have h1 : (headSpec ws rm).pre.before a A.U = true := atoms_intro fun w hw => hws w hw _ _ X.warmed
  have h2 : (Cond.code y bytes maxL ret).before a A.U = true := hws _ hcode _ _ X.warmed
  have h3 : (Cond.initialized y.cls).before a A.U = true := hinit _ _ X.warmed
  have h4 : A.cells + (headSpec ws rm).room.cells ≤ R.cells := by rw [show (headSpec ws rm).room.cells = mc from hrc]; exact hp.1
  have h5 : A.slots + (headSpec ws rm).room.slots ≤ R.slots := by rw [show (headSpec ws rm).room.slots = ms from hrs]; exact hp.2.1
  have hPc : Pc a (A.U.calling g mk a) := hblind _ _ _ _ hp.2.2
  obtain ⟨U, Ls, c0, s0⟩ := A
  dsimp only [Pt.U, Pt.locs, Pt.cells, Pt.slots] at h1 h2 h3 h4 h5 X hn hPc ⊢
  obtain ⟨methY, cY, hmY, hcY, -, hlY, -, -, -, -⟩ := Cond.code_spec hn h2
  obtain ⟨kY, hkY, -⟩ := className_of_methodNamed hn
  have hinitY : kY.init = .initialized := Cond.initialized_spec (findClass_of_methodNamed hn) hkY h3
  have h : At U g.method c below := by rw [hg]; exact X.here
  have hlocals9 : W9 + (maxL + 11) + (headSpec ws rm).room.locals ≤ R.locals := hlocals
  have happ : (headSpec ws rm).appliesLoose y e.platform (U.calling g mk a) = true :=
    Spec.appliesLoose_calling (g := g) h hdg hn hkY hinitY
      (X.room_calling (g := g) (R' := (headSpec ws rm).room) hsize hmY hcY hframes (by rw [hlY]; omega) h4 h5) h1
  obtain ⟨mid, hmid⟩ := h.above
  have hfr : (U.setTop g).frames = (.java g :: mid) ++ below := by rw [State.frames_setTop' g h.top, hmid]; rfl
  obtain ⟨o, s₂, hsteps, -, hend, hq⟩ := Steps.callFree hM p X.admits X.cas X.clock (acts := []) hfr happ hPc trivial
  have hq' : vx_Q Qc XC mc ms free a (U.calling g mk a) o s₂ := hq
  rw [State.frames_setTop' g h.top] at hend
  obtain ⟨g₀, hg0⟩ := Option.isSome_iff_exists.mp h.top
  obtain ⟨r, hr⟩ := State.topJava?_eq_some.mp hg0
  have hr' : (({ U with heap := s₂.heap, slotsUsed := s₂.slotsUsed } : State).setVm s₂.vm).frames = .java g₀ :: r := hr
  rcases hq' with ⟨hqc, L, hfe, hL⟩ | ⟨q, rfl, E, ce, L, hx, hce, hcv, hcl, hW₂, hsm, hL⟩
  · obtain ⟨⟨v, rfl⟩, hW₂, e2, q2, q3, q4, q5, q6⟩ := id hfe
    have e3 : s₂ = ({ (U.calling g mk a).setFrames s₂.frames with heap := s₂.heap, slotsUsed := s₂.slotsUsed } : State).setVm s₂.vm := by
      have : s₂ = ({ s₂ with vm := (U.calling g mk a).vm } : State).setVm s₂.vm := rfl
      rw [e2] at this
      exact this
    obtain ⟨c₂, i₂, len₂, hc₂, hd₂, hf₂⟩ := hend
    have hW' : U.WarmedH s₂.vm := hW₂
    have hcc : c₂ = c := by
      have h1 : s₂.code? g.method = U.code? g.method := by
        rw [State.code?_eq, State.code?_eq, hW'.alike.method?]
      exact Option.some.inj (hc₂.symm.trans (h1.trans h.code))
    subst hcc
    have hlen : len₂ = len := by rw [hdg] at hd₂; cases hd₂; rfl
    subst hlen
    have hs₂ : s₂ = (({ U with heap := s₂.heap, slotsUsed := s₂.slotsUsed } : State).setVm s₂.vm).setTop { g with pc := g.pc + len₂, stack := v.toList ++ g.stack } := by
      refine e3.trans ?_
      rw [hf₂, State.calling_eq h.top, State.setFrames_setFrames, State.setTop_of_frames _ hr', hr]
      rfl
    have hsame : U.sameButNew ({ U with heap := s₂.heap, slotsUsed := s₂.slotsUsed } : State) L mc ms := by
      refine ⟨?_, q2, q3, q4, q5, q6⟩
      obtain ⟨t, ht, -⟩ := State.frames_cons hr
      show ({ U with heap := s₂.heap, slotsUsed := s₂.slotsUsed } : State) = { U.setFrames U.frames with heap := s₂.heap, slotsUsed := s₂.slotsUsed }
      rw [State.setFrames_self ht]
    subst hg
    refine Or.inl ⟨v, ⟨(({ U with heap := s₂.heap, slotsUsed := s₂.slotsUsed } : State).setVm s₂.vm), Ls ++ L, c0 + mc, s0 + ms⟩,
      ⟨X.admits, X.cas, X.clock, X.frames, X.room, X.hears, X.method, X.code, (X.here.setHeapUsed s₂.heap s₂.slotsUsed).setVm hW'.alike, X.tail, State.WarmedH.trans X.warmed hW', X.limits, X.bytes, X.same.trans (hsame.setVm s.vm)⟩,
      ⟨g, mk, s₂, L, rfl, rfl, hqc, rfl, hL, rfl, rfl⟩, ?_⟩
    show Steps p.tables e below _ ((({ U with heap := s₂.heap, slotsUsed := s₂.slotsUsed } : State).setVm s₂.vm).setTop { g with pc := g.pc + len₂, stack := v.toList ++ g.stack })
    rw [← hs₂]
    exact hsteps
  · obtain ⟨e2, q2, q3, q4, q5, q6⟩ := id hsm
    have e3 : s₂ = ({ (U.calling g mk a).setFrames s₂.frames with heap := s₂.heap, slotsUsed := s₂.slotsUsed } : State).setVm s₂.vm := by
      have : s₂ = ({ s₂ with vm := (U.calling g mk a).vm } : State).setVm s₂.vm := rfl
      rw [e2] at this
      exact this
    have hf₂ : s₂.frames = .throwing q :: .java g :: U.frames.tail := hend
    have hW' : U.WarmedH s₂.vm := hW₂
    have hs₂ : s₂ = ((({ U with heap := s₂.heap, slotsUsed := s₂.slotsUsed } : State).setVm s₂.vm).setTop g).pushFrame (.throwing q) := by
      refine e3.trans ?_
      rw [hf₂, State.calling_eq h.top, State.setFrames_setFrames, State.pushFrame, State.frames_setTop _ hr', State.setTop_of_frames _ hr', State.setFrames_setFrames, hr]
      rfl
    have hsame : U.sameButNew ({ U with heap := s₂.heap, slotsUsed := s₂.slotsUsed } : State) L mc ms := by
      refine ⟨?_, q2, q3, q4, q5, q6⟩
      obtain ⟨t, ht, -⟩ := State.frames_cons hr
      show ({ U with heap := s₂.heap, slotsUsed := s₂.slotsUsed } : State) = { U.setFrames U.frames with heap := s₂.heap, slotsUsed := s₂.slotsUsed }
      rw [State.setFrames_self ht]
    subst hg
    refine Or.inr ⟨q, ⟨(({ U with heap := s₂.heap, slotsUsed := s₂.slotsUsed } : State).setVm s₂.vm), Ls ++ L, c0 + mc, s0 + ms⟩,
      ⟨X.admits, X.cas, X.clock, X.frames, X.room, X.hears, X.method, X.code, (X.here.setHeapUsed s₂.heap s₂.slotsUsed).setVm hW'.alike, X.tail, State.WarmedH.trans X.warmed hW', X.limits, X.bytes, X.same.trans (hsame.setVm s.vm)⟩,
      ⟨g, mk, s₂, L, E, ce, rfl, rfl, hx, hce, hcv, hcl, rfl, hL, rfl, rfl⟩, ?_⟩
    show Steps p.tables e below _ (((({ U with heap := s₂.heap, slotsUsed := s₂.slotsUsed } : State).setVm s₂.vm).setTop g).pushFrame (.throwing q))
    rw [← hs₂]
    exact hsteps
end Payer
section Calls
variable {p : Program} {l : Launch} {e : Env} {R : Room} {s : State} {m : MethodId} {args : Array Value} {below : List Frame} {meth : Method} {c : Code} {T : State} {locs : List Loc} {cells slots : Nat}
theorem vx_callV (X : Stand p l e R s m args below meth c T locs cells slots) (hexec : p.tables.exec = Jvm.exec) {own C : String} {index : Nat} {y : MethodName} {bytes : ByteArray} {maxL : Nat} {ret : Option FieldType}
    (hown : s.vm.findClass own = some m.cls) (hlink : (Cond.methodLink own index y).before args s = true) (hinst : (Cond.instanceMethod y).before args s = true) (hsel : (Cond.selects C y y).before args s = true)
    (hcode : (Cond.code y bytes maxL ret).before args s = true) (hy : y.cls ≠ "java/lang/invoke/MethodHandle" ∧ y.cls ≠ "java/lang/invoke/VarHandle")
    {W9 : Nat} {Pre : Pt → Array Value → Prop} {Post : Pt → Array Value → Option Value → Pt → Prop} {PostX : Pt → Array Value → Addr → Pt → Prop} (hK : vx_Back l R p e below s args y 3 W9 Pre Post PostX)
    {b : Addr} {cellB : Cell} (hcell : T.heap[b]? = some cellB) (hobj : cellB.vm.isStatics = false) (hcls : s.vm.findClass C = some cellB.cls)
    {g : JFrame} (hg : g.method = m) (hsize : g.locals.size = c.maxLocals) {argsL rest : List Value} (hlen : ∀ sig, parseMethodDescriptor y.desc = some sig → argsL.length = sig.parameters.length)
    (hstack : g.stack = argsL.reverse ++ .ref b :: rest) (hW : 2 * g.monitorRoom + (rest.map fun v => v.category).sum ≤ W9) (hdg : decode c.code g.pc = .ok (.invokevirtual index, 3))
    (hpre : ∀ vm₁, s.WarmedH vm₁ → Pre ⟨T.setVm vm₁, locs, cells, slots⟩ (Value.ref b :: argsL).toArray) :
    (∃ (v : Option Value) (vm₁ : Vm) (B : Pt), s.WarmedH vm₁ ∧ Stand p l e R s m args below meth c B.U B.locs B.cells B.slots ∧ Post ⟨T.setVm vm₁, locs, cells, slots⟩ (Value.ref b :: argsL).toArray v B ∧
      ∀ target, Steps p.tables e below (B.U.setTop { g with pc := g.pc + 3, stack := v.toList ++ rest }) target → Steps p.tables e below (T.setTop g) target) ∨
    (∃ (q : Addr) (vm₁ : Vm) (B : Pt), s.WarmedH vm₁ ∧ Stand p l e R s m args below meth c B.U B.locs B.cells B.slots ∧ PostX ⟨T.setVm vm₁, locs, cells, slots⟩ (Value.ref b :: argsL).toArray q B ∧
      Steps p.tables e below (T.setTop g) ((B.U.setTop { g with stack := rest }).pushFrame (.throwing q))) := by
  obtain ⟨mk, methM, hnamed, hmethM, hstM, habM⟩ := Cond.instanceMethod_spec hinst
  obtain ⟨methM', cM, hmethM', -, -, -, -, -, -, hsigM⟩ := Cond.code_spec hnamed hcode
  cases hmethM.symm.trans hmethM'
  obtain ⟨c2, r2, m2, q1, q2, q3, q4, kP, hkP, hkPi⟩ := Cond.selects_spec hsel
  cases hcls.symm.trans q1
  cases (State.methodFound?_of_named hnamed hy).symm.trans q2
  cases hnamed.symm.trans q3
  have hselP : selectMethod e.platform s.vm cellB.cls mk = .method mk := by rw [Launch.admits_selectMethod X.admits]; exact q4
  obtain ⟨vm₁, X₁, hstep₁⟩ := X.invokevirtual hexec hown hlink hnamed hmethM hstM hkP hkPi hy (a := b) (cell := cellB) hcell
    (fun z h => by rw [h] at hobj; cases hobj) hselP hmethM habM hkP hkPi (g := g) hg (argsL := argsL) (rest := rest) (hlen _ hsigM) hstack hdg
  rcases hK m meth c ⟨T.setVm vm₁, locs, cells, slots⟩ { g with stack := rest } (.invokevirtual index) mk (Value.ref b :: argsL).toArray X₁ hg hsize hdg hW (X₁.named hnamed) (hpre vm₁ X₁.warmed) with ⟨v, B, X', hpost, hsteps⟩ | ⟨q, B, X', hpost, hsteps⟩
  · exact Or.inl ⟨v, vm₁, B, X₁.warmed, X', hpost, fun target h => hstep₁ _ fun acts => by rw [doInvoke_state]; exact hsteps.trans h⟩
  · exact Or.inr ⟨q, vm₁, B, X₁.warmed, X', hpost, hstep₁ _ fun acts => by rw [doInvoke_state]; exact hsteps⟩
theorem vx_callS (X : Stand p l e R s m args below meth c T locs cells slots) (hexec : p.tables.exec = Jvm.exec) {own : String} {index : Nat} {y : MethodName} {bytes : ByteArray} {maxL : Nat} {ret : Option FieldType}
    (hown : s.vm.findClass own = some m.cls) (hlink : (Cond.methodLink own index y).before args s = true) (hstat : (Cond.static y).before args s = true) (hinit : (Cond.initialized y.cls).before args s = true)
    (hcode : (Cond.code y bytes maxL ret).before args s = true) (hy : y.cls ≠ "java/lang/invoke/MethodHandle" ∧ y.cls ≠ "java/lang/invoke/VarHandle")
    {W9 : Nat} {Pre : Pt → Array Value → Prop} {Post : Pt → Array Value → Option Value → Pt → Prop} {PostX : Pt → Array Value → Addr → Pt → Prop} (hK : vx_Back l R p e below s args y 3 W9 Pre Post PostX)
    {g : JFrame} (hg : g.method = m) (hsize : g.locals.size = c.maxLocals) {argsL rest : List Value} (hlen : ∀ sig, parseMethodDescriptor y.desc = some sig → argsL.length = sig.parameters.length)
    (hstack : g.stack = argsL.reverse ++ rest) (hW : 2 * g.monitorRoom + (rest.map fun v => v.category).sum ≤ W9) (hdg : decode c.code g.pc = .ok (.invokestatic index, 3))
    (hpre : ∀ vm₁, s.WarmedH vm₁ → Pre ⟨T.setVm vm₁, locs, cells, slots⟩ argsL.toArray) :
    (∃ (v : Option Value) (vm₁ : Vm) (B : Pt), s.WarmedH vm₁ ∧ Stand p l e R s m args below meth c B.U B.locs B.cells B.slots ∧ Post ⟨T.setVm vm₁, locs, cells, slots⟩ argsL.toArray v B ∧
      ∀ target, Steps p.tables e below (B.U.setTop { g with pc := g.pc + 3, stack := v.toList ++ rest }) target → Steps p.tables e below (T.setTop g) target) ∨
    (∃ (q : Addr) (vm₁ : Vm) (B : Pt), s.WarmedH vm₁ ∧ Stand p l e R s m args below meth c B.U B.locs B.cells B.slots ∧ PostX ⟨T.setVm vm₁, locs, cells, slots⟩ argsL.toArray q B ∧
      Steps p.tables e below (T.setTop g) ((B.U.setTop { g with stack := rest }).pushFrame (.throwing q))) := by
  obtain ⟨mk, hnamed⟩ := Cond.code_named hcode
  obtain ⟨methM, cM, hmethM, -, -, -, -, -, -, hsigM⟩ := Cond.code_spec hnamed hcode
  have hstatic : methM.isStatic = true := Cond.static_spec hnamed hmethM hstat
  obtain ⟨kP, hkP, -⟩ := className_of_methodNamed hnamed
  have hinitP : kP.init = .initialized := Cond.initialized_spec (findClass_of_methodNamed hnamed) hkP hinit
  obtain ⟨vm₁, X₁, hstep₁⟩ := X.invokestatic hexec hown hlink hnamed hmethM hstatic hkP hinitP hy (g := g) hg (argsL := argsL) (rest := rest) (hlen _ hsigM) hstack hdg
  rcases hK m meth c ⟨T.setVm vm₁, locs, cells, slots⟩ { g with stack := rest } (.invokestatic index) mk argsL.toArray X₁ hg hsize hdg hW (X₁.named hnamed) (hpre vm₁ X₁.warmed) with ⟨v, B, X', hpost, hsteps⟩ | ⟨q, B, X', hpost, hsteps⟩
  · exact Or.inl ⟨v, vm₁, B, X₁.warmed, X', hpost, fun target h => hstep₁ _ fun acts => by rw [doInvoke_state]; exact hsteps.trans h⟩
  · exact Or.inr ⟨q, vm₁, B, X₁.warmed, X', hpost, hstep₁ _ fun acts => by rw [doInvoke_state]; exact hsteps⟩
end Calls
theorem vx_cls {s : State} {T : State} {vm₁ : Vm} {E : String} {k : ClassId} (hW : s.WarmedH vm₁) (h : (T.setVm vm₁).vm.findClass E = some k) : s.vm.findClass E = some k := by
  have h1 : vm₁.findClass E = some k := h
  rw [hW.alike.findClass] at h1
  exact h1
/-- the method's frame g, with q thrown over it -/
def vx_W (p : Program) (l : Launch) (e : Env) (R : Room) (s : State) (m : MethodId) (args : Array Value) (below : List Frame) (meth : Method) (c : Code) (H : Heap) (locs : List Loc) (cells slots : Nat) (Q : State → Prop) (g : JFrame) (q : Addr) : Prop :=
  ∀ T : State, T.heap = H → Stand p l e R s m args below meth c T locs cells slots → ∃ t, Steps p.tables e below ((T.setTop g).pushFrame (.throwing q)) t ∧ Q t
def vx_Run (p : Program) (l : Launch) (e : Env) (R : Room) (s : State) (m : MethodId) (args : Array Value) (below : List Frame) (meth : Method) (c : Code) (H : Heap) (locs : List Loc) (cells slots mc ms : Nat) (g : JFrame) (rest : List Value) (Qa : State → Outcome → State → Prop) (XC : String → State → State → Prop) (free : Addr → Prop) : Prop :=
  ∀ T : State, T.heap = H → Stand p l e R s m args below meth c T locs cells slots →
    (∃ (v : Option Value) (st₀ t T' : State) (L : List Loc), st₀.heap = H ∧ Stand p l e R s m args below meth c T' (locs ++ L) (cells + mc) (slots + ms) ∧ (∀ q ∈ L, free q.base) ∧ T'.heap = t.heap ∧ T'.vm = t.vm ∧ Qa st₀ (.returned v) t ∧
      Goes p e below T g T' { g with pc := g.pc + 3, stack := v.toList ++ rest }) ∨
    (∃ (q : Addr) (st₀ t T' : State) (L : List Loc) (E : String) (ce : Cell), st₀.heap = H ∧ Stand p l e R s m args below meth c T' (locs ++ L) (cells + mc) (slots + ms) ∧ (∀ z ∈ L, free z.base) ∧ T'.heap = t.heap ∧ T'.vm = t.vm ∧ XC E st₀ t ∧ t.heap[q]? = some ce ∧ ce.vm = .none ∧ s.vm.findClass E = some ce.cls ∧
      Steps p.tables e below (T.setTop g) ((T'.setTop { g with stack := rest }).pushFrame (.throwing q)))
def vx_X {S : Type} (px : S → Prop) (B : String → S → State → Prop) (A : Nat → Prop) : String → State → State → Prop := fun E st t => ∃ u : S, px u ∧ B E u t ∧ va_F A st t
section Runs
variable {p : Program} {l : Launch} {e : Env} {R : Room} {s : State} {m : MethodId} {args : Array Value} {below : List Frame} {meth : Method} {c : Code} {H : Heap} {locs : List Loc} {cells slots : Nat}
variable {y : MethodName} {bytes cc : ByteArray} {maxL nL mc ms n index : Nat} {ret : Option FieldType} {ws : List Cond} {rm : Room} {Pc : Array Value → State → Prop} {Qc : Array Value → State → Outcome → State → Prop} {XC : String → State → State → Prop} {free : Addr → Prop} {Ts : List Cond} {own C : String} {b : Addr} {As rest : List Value} {g : JFrame}
theorem vx_callBack (cb : CallB R s args own index y bytes maxL ret ws rm mc ms n) (hM : vx_Met l y ws rm Pc Qc XC mc ms free) (hbl : FrameBlind Pc) : vx_Back l R p e below s args y 3 8 (PreOf R mc ms Pc) (PostOf Qc mc ms free) (vx_Post XC mc ms free) := by
  obtain ⟨hrc, hrs, hfr, hlo, hws, hcw, -, hini, -⟩ := cb
  exact vx_back (bytes := bytes) (maxL := maxL) (ret := ret) hM hbl hrc hrs hfr hlo hws hcw (fun a' U hW => word_at hW (Or.inl (by first | rfl | simp [Cond.onTables, Cond.keeps, Cond.steady])) hini)
theorem vx_runV (S : CallFix p m c cc nL s args Ts own) (hM : vx_Met l y ws rm Pc Qc XC mc ms free) (cw : CallW R s args own C index y bytes maxL ret ws rm mc ms n) (hp : PreV s H C b Pc As)
    (hg : g.method = m) (hn : As.length = n) (hsize : g.locals.size = nL) (hstack : g.stack = As.reverse ++ .ref b :: rest) (hW : 2 * g.monitorRoom + (rest.map fun v => v.category).sum ≤ 8) (hdg : decode cc g.pc = .ok (.invokevirtual index, 3)) (hf : cells + mc ≤ R.cells ∧ slots + ms ≤ R.slots) :
    vx_Run p l e R s m args below meth c H locs cells slots mc ms g rest (Qc (Value.ref b :: As).toArray) XC free := by
  have hK : vx_Back l R p e below s args y 3 8 (PreOf R mc ms Pc) (PostOf Qc mc ms free) (vx_Post XC mc ms free) := vx_callBack cw.1 hM hp.1
  obtain ⟨⟨-, -, -, -, -, -, hcode, -, hy, hlen, hl⟩, hin, hse⟩ := cw
  obtain ⟨hx, hb, hml, ho, -⟩ := S
  obtain ⟨-, ⟨cellB, hcB, hoB, hclB⟩, hPc⟩ := hp
  intro T hT X
  rcases vx_callV X hx (C := C) (bytes := bytes) (maxL := maxL) (ret := ret) ho hl hin hse hcode hy hK (by rw [hT]; exact hcB) hoB hclB hg (hsize.trans hml.symm) (argsL := As) (rest := rest) (fun sig h => hn.trans (hlen sig h)) hstack hW (by rw [hb]; exact hdg)
    (fun vm₁ hW₁ => ⟨hf.1, hf.2, hPc (T.setVm vm₁) hT hW₁⟩) with ⟨v, vm₁, ⟨U', l2, c2, s2⟩, hW₁, X', ⟨g', mk, t, L, e1, e2, hq, h1, hL, h2, h3⟩, st⟩ | ⟨q, vm₁, ⟨U', l2, c2, s2⟩, hW₁, X', ⟨g', mk, t, L, E, ce, e1, e2, hq, hce, hcv, hcl, h1, hL, h2, h3⟩, st⟩
  · dsimp only [Pt.U, Pt.locs, Pt.cells, Pt.slots] at X' e1 e2 h1 h2 h3 st
    subst h1; subst h2; subst h3
    exact Or.inl ⟨v, (T.setVm vm₁).calling g' mk (Value.ref b :: As).toArray, t, U', L, hT, X', hL, e1, e2, hq, st⟩
  · dsimp only [Pt.U, Pt.locs, Pt.cells, Pt.slots] at X' e1 e2 h1 h2 h3 st hcl
    subst h1; subst h2; subst h3
    exact Or.inr ⟨q, (T.setVm vm₁).calling g' mk (Value.ref b :: As).toArray, t, U', L, E, ce, hT, X', hL, e1, e2, hq, hce, hcv, vx_cls hW₁ hcl, st⟩
theorem vx_runS (S : CallFix p m c cc nL s args Ts own) (hM : vx_Met l y ws rm Pc Qc XC mc ms free) (cw : CallB R s args own index y bytes maxL ret ws rm mc ms n ∧ (Cond.static y).before args s = true) (hp : PreS s H Pc As)
    (hg : g.method = m) (hn : As.length = n) (hsize : g.locals.size = nL) (hstack : g.stack = As.reverse ++ rest) (hW : 2 * g.monitorRoom + (rest.map fun v => v.category).sum ≤ 8) (hdg : decode cc g.pc = .ok (.invokestatic index, 3)) (hf : cells + mc ≤ R.cells ∧ slots + ms ≤ R.slots) :
    vx_Run p l e R s m args below meth c H locs cells slots mc ms g rest (Qc As.toArray) XC free := by
  have hK : vx_Back l R p e below s args y 3 8 (PreOf R mc ms Pc) (PostOf Qc mc ms free) (vx_Post XC mc ms free) := vx_callBack cw.1 hM hp.1
  obtain ⟨⟨-, -, -, -, -, -, hcode, hini, hy, hlen, hl⟩, hstt⟩ := cw
  obtain ⟨hx, hb, hml, ho, -⟩ := S
  intro T hT X
  rcases vx_callS X hx (bytes := bytes) (maxL := maxL) (ret := ret) ho hl hstt hini hcode hy hK hg (hsize.trans hml.symm) (argsL := As) (rest := rest) (fun sig h => hn.trans (hlen sig h)) hstack hW (by rw [hb]; exact hdg)
    (fun vm₁ hW₁ => ⟨hf.1, hf.2, hp.2 (T.setVm vm₁) hT hW₁⟩) with ⟨v, vm₁, ⟨U', l2, c2, s2⟩, hW₁, X', ⟨g', mk, t, L, e1, e2, hq, h1, hL, h2, h3⟩, st⟩ | ⟨q, vm₁, ⟨U', l2, c2, s2⟩, hW₁, X', ⟨g', mk, t, L, E, ce, e1, e2, hq, hce, hcv, hcl, h1, hL, h2, h3⟩, st⟩
  · dsimp only [Pt.U, Pt.locs, Pt.cells, Pt.slots] at X' e1 e2 h1 h2 h3 st
    subst h1; subst h2; subst h3
    exact Or.inl ⟨v, (T.setVm vm₁).calling g' mk As.toArray, t, U', L, hT, X', hL, e1, e2, hq, st⟩
  · dsimp only [Pt.U, Pt.locs, Pt.cells, Pt.slots] at X' e1 e2 h1 h2 h3 st hcl
    subst h1; subst h2; subst h3
    exact Or.inr ⟨q, (T.setVm vm₁).calling g' mk As.toArray, t, U', L, E, ce, hT, X', hL, e1, e2, hq, hce, hcv, vx_cls hW₁ hcl, st⟩
end Runs
section Rows
variable {p : Program} {l : Launch} {e : Env} {R : Room} {s : State} {m : MethodId} {args : Array Value} {below : List Frame} {meth : Method} {c : Code} {H : Heap} {locs : List Loc} {cells slots : Nat} {Q : State → Prop}
variable {mc ms : Nat} {free : Addr → Prop} {A0 A1 : Nat → Prop} {H0 : Heap} {a : Array Value} {pc : Nat} {ls : Array Slot} {st0 rest : List Value}
theorem vx_keep {st₀ t T' : State} {L : List Loc} (h0 : st₀.heap = H) (e1 : T'.heap = t.heap) (hS : va_S A0 H0 H locs) (hA : ∀ q, q < H.size → A1 q → A0 q) (hf : ∀ q, free q → A0 q) (hL : ∀ q ∈ L, free q.base) (hF : va_F A1 st₀ t) :
    H.size ≤ T'.heap.size ∧ (∀ q : Nat, q < H.size → ¬ A1 q → T'.heap[q]? = H[q]?) ∧ va_S A0 H0 T'.heap (locs ++ L) := by
  obtain ⟨hz, hk⟩ := hF
  rw [h0] at hz hk
  exact ⟨by rw [e1]; exact hz, fun q h1 h2 => by rw [e1]; exact hk q h1 h2,
    ⟨Nat.le_trans hS.1 (by rw [e1]; exact hz), fun q h1 h2 => by rw [e1, hk q (Nat.lt_of_lt_of_le h1 hS.1) (fun z => h2 (hA q (Nat.lt_of_lt_of_le h1 hS.1) z))]; exact hS.2.1 q h1 h2, fun q hq => by
      rcases List.mem_append.mp hq with h | h
      · exact hS.2.2 q h
      · exact hf _ (hL q h)⟩⟩
theorem vx_calli {S SX : Type} {post : Int32 → S → Prop} {px : SX → Prop} {B : S → State → Prop} {BX : String → SX → State → Prop} {AX : Nat → Prop} (hr : vx_Run p l e R s m args below meth c H locs cells slots mc ms (F0 m pc ls st0) rest (va_Qi post B A1 a) (vx_X px BX AX) free) (hS : va_S A0 H0 H locs) (hA : ∀ q, q < H.size → A1 q → A0 q) (hf : ∀ q, free q → A0 q) (hAX : ∀ q, q < H.size → AX q → A0 q)
    (kx : ∀ (E : String) (ce : Cell) (q9 : Addr) (u : SX) (t : State) (H1 : Heap) (locs1 : List Loc), t.heap = H1 → s.vm.Alike t.vm → px u → BX E u t → H.size ≤ H1.size → (∀ q : Nat, q < H.size → ¬ AX q → H1[q]? = H[q]?) → va_S A0 H0 H1 locs1 → H1[q9]? = some ce → ce.vm = .none → s.vm.findClass E = some ce.cls → vx_W p l e R s m args below meth c H1 locs1 (cells + mc) (slots + ms) Q (F0 m pc ls rest) q9)
    (kk : ∀ (r : Int32) (u : S) (t : State) (H1 : Heap) (locs1 : List Loc), t.heap = H1 → s.vm.Alike t.vm → post r u → B u t → H.size ≤ H1.size → (∀ q : Nat, q < H.size → ¬ A1 q → H1[q]? = H[q]?) → va_S A0 H0 H1 locs1 → W p l e R s m args below meth c H1 locs1 (cells + mc) (slots + ms) Q (F0 m (pc + 3) ls (.int r :: rest))) : W p l e R s m args below meth c H locs cells slots Q (F0 m pc ls st0) := by
  intro T hT X
  rcases hr T hT X with ⟨v, st₀, t, T', L, h0, X', hL, e1, e2, ⟨⟨r, u, hv, hp, hb⟩, hF⟩, st⟩ | ⟨q, st₀, t, T', L, E, ce, h0, X', hL, e1, e2, ⟨u, hp, hb, hF⟩, hce, hcv, hcl, st⟩
  · cases hv
    obtain ⟨k1, k2, k3⟩ := vx_keep h0 e1 hS hA hf hL hF
    obtain ⟨t2, a1, b1⟩ := kk r u t T'.heap (locs ++ L) e1.symm (by rw [← e2]; exact X'.warmed.alike) hp hb k1 k2 k3 T' rfl X'
    exact ⟨t2, st t2 a1, b1⟩
  · obtain ⟨k1, k2, k3⟩ := vx_keep h0 e1 hS hAX hf hL hF
    obtain ⟨t2, a1, b1⟩ := kx E ce q u t T'.heap (locs ++ L) e1.symm (by rw [← e2]; exact X'.warmed.alike) hp hb k1 k2 k3 (by rw [e1]; exact hce) hcv hcl T' rfl X'
    exact ⟨t2, st.trans a1, b1⟩
theorem vx_calll {S SX : Type} {post : Int64 → S → Prop} {px : SX → Prop} {B : S → State → Prop} {BX : String → SX → State → Prop} {AX : Nat → Prop} (hr : vx_Run p l e R s m args below meth c H locs cells slots mc ms (F0 m pc ls st0) rest (va_Ql post B A1 a) (vx_X px BX AX) free) (hS : va_S A0 H0 H locs) (hA : ∀ q, q < H.size → A1 q → A0 q) (hf : ∀ q, free q → A0 q) (hAX : ∀ q, q < H.size → AX q → A0 q)
    (kx : ∀ (E : String) (ce : Cell) (q9 : Addr) (u : SX) (t : State) (H1 : Heap) (locs1 : List Loc), t.heap = H1 → s.vm.Alike t.vm → px u → BX E u t → H.size ≤ H1.size → (∀ q : Nat, q < H.size → ¬ AX q → H1[q]? = H[q]?) → va_S A0 H0 H1 locs1 → H1[q9]? = some ce → ce.vm = .none → s.vm.findClass E = some ce.cls → vx_W p l e R s m args below meth c H1 locs1 (cells + mc) (slots + ms) Q (F0 m pc ls rest) q9)
    (kk : ∀ (r : Int64) (u : S) (t : State) (H1 : Heap) (locs1 : List Loc), t.heap = H1 → s.vm.Alike t.vm → post r u → B u t → H.size ≤ H1.size → (∀ q : Nat, q < H.size → ¬ A1 q → H1[q]? = H[q]?) → va_S A0 H0 H1 locs1 → W p l e R s m args below meth c H1 locs1 (cells + mc) (slots + ms) Q (F0 m (pc + 3) ls (.long r :: rest))) : W p l e R s m args below meth c H locs cells slots Q (F0 m pc ls st0) := by
  intro T hT X
  rcases hr T hT X with ⟨v, st₀, t, T', L, h0, X', hL, e1, e2, ⟨⟨r, u, hv, hp, hb⟩, hF⟩, st⟩ | ⟨q, st₀, t, T', L, E, ce, h0, X', hL, e1, e2, ⟨u, hp, hb, hF⟩, hce, hcv, hcl, st⟩
  · cases hv
    obtain ⟨k1, k2, k3⟩ := vx_keep h0 e1 hS hA hf hL hF
    obtain ⟨t2, a1, b1⟩ := kk r u t T'.heap (locs ++ L) e1.symm (by rw [← e2]; exact X'.warmed.alike) hp hb k1 k2 k3 T' rfl X'
    exact ⟨t2, st t2 a1, b1⟩
  · obtain ⟨k1, k2, k3⟩ := vx_keep h0 e1 hS hAX hf hL hF
    obtain ⟨t2, a1, b1⟩ := kx E ce q u t T'.heap (locs ++ L) e1.symm (by rw [← e2]; exact X'.warmed.alike) hp hb k1 k2 k3 (by rw [e1]; exact hce) hcv hcl T' rfl X'
    exact ⟨t2, st.trans a1, b1⟩
theorem vx_callf {S SX : Type} {post : UInt32 → S → Prop} {px : SX → Prop} {B : S → State → Prop} {BX : String → SX → State → Prop} {AX : Nat → Prop} (hr : vx_Run p l e R s m args below meth c H locs cells slots mc ms (F0 m pc ls st0) rest (va_Qf post B A1 a) (vx_X px BX AX) free) (hS : va_S A0 H0 H locs) (hA : ∀ q, q < H.size → A1 q → A0 q) (hf : ∀ q, free q → A0 q) (hAX : ∀ q, q < H.size → AX q → A0 q)
    (kx : ∀ (E : String) (ce : Cell) (q9 : Addr) (u : SX) (t : State) (H1 : Heap) (locs1 : List Loc), t.heap = H1 → s.vm.Alike t.vm → px u → BX E u t → H.size ≤ H1.size → (∀ q : Nat, q < H.size → ¬ AX q → H1[q]? = H[q]?) → va_S A0 H0 H1 locs1 → H1[q9]? = some ce → ce.vm = .none → s.vm.findClass E = some ce.cls → vx_W p l e R s m args below meth c H1 locs1 (cells + mc) (slots + ms) Q (F0 m pc ls rest) q9)
    (kk : ∀ (r : UInt32) (u : S) (t : State) (H1 : Heap) (locs1 : List Loc), t.heap = H1 → s.vm.Alike t.vm → post r u → B u t → H.size ≤ H1.size → (∀ q : Nat, q < H.size → ¬ A1 q → H1[q]? = H[q]?) → va_S A0 H0 H1 locs1 → W p l e R s m args below meth c H1 locs1 (cells + mc) (slots + ms) Q (F0 m (pc + 3) ls (.float r :: rest))) : W p l e R s m args below meth c H locs cells slots Q (F0 m pc ls st0) := by
  intro T hT X
  rcases hr T hT X with ⟨v, st₀, t, T', L, h0, X', hL, e1, e2, ⟨⟨r, u, hv, hp, hb⟩, hF⟩, st⟩ | ⟨q, st₀, t, T', L, E, ce, h0, X', hL, e1, e2, ⟨u, hp, hb, hF⟩, hce, hcv, hcl, st⟩
  · cases hv
    obtain ⟨k1, k2, k3⟩ := vx_keep h0 e1 hS hA hf hL hF
    obtain ⟨t2, a1, b1⟩ := kk r u t T'.heap (locs ++ L) e1.symm (by rw [← e2]; exact X'.warmed.alike) hp hb k1 k2 k3 T' rfl X'
    exact ⟨t2, st t2 a1, b1⟩
  · obtain ⟨k1, k2, k3⟩ := vx_keep h0 e1 hS hAX hf hL hF
    obtain ⟨t2, a1, b1⟩ := kx E ce q u t T'.heap (locs ++ L) e1.symm (by rw [← e2]; exact X'.warmed.alike) hp hb k1 k2 k3 (by rw [e1]; exact hce) hcv hcl T' rfl X'
    exact ⟨t2, st.trans a1, b1⟩
theorem vx_calld {S SX : Type} {post : UInt64 → S → Prop} {px : SX → Prop} {B : S → State → Prop} {BX : String → SX → State → Prop} {AX : Nat → Prop} (hr : vx_Run p l e R s m args below meth c H locs cells slots mc ms (F0 m pc ls st0) rest (va_Qd post B A1 a) (vx_X px BX AX) free) (hS : va_S A0 H0 H locs) (hA : ∀ q, q < H.size → A1 q → A0 q) (hf : ∀ q, free q → A0 q) (hAX : ∀ q, q < H.size → AX q → A0 q)
    (kx : ∀ (E : String) (ce : Cell) (q9 : Addr) (u : SX) (t : State) (H1 : Heap) (locs1 : List Loc), t.heap = H1 → s.vm.Alike t.vm → px u → BX E u t → H.size ≤ H1.size → (∀ q : Nat, q < H.size → ¬ AX q → H1[q]? = H[q]?) → va_S A0 H0 H1 locs1 → H1[q9]? = some ce → ce.vm = .none → s.vm.findClass E = some ce.cls → vx_W p l e R s m args below meth c H1 locs1 (cells + mc) (slots + ms) Q (F0 m pc ls rest) q9)
    (kk : ∀ (r : UInt64) (u : S) (t : State) (H1 : Heap) (locs1 : List Loc), t.heap = H1 → s.vm.Alike t.vm → post r u → B u t → H.size ≤ H1.size → (∀ q : Nat, q < H.size → ¬ A1 q → H1[q]? = H[q]?) → va_S A0 H0 H1 locs1 → W p l e R s m args below meth c H1 locs1 (cells + mc) (slots + ms) Q (F0 m (pc + 3) ls (.double r :: rest))) : W p l e R s m args below meth c H locs cells slots Q (F0 m pc ls st0) := by
  intro T hT X
  rcases hr T hT X with ⟨v, st₀, t, T', L, h0, X', hL, e1, e2, ⟨⟨r, u, hv, hp, hb⟩, hF⟩, st⟩ | ⟨q, st₀, t, T', L, E, ce, h0, X', hL, e1, e2, ⟨u, hp, hb, hF⟩, hce, hcv, hcl, st⟩
  · cases hv
    obtain ⟨k1, k2, k3⟩ := vx_keep h0 e1 hS hA hf hL hF
    obtain ⟨t2, a1, b1⟩ := kk r u t T'.heap (locs ++ L) e1.symm (by rw [← e2]; exact X'.warmed.alike) hp hb k1 k2 k3 T' rfl X'
    exact ⟨t2, st t2 a1, b1⟩
  · obtain ⟨k1, k2, k3⟩ := vx_keep h0 e1 hS hAX hf hL hF
    obtain ⟨t2, a1, b1⟩ := kx E ce q u t T'.heap (locs ++ L) e1.symm (by rw [← e2]; exact X'.warmed.alike) hp hb k1 k2 k3 (by rw [e1]; exact hce) hcv hcl T' rfl X'
    exact ⟨t2, st.trans a1, b1⟩
theorem vx_callv {S SX : Type} {post : S → Prop} {px : SX → Prop} {B : S → State → Prop} {BX : String → SX → State → Prop} {AX : Nat → Prop} (hr : vx_Run p l e R s m args below meth c H locs cells slots mc ms (F0 m pc ls st0) rest (va_Qv post B A1 a) (vx_X px BX AX) free) (hS : va_S A0 H0 H locs) (hA : ∀ q, q < H.size → A1 q → A0 q) (hf : ∀ q, free q → A0 q) (hAX : ∀ q, q < H.size → AX q → A0 q)
    (kx : ∀ (E : String) (ce : Cell) (q9 : Addr) (u : SX) (t : State) (H1 : Heap) (locs1 : List Loc), t.heap = H1 → s.vm.Alike t.vm → px u → BX E u t → H.size ≤ H1.size → (∀ q : Nat, q < H.size → ¬ AX q → H1[q]? = H[q]?) → va_S A0 H0 H1 locs1 → H1[q9]? = some ce → ce.vm = .none → s.vm.findClass E = some ce.cls → vx_W p l e R s m args below meth c H1 locs1 (cells + mc) (slots + ms) Q (F0 m pc ls rest) q9)
    (kk : ∀ (u : S) (t : State) (H1 : Heap) (locs1 : List Loc), t.heap = H1 → s.vm.Alike t.vm → post u → B u t → H.size ≤ H1.size → (∀ q : Nat, q < H.size → ¬ A1 q → H1[q]? = H[q]?) → va_S A0 H0 H1 locs1 → W p l e R s m args below meth c H1 locs1 (cells + mc) (slots + ms) Q (F0 m (pc + 3) ls (rest))) : W p l e R s m args below meth c H locs cells slots Q (F0 m pc ls st0) := by
  intro T hT X
  rcases hr T hT X with ⟨v, st₀, t, T', L, h0, X', hL, e1, e2, ⟨⟨u, hv, hp, hb⟩, hF⟩, st⟩ | ⟨q, st₀, t, T', L, E, ce, h0, X', hL, e1, e2, ⟨u, hp, hb, hF⟩, hce, hcv, hcl, st⟩
  · cases hv
    obtain ⟨k1, k2, k3⟩ := vx_keep h0 e1 hS hA hf hL hF
    obtain ⟨t2, a1, b1⟩ := kk u t T'.heap (locs ++ L) e1.symm (by rw [← e2]; exact X'.warmed.alike) hp hb k1 k2 k3 T' rfl X'
    exact ⟨t2, st t2 a1, b1⟩
  · obtain ⟨k1, k2, k3⟩ := vx_keep h0 e1 hS hAX hf hL hF
    obtain ⟨t2, a1, b1⟩ := kx E ce q u t T'.heap (locs ++ L) e1.symm (by rw [← e2]; exact X'.warmed.alike) hp hb k1 k2 k3 (by rw [e1]; exact hce) hcv hcl T' rfl X'
    exact ⟨t2, st.trans a1, b1⟩
/-- caught by the row x of this method's table; the rows ahead don't take it -/
theorem vx_catch {own name : String} {E : String} {ce : Cell} {q : Addr} (hown : s.vm.findClass own = some m.cls) (pre : List ExceptionTableEntry) (x : ExceptionTableEntry) (suf : List ExceptionTableEntry) (hsplit : c.exceptionTable.toList = pre ++ x :: suf)
    (hpass : ∀ z ∈ pre, covers z pc = false ∨ (z.catchType ≠ 0 ∧ ∃ nm : String, (Cond.classLink own z.catchType nm).before args s = true ∧ va_Nc E nm s)) (hx : covers x pc = true) (h0 : x.catchType ≠ 0)
    (hlink : (Cond.classLink own x.catchType name).before args s = true) (hcast : (Cond.castable E name).before args s = true) (hcell : H[q]? = some ce) (hv : ce.vm = .none) (hcl : s.vm.findClass E = some ce.cls)
    (kk : W p l e R s m args below meth c H locs cells slots Q (F0 m x.handlerPc ls [.ref q])) : vx_W p l e R s m args below meth c H locs cells slots Q (F0 m pc ls rest) q := by
  intro T hT X
  have hpl : e.platform.magicAccessors = ({} : Platform).magicAccessors := by rw [X.admits.platform]
  obtain ⟨c3, c4, hc3, hc4, hasg⟩ := Cond.castable_spec hcast
  cases Option.some.inj (hc3.symm.trans hcl)
  obtain ⟨c5, hc5, hcl5⟩ := Cond.classLink_spec hown hlink e.platform hpl
  cases Option.some.inj (hc4.symm.trans hc5)
  obtain ⟨vm', X', st⟩ := X.thenCaughtThrough q (g := F0 m pc ls rest) rfl (Steps.refl _) (by rw [hT]; exact hcell) (by rw [hv]; rfl) (by obtain ⟨k9, h9, -⟩ := Vm.findClass_spec hcl; exact ⟨k9, h9⟩) pre x suf hsplit
    (fun z hz => by
      rcases hpass z hz with h | ⟨hz0, nm, hl1, hn1⟩
      · exact Or.inl h
      · obtain ⟨c6, hc6, hcl6⟩ := Cond.classLink_spec hown hl1 e.platform hpl
        obtain ⟨a8, b8, h1, h2, h3⟩ := hn1
        cases Option.some.inj (h1.symm.trans hcl)
        cases Option.some.inj (h2.symm.trans hc6)
        exact Or.inr ⟨hz0, _, hcl6, h3⟩) hx (Or.inr ⟨h0, c4, hcl5, hasg⟩)
  obtain ⟨t, a1, b1⟩ := kk (T.setVm vm') hT X'
  exact ⟨t, st.trans a1, b1⟩
end Rows
section Ends
variable {p : Program} {l : Launch} {e : Env} {R : Room} {s : State} {m : MethodId} {args : Array Value} {below : List Frame} {meth : Method} {c : Code} {H : Heap} {locs : List Loc} {cells slots : Nat} {Q : State → Prop}
variable {mc ms : Nat} {free : Addr → Prop} {A0 A1 : Nat → Prop} {H0 : Heap} {a : Array Value} {ls : Array Slot} {st0 rest : List Value}
variable {Qc : Array Value → State → Outcome → State → Prop} {XC : String → State → State → Prop}
/-- what a body that may throw owes at its end -/
def vx_MQ (below : List Frame) (Qc : Array Value → State → Outcome → State → Prop) (XC : String → State → State → Prop) (a : Array Value) (s : State) (mc ms : Nat) (free : Addr → Prop) : State → Prop := fun t =>
  ∃ o, t.status = .running ∧ Ended t below o ∧ vx_Q Qc XC mc ms free a s o t
theorem vx_ret {g : JFrame} {mc ms : Nat} (k : W p l e R s m args below meth c H locs cells slots (MQ below Qc args s mc ms free) g) : W p l e R s m args below meth c H locs cells slots (vx_MQ below Qc XC args s mc ms free) g := by
  intro T hT X
  obtain ⟨t, a1, o, b1, b2, b3, b4⟩ := k T hT X
  exact ⟨t, a1, o, b1, b2, Or.inl ⟨b3, b4⟩⟩
/-- not caught here: it goes on to the caller -/
theorem vx_widen {g : JFrame} {q : Addr} {k n : Nat} (h1 : cells ≤ k) (h2 : slots ≤ n) (kk : vx_W p l e R s m args below meth c H locs k n Q g q) : vx_W p l e R s m args below meth c H locs cells slots Q g q := fun T hT X => kk T hT (stand_widen X h1 h2)
theorem vx_out {pc : Nat} {E : String} {ce : Cell} {q : Addr} {mc ms : Nat} (hout : ∀ x ∈ c.exceptionTable.toList, covers x pc = false) (hlocks : meth.locks = false) (hcell : H[q]? = some ce) (hv : ce.vm = .none) (hcl : s.vm.findClass E = some ce.cls)
    (hx : ∀ t : State, t.heap = H → s.vm.Alike t.vm → XC E s t) (hf : ∀ z ∈ locs, free z.base) (hc : cells ≤ mc) (hs : slots ≤ ms) :
    vx_W p l e R s m args below meth c H locs cells slots (vx_MQ below Qc XC args s mc ms free) (F0 m pc ls rest) q := by
  intro T hT X
  obtain ⟨st1, hrun, hend, hW, hsm⟩ := X.leaveThrown q (g := F0 m pc ls rest) rfl rfl rfl hout hlocks
  have hcell9 : (T.setFrames (.throwing q :: below)).heap[q]? = some ce := by
    show T.heap[q]? = some ce
    rw [hT]; exact hcell
  exact ⟨_, st1, .threw q, hrun, hend, Or.inr ⟨q, rfl, E, ce, locs, hx _ hT hW.alike, hcell9, hv, hcl, hW, hsm.mono hc hs, hf⟩⟩
theorem vx_frame {U : State} {k n : Nat} (h : s.sameButNew ({ U with vm := s.vm } : State) locs k n) : s.heap.size ≤ U.heap.size ∧ ∀ q : Nat, q < s.heap.size → (∀ z ∈ locs, z.base ≠ q) → U.heap[q]? = s.heap[q]? := by
  obtain ⟨-, h2, -, -, -, h6⟩ := h
  refine ⟨h2, fun q hq hz => ?_⟩
  obtain ⟨c9, e1, e2, e3, e4⟩ := h6 q _ (Array.getElem?_eq_getElem hq)
  have hs : c9.slots = (s.heap[q]).slots := Array.ext_getElem? fun i => e4 i fun hm => hz _ hm rfl
  have h9 : c9 = s.heap[q] := by
    rw [hs] at e2
    exact e2
  have e5 : U.heap[q]? = some c9 := e1
  rw [e5, h9, Array.getElem?_eq_getElem hq]
/-- the words of a throw but the four that speak of the heap -/
def vx_no (w : Cond) : Bool := decide (w ≠ .isRef (.static Bundle.tN "UNASSIGNED_STACK" Bundle.steD)) && decide (w ≠ .isRef (.static Bundle.tN "SUPPRESSED_SENTINEL" Bundle.listD)) && decide (w ≠ .laysStatic Bundle.tN "UNASSIGNED_STACK" Bundle.steD) && decide (w ≠ .laysStatic Bundle.tN "SUPPRESSED_SENTINEL" Bundle.listD)
def vx_at0 (own : String) (ic : Nat) (X : String) (names : List String) : List Cond := (Bundle.ownAtoms0 own ic X names).filter vx_no
def vx_atS (own : String) (ic : Nat) (X : String) (names : List String) : List Cond := (Bundle.ownAtoms own ic X names).filter vx_no
/-- a word that the tables alone decide, or a good one -/
def vx_ot (w : Cond) : Bool := w.onTables || goodWord w
theorem vx_ot_at {args a' : Array Value} {s U : State} {w : Cond} (hW : s.WarmedH U.vm) (hvm : s.vm = U.vm) (hg : vx_ot w = true) (h : w.before args s = true) : w.before a' U = true := by
  simp only [vx_ot, Bool.or_eq_true] at hg
  rcases hg with hg | hg
  · exact va_tabs hg hvm h
  · exact word_at hW (good_of_word hg) h
/-- a list's words: the good ones out of the method's own list, the others by premises of their own -/
theorem vx_hat {args : Array Value} {s : State} {L B : List Cond} (h1 : ∀ w ∈ L.filter goodWord, w.before args s = true) (h2 : ∀ w ∈ L.filter (fun w => !goodWord w), w ∈ B) (h3 : ∀ w ∈ B, w.before args s = true) : ∀ w ∈ L, w.before args s = true := by
  intro w hw
  by_cases g : goodWord w = true
  · exact h1 w (List.mem_filter.mpr ⟨hw, g⟩)
  · refine h3 w (h2 w (List.mem_filter.mpr ⟨hw, ?_⟩))
    show (!goodWord w) = true
    cases hgw : goodWord w
    · rfl
    · exact absurd hgw g
theorem vx_c {args : Array Value} {s : State} {w : Cond} {B : List Cond} (h : w.before args s = true) (t : ∀ w ∈ B, w.before args s = true) : ∀ w' ∈ w :: B, w'.before args s = true := fun w' h' => (List.mem_cons.mp h').elim (fun e => by rw [e]; exact h) (t w')
theorem vx_n {args : Array Value} {s : State} : ∀ w ∈ ([] : List Cond), w.before args s = true := fun _ h => nomatch h
theorem vx_own {args : Array Value} {s : State} {L : List Cond} (h1 : ∀ w ∈ L.filter vx_no, w.before args s = true)
    (hU : (Cond.isRef (.static Bundle.tN "UNASSIGNED_STACK" Bundle.steD)).before args s = true) (hN : (Cond.isRef (.static Bundle.tN "SUPPRESSED_SENTINEL" Bundle.listD)).before args s = true)
    (lU : (Cond.laysStatic Bundle.tN "UNASSIGNED_STACK" Bundle.steD).before args s = true) (lN : (Cond.laysStatic Bundle.tN "SUPPRESSED_SENTINEL" Bundle.listD).before args s = true) : ∀ w ∈ L, w.before args s = true := by
  intro w hw
  by_cases e1 : w = .isRef (.static Bundle.tN "UNASSIGNED_STACK" Bundle.steD)
  · rw [e1]; exact hU
  · by_cases e2 : w = .isRef (.static Bundle.tN "SUPPRESSED_SENTINEL" Bundle.listD)
    · rw [e2]; exact hN
    · by_cases e3 : w = .laysStatic Bundle.tN "UNASSIGNED_STACK" Bundle.steD
      · rw [e3]; exact lU
      · by_cases e4 : w = .laysStatic Bundle.tN "SUPPRESSED_SENTINEL" Bundle.listD
        · rw [e4]; exact lN
        · exact h1 w (List.mem_filter.mpr ⟨hw, by unfold vx_no; rw [decide_eq_true e1, decide_eq_true e2, decide_eq_true e3, decide_eq_true e4]; rfl⟩)
/-- where a static field lies, its class's statics cell in H -/
def vx_L (C n d : String) (A : Nat → Prop) (U : State) (H : Heap) : Prop := ∃ (c : ClassId) (k : Class) (i : Nat) (f : Field) (a : Nat) (cell : Cell), U.vm.findClass C = some c ∧ U.fieldFound? C n d = some (c, k, i, f) ∧ f.isStatic = true ∧ k.statics = some a ∧ H[a]? = some cell ∧ cell.vm.isStatics = true ∧ cell.cls = c ∧ f.slot < cell.slots.size ∧ k.staticTypes[f.slot]? = some f.type ∧ ¬ A a
theorem vx_L.moved {C n d : String} {A : Nat → Prop} {u U : State} {H : Heap} (hvm : u.vm.Alike U.vm) (h : vx_L C n d A u H) : vx_L C n d A U H := by
  obtain ⟨c, k, i, f, a, cell, h1, h2, h3, h4, h5, h6, h7, h8, h9, h10⟩ := h
  obtain ⟨k', hi', he⟩ := State.fieldFound?_setVm hvm h2
  exact ⟨c, k', i, f, a, cell, by rw [hvm.findClass]; exact h1, hi', h3, by rw [he]; exact h4, h5, h6, h7, h8, by rw [he]; exact h9, h10⟩
theorem vx_L.kept {C n d : String} {A : Nat → Prop} {U : State} {H H1 : Heap} (h : vx_L C n d A U H) (hq : ∀ a : Nat, a < H.size → ¬ A a → H1[a]? = H[a]?) : vx_L C n d A U H1 := by
  obtain ⟨c, k, i, f, a, cell, h1, h2, h3, h4, h5, h6, h7, h8, h9, h10⟩ := h
  exact ⟨c, k, i, f, a, cell, h1, h2, h3, h4, by rw [hq a (Array.getElem?_eq_some_iff.mp h5).1 h10]; exact h5, h6, h7, h8, h9, h10⟩
theorem vx_L.narrow {C n d : String} {A B : Nat → Prop} {U : State} {H : Heap} (h : vx_L C n d A U H) (hAB : ∀ q, B q → A q) : vx_L C n d B U H := by
  obtain ⟨c, k, i, f, a, cell, h1, h2, h3, h4, h5, h6, h7, h8, h9, h10⟩ := h
  exact ⟨c, k, i, f, a, cell, h1, h2, h3, h4, h5, h6, h7, h8, h9, fun z => h10 (hAB _ z)⟩
theorem vx_L.word {C n d : String} {A : Nat → Prop} {s : State} {args : Array Value} (h : vx_L C n d A s s.heap) : (Cond.laysStatic C n d).before args s = true := by
  obtain ⟨c, k, i, f, a, cell, h1, h2, h3, h4, h5, h6, h7, h8, h9, -⟩ := h
  show (Cond.laysStatic C n d).holds args s none s [] = true
  exact Cond.laysStatic_of h1 h2 h3 h4 h5 h6 h7 h8 h9
/-- .. and what it holds: null or some reference -/
def vx_Zq (C n d : String) (A : Nat → Prop) (U : State) (H : Heap) : Prop := va_Zq C n d A U H ∧ vx_L C n d A U H
theorem vx_Zq.moved {C n d : String} {A : Nat → Prop} {u U : State} {H : Heap} (hvm : u.vm.Alike U.vm) (h : vx_Zq C n d A u H) : vx_Zq C n d A U H := ⟨va_Zq.moved hvm h.1, vx_L.moved hvm h.2⟩
theorem vx_Zq.kept {C n d : String} {A : Nat → Prop} {U : State} {H H1 : Heap} (h : vx_Zq C n d A U H) (hq : ∀ a : Nat, a < H.size → ¬ A a → H1[a]? = H[a]?) : vx_Zq C n d A U H1 := ⟨va_Zq.kept h.1 hq, vx_L.kept h.2 hq⟩
theorem vx_Zq.narrow {C n d : String} {A B : Nat → Prop} {U : State} {H : Heap} (h : vx_Zq C n d A U H) (hAB : ∀ q, B q → A q) : vx_Zq C n d B U H := ⟨va_Zq.narrow h.1 hAB, vx_L.narrow h.2 hAB⟩
theorem vx_Zqof {args : Array Value} {s : State} {C n d : String} {A : Nat → Prop} (hl : (Cond.laysStatic C n d).before args s = true) (hini : (Cond.initialized C).before args s = true) (h : (Cond.isRef (.static C n d)).before args s = true) (hA : ∀ a : Nat, a < s.heap.size → ¬ A a) : vx_Zq C n d A s s.heap := by
  refine ⟨va_Zqof hl hini h hA, ?_⟩
  obtain ⟨c, k, i, f, a, cell, h1, h2, h3, h4, h5, h6, h7, h8, h9⟩ := Cond.laysStatic_spec hl
  exact ⟨c, k, i, f, a, cell, h1, h2, h3, h4, h5, h6, h7, h8, h9, hA a (Array.getElem?_eq_some_iff.mp h5).1⟩
theorem vx_isRef {C n d : String} {v : Value} {A : Nat → Prop} {s : State} {args : Array Value} (h : va_Z C n d v A s s.heap) (hv : v.isRef = true) : (Cond.isRef (.static C n d)).before args s = true := by
  obtain ⟨cf, kf, fi, f, a, cell, h1, h2, h3, h4, h5, h6, h7, -⟩ := h
  have he : (Term.static C n d).eval args s none [] s = some v := by
    simp [Term.eval, State.fieldNamed?, h1, h2, h4, h5, h6, h7]
  simp only [Cond.before, Cond.holds, Cond.value, he]
  cases v <;> simp_all [Value.isRef]
theorem vx_isRefq {C n d : String} {A : Nat → Prop} {s : State} {args : Array Value} (h : va_Zq C n d A s s.heap) : (Cond.isRef (.static C n d)).before args s = true := by
  rcases h with h | ⟨t, h⟩
  · exact vx_isRef h rfl
  · exact vx_isRef h rfl
/-- the same frame, seen from here: as if the method were called anew in this heap -/
theorem vx_rebase {T : State} (X : Stand p l e R s m args below meth c T locs cells slots) {R' : Room} (hf : R'.frames ≤ R.frames) (hl : R'.locals ≤ R.locals) (hc : cells + R'.cells ≤ R.cells) (hs : slots + R'.slots ≤ R.slots) :
    Stand p l e R' ((T.setVm s.vm).setFrames (.invoking m args :: below)) m args below meth c T [] 0 0 := by
  have htop : (T.setVm s.vm).topJava?.isSome := X.here.top
  have hF : ((T.setVm s.vm).setFrames (.invoking m args :: below)).frames = .invoking m args :: below := State.frames_setFrames _ (State.cur_lt_of_top htop)
  obtain ⟨g₀, hg0⟩ := Option.isSome_iff_exists.mp htop
  obtain ⟨r, hr⟩ := State.topJava?_eq_some.mp hg0
  have hl9 : e.platform.stackLimits (T.setVm s.vm).me = e.platform.stackLimits s.me := X.limits
  have hb9 : (T.setVm s.vm).me.stackBytes = s.me.stackBytes := X.bytes
  refine ⟨X.admits, X.cas, X.clock, hF, ?_, X.hears, X.method, X.code, X.here, X.tail, X.warmed, ?_, ?_, ?_⟩
  · have h := X.room
    have hU : ((T.setVm s.vm).setFrames (.invoking m args :: below)).localsInUse = s.localsInUse := by
      rw [State.localsInUse_invoking hF (meth := meth) (c := c) X.method X.code, State.localsInUse_invoking X.frames X.method X.code]
    simp only [State.hasRoom, Bool.and_eq_true, decide_eq_true_eq] at h ⊢
    obtain ⟨⟨⟨⟨h1, h2, h3, h4, h5, h6⟩, h7⟩, h8⟩, h9⟩ := h
    rw [X.frames, List.length_cons] at h2 h3
    have q1 := X.heapSize
    have q2 := X.used
    simp only [hF, hU, List.length_cons, State.stackLimits_setFrames, State.stackBytes_setFrames, hl9, hb9]
    refine ⟨⟨⟨⟨by omega, by omega, by omega, by omega, by omega, h6⟩, ?_⟩, ?_⟩, X.book⟩
    · show T.heap.size + R'.cells ≤ e.platform.maxCells
      omega
    · show T.slotsUsed + R'.slots ≤ e.platform.maxSlots
      omega
  · rw [State.stackLimits_setFrames]; rfl
  · rw [State.stackBytes_setFrames]; rfl
  · refine ⟨?_, Nat.le_refl _, Nat.le_refl _, ?_, ?_, fun a c9 h9 => ⟨c9, h9, rfl, rfl, fun _ _ => rfl⟩⟩
    · obtain ⟨t, ht, -⟩ := State.frames_cons hr
      show T.setVm s.vm = { ((T.setVm s.vm).setFrames (.invoking m args :: below)).setFrames (T.setVm s.vm).frames with heap := T.heap, slotsUsed := T.slotsUsed }
      rw [State.setFrames_setFrames, State.setFrames_self ht]
      rfl
    · show T.slotsUsed = T.slotsUsed + ((T.heap.toList.drop T.heap.size).map (·.slots.size)).sum
      rw [List.drop_eq_nil_of_le (Nat.le_of_eq Array.length_toList)]
      rfl
    · show ((T.heap.toList.drop T.heap.size).map (·.slots.size)).sum ≤ 0
      rw [List.drop_eq_nil_of_le (Nat.le_of_eq Array.length_toList)]
      exact Nat.le_refl _
/-- 'throw new E()': new; dup; invokespecial; athrow -/
theorem vx_throw0 {cc : ByteArray} {pc : Nat} (hexec : p.tables.exec = Jvm.exec) (hb : c.code = cc) (hl : l.stackTraces = false) {own cls : String} {names : List String} {ik ic mc ms : Nat} {A : Nat → Prop}
    (hown : s.vm.findClass own = some m.cls) (hcls : Bundle.fit cls = true) (hnames : ∀ n ∈ names, Bundle.fit n = true)
    (hk : (Cond.classLink own ik cls).before args s = true) (hini : (Cond.initialized cls).before args s = true) (hat : ∀ w ∈ vx_at0 own ic cls names, w.before args s = true)
    (hgood : ∀ w ∈ Cond.classLink own ik cls :: Cond.initialized cls :: vx_at0 own ic cls names, vx_ot w = true)
    (hU : vx_Zq Bundle.tN "UNASSIGNED_STACK" Bundle.steD A s s.heap) (hN : vx_Zq Bundle.tN "SUPPRESSED_SENTINEL" Bundle.listD A s s.heap) (hS : va_S A s.heap H locs) (hsize : ls.size = c.maxLocals)
    (d0 : decode cc pc = .ok (.new ik, 3)) (d3 : decode cc (pc + 3) = .ok (.dup, 1)) (d4 : decode cc (pc + 4) = .ok (.invokespecial ic, 3)) (d7 : decode cc (pc + 7) = .ok (.athrow, 1))
    (hout : ∀ x ∈ c.exceptionTable.toList, covers x (pc + 7) = false)
    (hRframes : names.length + 3 < R.frames) (hRlocals : (rest.map fun v => v.category).sum + (13 * (names.length + 1) + 42) ≤ R.locals) (hRcells : cells + 1 ≤ R.cells) (hRslots : slots + 6 ≤ R.slots) (hlocks : meth.locks = false)
    (hx : ∀ t : State, s.vm.Alike t.vm → H.size ≤ t.heap.size → (∀ q : Nat, q < H.size → t.heap[q]? = H[q]?) → XC cls s t)
    (hf : ∀ z ∈ locs, free z.base) (hc : cells + 1 ≤ mc) (hs : slots + 6 ≤ ms) :
    W p l e R s m args below meth c H locs cells slots (vx_MQ below Qc XC args s mc ms free) (F0 m pc ls rest) := by
  intro T hT X
  have htr : e.platform.stackTraces = false := (show e.platform.stackTraces = l.stackTraces by rw [X.admits.platform]).trans hl
  have Y := vx_rebase X (R' := { frames := R.frames, locals := R.locals, cells := 1, slots := 6 }) (Nat.le_refl _) (Nat.le_refl _) hRcells hRslots
  obtain ⟨s', hA⟩ : ∃ z, z = (T.setVm s.vm).setFrames (.invoking m args :: below) := ⟨_, rfl⟩
  rw [← hA] at Y
  have hvm : s'.vm = s.vm := by rw [hA]; rfl
  have hhp : s'.heap = H := by rw [hA]; exact hT
  have hW0 : s.WarmedH s'.vm := by rw [hvm]; exact State.WarmedH.refl s
  have hat' : ∀ w ∈ vx_at0 own ic cls names, w.before args s' = true := fun w hw => vx_ot_at hW0 hvm.symm (hgood w (List.mem_cons_of_mem _ (List.mem_cons_of_mem _ hw))) (hat w hw)
  have hk' : (Cond.classLink own ik cls).before args s' = true := vx_ot_at hW0 hvm.symm (hgood _ List.mem_cons_self) hk
  have hini' : (Cond.initialized cls).before args s' = true := vx_ot_at hW0 hvm.symm (hgood _ (List.mem_cons_of_mem _ List.mem_cons_self)) hini
  have hU' : vx_Zq Bundle.tN "UNASSIGNED_STACK" Bundle.steD A s' s'.heap := by rw [hhp]; exact vx_Zq.moved hW0.alike (hU.kept hS.2.1)
  have hN' : vx_Zq Bundle.tN "SUPPRESSED_SENTINEL" Bundle.listD A s' s'.heap := by rw [hhp]; exact vx_Zq.moved hW0.alike (hN.kept hS.2.1)
  have h : ∀ w ∈ Bundle.ownAtoms0 own ic cls names, w.before args s' = true := vx_own hat' (vx_isRefq hU'.1) (vx_isRefq hN'.1) hU'.2.word hN'.2.word
  have hown' : s'.vm.findClass own = some m.cls := by rw [hvm]; exact hown
  have hins : (Cond.instantiable cls 6).before args s' = true := h _ (by simp [Bundle.ownAtoms0])
  obtain ⟨vm₁, cX, kX, hfX, hkX, -, -, X₁, st1⟩ := Y.newCold hexec (own := own) (C := cls) (index := ik) (n := 6) hown' hk' hins hini'
    (g := F0 m pc ls rest) rfl (by rw [hb]; exact d0) (Nat.le_refl _) (Nat.le_refl _)
  generalize hT1 : (T.setVm vm₁).pushCell { cls := cX, slots := kX.instanceTypes.map defaultValue, vm := .none } = T1 at X₁ st1
  have hcat : (Value.ref T.heap.size).category = 1 := rfl
  have hcellA : T1.heap[T.heap.size]? = some (freshCell cX kX) := by rw [← hT1]; exact State.heap_pushCell_size _ _
  have d3' : decode c.code (pc + 3) = .ok (.dup, 1) := by rw [hb]; exact d3
  obtain ⟨U, hsteps, hrun, hend, hW, hsame, ce, hce, hO⟩ := X₁.ctorThrow0 hexec htr (own := own) (cls := cls) (names := names) (ic := ic) hown' hcls hnames h (fun x hx => nomatch hx) hfX hkX hcellA (by rw [hhp, hT]; exact Nat.le_refl _)
    (g := { method := m, pc := pc + 4, locals := ls, stack := .ref T.heap.size :: .ref T.heap.size :: rest, locked := none }) rfl hsize rfl rfl (rest := rest) rfl
    (by rw [hb]; exact d4) (by rw [hb]; exact d7) hout hRframes (by simp only [List.map_cons, List.sum_cons, hcat]; omega) hlocks
  obtain ⟨f1, f2⟩ := vx_frame hsame
  rw [hhp] at f1 f2
  have hWs : s.WarmedH U.vm := State.WarmedH.trans hW0 hW
  have hcl : s.vm.findClass cls = some ce.cls := by
    have h9 := hO.cls
    rw [hvm] at h9
    exact h9
  have hall : s.sameButNew ({ U with vm := s.vm } : State) locs mc ms := by
    subst hA
    obtain ⟨e1, e2⟩ := hsame
    rw [State.setFrames_setFrames] at e1
    have h2 : (T.setVm s.vm).sameButNew ({ U with vm := s.vm } : State) [] (0 + 1) (0 + 6) := ⟨e1, e2⟩
    have h3 := X.same.trans h2
    rw [List.append_nil] at h3
    exact h3.mono hc hs
  refine ⟨U, ?_, .threw T.heap.size, hrun, hend, Or.inr ⟨T.heap.size, rfl, cls, ce, locs, hx U hWs.alike f1 (fun q hq => f2 q hq (fun z hz => nomatch hz)), hce, hO.vm, hcl, hWs, hall, hf⟩⟩
  refine st1 _ ?_
  show Steps p.tables e below (T1.setTop { method := m, pc := pc + 3, locals := ls, stack := .ref T.heap.size :: rest, locked := none }) _
  jvm_step X₁.here [X₁.here.top, hexec, d3', Value.category]
  exact hsteps
/-- 'throw new E("text")': new; dup; ldc; invokespecial; athrow -/
theorem vx_throwS {cc : ByteArray} {pc : Nat} (hexec : p.tables.exec = Jvm.exec) (hb : c.code = cc) (hl : l.stackTraces = false) {own cls text : String} {names : List String} {ik is ic mc ms sa : Nat} {A : Nat → Prop}
    (hown : s.vm.findClass own = some m.cls) (hcls : Bundle.fit cls = true) (hnames : ∀ n ∈ names, Bundle.fit n = true)
    (hk : (Cond.classLink own ik cls).before args s = true) (hini : (Cond.initialized cls).before args s = true) (hstr : vk_R own is text sa s) (hat : ∀ w ∈ vx_atS own ic cls names, w.before args s = true)
    (hgood : ∀ w ∈ Cond.classLink own ik cls :: Cond.initialized cls :: vx_atS own ic cls names, vx_ot w = true)
    (hU : vx_Zq Bundle.tN "UNASSIGNED_STACK" Bundle.steD A s s.heap) (hN : vx_Zq Bundle.tN "SUPPRESSED_SENTINEL" Bundle.listD A s s.heap) (hS : va_S A s.heap H locs) (hsize : ls.size = c.maxLocals)
    (d0 : decode cc pc = .ok (.new ik, 3)) (d3 : decode cc (pc + 3) = .ok (.dup, 1)) (d4 : decode cc (pc + 4) = .ok (.ldc is, 2)) (d6 : decode cc (pc + 6) = .ok (.invokespecial ic, 3)) (d9 : decode cc (pc + 9) = .ok (.athrow, 1))
    (hout : ∀ x ∈ c.exceptionTable.toList, covers x (pc + 9) = false)
    (hRframes : names.length + 3 < R.frames) (hRlocals : (rest.map fun v => v.category).sum + (13 * (names.length + 1) + 43) ≤ R.locals) (hRcells : cells + 1 ≤ R.cells) (hRslots : slots + 6 ≤ R.slots) (hlocks : meth.locks = false)
    (hx : ∀ t : State, s.vm.Alike t.vm → H.size ≤ t.heap.size → (∀ q : Nat, q < H.size → t.heap[q]? = H[q]?) → XC cls s t)
    (hf : ∀ z ∈ locs, free z.base) (hc : cells + 1 ≤ mc) (hs : slots + 6 ≤ ms) :
    W p l e R s m args below meth c H locs cells slots (vx_MQ below Qc XC args s mc ms free) (F0 m pc ls rest) := by
  intro T hT X
  have htr : e.platform.stackTraces = false := (show e.platform.stackTraces = l.stackTraces by rw [X.admits.platform]).trans hl
  have Y := vx_rebase X (R' := { frames := R.frames, locals := R.locals, cells := 1, slots := 6 }) (Nat.le_refl _) (Nat.le_refl _) hRcells hRslots
  obtain ⟨s', hA⟩ : ∃ z, z = (T.setVm s.vm).setFrames (.invoking m args :: below) := ⟨_, rfl⟩
  rw [← hA] at Y
  have hvm : s'.vm = s.vm := by rw [hA]; rfl
  have hhp : s'.heap = H := by rw [hA]; exact hT
  have hW0 : s.WarmedH s'.vm := by rw [hvm]; exact State.WarmedH.refl s
  have hat' : ∀ w ∈ vx_atS own ic cls names, w.before args s' = true := fun w hw => vx_ot_at hW0 hvm.symm (hgood w (List.mem_cons_of_mem _ (List.mem_cons_of_mem _ hw))) (hat w hw)
  have hk' : (Cond.classLink own ik cls).before args s' = true := vx_ot_at hW0 hvm.symm (hgood _ List.mem_cons_self) hk
  have hini' : (Cond.initialized cls).before args s' = true := vx_ot_at hW0 hvm.symm (hgood _ (List.mem_cons_of_mem _ List.mem_cons_self)) hini
  have hU' : vx_Zq Bundle.tN "UNASSIGNED_STACK" Bundle.steD A s' s'.heap := by rw [hhp]; exact vx_Zq.moved hW0.alike (hU.kept hS.2.1)
  have hN' : vx_Zq Bundle.tN "SUPPRESSED_SENTINEL" Bundle.listD A s' s'.heap := by rw [hhp]; exact vx_Zq.moved hW0.alike (hN.kept hS.2.1)
  have h : ∀ w ∈ Bundle.ownAtoms own ic cls names, w.before args s' = true := vx_own hat' (vx_isRefq hU'.1) (vx_isRefq hN'.1) hU'.2.word hN'.2.word
  have hown' : s'.vm.findClass own = some m.cls := by rw [hvm]; exact hown
  have hins : (Cond.instantiable cls 6).before args s' = true := h _ (by simp [Bundle.ownAtoms])
  obtain ⟨vm₁, cX, kX, hfX, hkX, -, -, X₁, st1⟩ := Y.newCold hexec (own := own) (C := cls) (index := ik) (n := 6) hown' hk' hins hini'
    (g := F0 m pc ls rest) rfl (by rw [hb]; exact d0) (Nat.le_refl _) (Nat.le_refl _)
  generalize hT1 : (T.setVm vm₁).pushCell { cls := cX, slots := kX.instanceTypes.map defaultValue, vm := .none } = T1 at X₁ st1
  have hcat : (Value.ref T.heap.size).category = 1 := rfl
  have hcellA : T1.heap[T.heap.size]? = some (freshCell cX kX) := by rw [← hT1]; exact State.heap_pushCell_size _ _
  have d3' : decode c.code (pc + 3) = .ok (.dup, 1) := by rw [hb]; exact d3
  have d4' : decode c.code (pc + 4) = .ok (.ldc is, 2) := by rw [hb]; exact d4
  have hstr' : vk_R own is text sa s' := vk_R.warm hW0 hstr
  obtain ⟨U, hsteps, hrun, hend, hW, hsame, ce, hce, hO⟩ := X₁.ctorThrowS hexec htr (own := own) (cls := cls) (names := names) (ic := ic) hown' hcls hnames h (fun x hx => nomatch hx) hfX hkX hcellA (by rw [hhp, hT]; exact Nat.le_refl _) (msg := .ref sa) rfl
    (g := { method := m, pc := pc + 6, locals := ls, stack := .ref sa :: .ref T.heap.size :: .ref T.heap.size :: rest, locked := none }) rfl hsize rfl rfl (rest := rest) rfl
    (by rw [hb]; exact d6) (by rw [hb]; exact d9) hout hRframes (by simp only [List.map_cons, List.sum_cons, hcat]; omega) hlocks
  obtain ⟨f1, f2⟩ := vx_frame hsame
  rw [hhp] at f1 f2
  have hWs : s.WarmedH U.vm := State.WarmedH.trans hW0 hW
  have hcl : s.vm.findClass cls = some ce.cls := by
    have h9 := hO.cls
    rw [hvm] at h9
    exact h9
  have hall : s.sameButNew ({ U with vm := s.vm } : State) locs mc ms := by
    subst hA
    obtain ⟨e1, e2⟩ := hsame
    rw [State.setFrames_setFrames] at e1
    have h2 : (T.setVm s.vm).sameButNew ({ U with vm := s.vm } : State) [] (0 + 1) (0 + 6) := ⟨e1, e2⟩
    have h3 := X.same.trans h2
    rw [List.append_nil] at h3
    exact h3.mono hc hs
  refine ⟨U, ?_, .threw T.heap.size, hrun, hend, Or.inr ⟨T.heap.size, rfl, cls, ce, locs, hx U hWs.alike f1 (fun q hq => f2 q hq (fun z hz => nomatch hz)), hce, hO.vm, hcl, hWs, hall, hf⟩⟩
  refine st1 _ ?_
  show Steps p.tables e below (T1.setTop { method := m, pc := pc + 3, locals := ls, stack := .ref T.heap.size :: rest, locked := none }) _
  jvm_step X₁.here [X₁.here.top, hexec, d3', Value.category]
  exact X₁.ldcString hexec (own := own) (text := text) (index := is) (a := sa) hown' hstr'.1 hstr'.2
    (g := { method := m, pc := pc + 4, locals := ls, stack := .ref T.heap.size :: .ref T.heap.size :: rest, locked := none }) rfl d4' _ hsteps
/-- 'throw new E("text")', the text by a wide index -/
theorem vx_throwSW {cc : ByteArray} {pc : Nat} (hexec : p.tables.exec = Jvm.exec) (hb : c.code = cc) (hl : l.stackTraces = false) {own cls text : String} {names : List String} {ik is ic mc ms sa : Nat} {A : Nat → Prop}
    (hown : s.vm.findClass own = some m.cls) (hcls : Bundle.fit cls = true) (hnames : ∀ n ∈ names, Bundle.fit n = true)
    (hk : (Cond.classLink own ik cls).before args s = true) (hini : (Cond.initialized cls).before args s = true) (hstr : vk_R own is text sa s) (hat : ∀ w ∈ vx_atS own ic cls names, w.before args s = true)
    (hgood : ∀ w ∈ Cond.classLink own ik cls :: Cond.initialized cls :: vx_atS own ic cls names, vx_ot w = true)
    (hU : vx_Zq Bundle.tN "UNASSIGNED_STACK" Bundle.steD A s s.heap) (hN : vx_Zq Bundle.tN "SUPPRESSED_SENTINEL" Bundle.listD A s s.heap) (hS : va_S A s.heap H locs) (hsize : ls.size = c.maxLocals)
    (d0 : decode cc pc = .ok (.new ik, 3)) (d3 : decode cc (pc + 3) = .ok (.dup, 1)) (d4 : decode cc (pc + 4) = .ok (.ldc_w is, 3)) (d7 : decode cc (pc + 7) = .ok (.invokespecial ic, 3)) (d10 : decode cc (pc + 10) = .ok (.athrow, 1))
    (hout : ∀ x ∈ c.exceptionTable.toList, covers x (pc + 10) = false)
    (hRframes : names.length + 3 < R.frames) (hRlocals : (rest.map fun v => v.category).sum + (13 * (names.length + 1) + 43) ≤ R.locals) (hRcells : cells + 1 ≤ R.cells) (hRslots : slots + 6 ≤ R.slots) (hlocks : meth.locks = false)
    (hx : ∀ t : State, s.vm.Alike t.vm → H.size ≤ t.heap.size → (∀ q : Nat, q < H.size → t.heap[q]? = H[q]?) → XC cls s t)
    (hf : ∀ z ∈ locs, free z.base) (hc : cells + 1 ≤ mc) (hs : slots + 6 ≤ ms) :
    W p l e R s m args below meth c H locs cells slots (vx_MQ below Qc XC args s mc ms free) (F0 m pc ls rest) := by
  intro T hT X
  have htr : e.platform.stackTraces = false := (show e.platform.stackTraces = l.stackTraces by rw [X.admits.platform]).trans hl
  have Y := vx_rebase X (R' := { frames := R.frames, locals := R.locals, cells := 1, slots := 6 }) (Nat.le_refl _) (Nat.le_refl _) hRcells hRslots
  obtain ⟨s', hA⟩ : ∃ z, z = (T.setVm s.vm).setFrames (.invoking m args :: below) := ⟨_, rfl⟩
  rw [← hA] at Y
  have hvm : s'.vm = s.vm := by rw [hA]; rfl
  have hhp : s'.heap = H := by rw [hA]; exact hT
  have hW0 : s.WarmedH s'.vm := by rw [hvm]; exact State.WarmedH.refl s
  have hat' : ∀ w ∈ vx_atS own ic cls names, w.before args s' = true := fun w hw => vx_ot_at hW0 hvm.symm (hgood w (List.mem_cons_of_mem _ (List.mem_cons_of_mem _ hw))) (hat w hw)
  have hk' : (Cond.classLink own ik cls).before args s' = true := vx_ot_at hW0 hvm.symm (hgood _ List.mem_cons_self) hk
  have hini' : (Cond.initialized cls).before args s' = true := vx_ot_at hW0 hvm.symm (hgood _ (List.mem_cons_of_mem _ List.mem_cons_self)) hini
  have hU' : vx_Zq Bundle.tN "UNASSIGNED_STACK" Bundle.steD A s' s'.heap := by rw [hhp]; exact vx_Zq.moved hW0.alike (hU.kept hS.2.1)
  have hN' : vx_Zq Bundle.tN "SUPPRESSED_SENTINEL" Bundle.listD A s' s'.heap := by rw [hhp]; exact vx_Zq.moved hW0.alike (hN.kept hS.2.1)
  have h : ∀ w ∈ Bundle.ownAtoms own ic cls names, w.before args s' = true := vx_own hat' (vx_isRefq hU'.1) (vx_isRefq hN'.1) hU'.2.word hN'.2.word
  have hown' : s'.vm.findClass own = some m.cls := by rw [hvm]; exact hown
  have hins : (Cond.instantiable cls 6).before args s' = true := h _ (by simp [Bundle.ownAtoms])
  obtain ⟨vm₁, cX, kX, hfX, hkX, -, -, X₁, st1⟩ := Y.newCold hexec (own := own) (C := cls) (index := ik) (n := 6) hown' hk' hins hini'
    (g := F0 m pc ls rest) rfl (by rw [hb]; exact d0) (Nat.le_refl _) (Nat.le_refl _)
  generalize hT1 : (T.setVm vm₁).pushCell { cls := cX, slots := kX.instanceTypes.map defaultValue, vm := .none } = T1 at X₁ st1
  have hcat : (Value.ref T.heap.size).category = 1 := rfl
  have hcellA : T1.heap[T.heap.size]? = some (freshCell cX kX) := by rw [← hT1]; exact State.heap_pushCell_size _ _
  have d3' : decode c.code (pc + 3) = .ok (.dup, 1) := by rw [hb]; exact d3
  have d4' : decode c.code (pc + 4) = .ok (.ldc_w is, 3) := by rw [hb]; exact d4
  have hstr' : vk_R own is text sa s' := vk_R.warm hW0 hstr
  obtain ⟨U, hsteps, hrun, hend, hW, hsame, ce, hce, hO⟩ := X₁.ctorThrowS hexec htr (own := own) (cls := cls) (names := names) (ic := ic) hown' hcls hnames h (fun x hx => nomatch hx) hfX hkX hcellA (by rw [hhp, hT]; exact Nat.le_refl _) (msg := .ref sa) rfl
    (g := { method := m, pc := pc + 7, locals := ls, stack := .ref sa :: .ref T.heap.size :: .ref T.heap.size :: rest, locked := none }) rfl hsize rfl rfl (rest := rest) rfl
    (by rw [hb]; exact d7) (by rw [hb]; exact d10) hout hRframes (by simp only [List.map_cons, List.sum_cons, hcat]; omega) hlocks
  obtain ⟨f1, f2⟩ := vx_frame hsame
  rw [hhp] at f1 f2
  have hWs : s.WarmedH U.vm := State.WarmedH.trans hW0 hW
  have hcl : s.vm.findClass cls = some ce.cls := by
    have h9 := hO.cls
    rw [hvm] at h9
    exact h9
  have hall : s.sameButNew ({ U with vm := s.vm } : State) locs mc ms := by
    subst hA
    obtain ⟨e1, e2⟩ := hsame
    rw [State.setFrames_setFrames] at e1
    have h2 : (T.setVm s.vm).sameButNew ({ U with vm := s.vm } : State) [] (0 + 1) (0 + 6) := ⟨e1, e2⟩
    have h3 := X.same.trans h2
    rw [List.append_nil] at h3
    exact h3.mono hc hs
  refine ⟨U, ?_, .threw T.heap.size, hrun, hend, Or.inr ⟨T.heap.size, rfl, cls, ce, locs, hx U hWs.alike f1 (fun q hq => f2 q hq (fun z hz => nomatch hz)), hce, hO.vm, hcl, hWs, hall, hf⟩⟩
  refine st1 _ ?_
  show Steps p.tables e below (T1.setTop { method := m, pc := pc + 3, locals := ls, stack := .ref T.heap.size :: rest, locked := none }) _
  jvm_step X₁.here [X₁.here.top, hexec, d3', Value.category]
  exact X₁.ldcStringW hexec (own := own) (text := text) (index := is) (a := sa) hown' hstr'.1 hstr'.2
    (g := { method := m, pc := pc + 4, locals := ls, stack := .ref T.heap.size :: .ref T.heap.size :: rest, locked := none }) rfl d4' _ hsteps
end Ends
section Bodies
variable {l : Launch}
theorem vx_ofW {y : MethodName} {ws ws' : List Cond} {rm : Room} {Pc : Array Value → State → Prop} {Qc : Array Value → State → Outcome → State → Prop} {XC : String → State → State → Prop} {mc ms : Nat} {free : Addr → Prop} {cc : ByteArray} {maxL : Nat} {ret : Option FieldType}
    (hy : plainName y.cls = true) (hw : ws = Cond.code y cc maxL ret :: ws')
    (body : ∀ p e s m args below meth c s₁, BodyLoose p l y (headSpec ws rm) cc maxL ret e s m args below meth c s₁ → c.maxLocals = maxL → (∀ x ∈ c.exceptionTable.toList, False) → Pc args s →
      W p l e (headSpec ws rm).room s m args below meth c s.heap [] 0 0 (vx_MQ below Qc XC args s mc ms free) (entryFrame m args maxL)) : vx_Met l y ws rm Pc Qc XC mc ms free := by
  refine MetFree.of_bodyS (code := cc) (maxLocals := maxL) (ret := ret) hy ?_ ?_
  · intro args s m h hn
    obtain ⟨meth, c, h1, h2, h3, h4, h5, h6, -, -⟩ := Cond.code_spec hn (atoms_spec (ws := ws) h _ (by rw [hw]; exact List.mem_cons_self))
    exact ⟨meth, c, h1, h2, h3, h4, h5, h6⟩
  · intro p e s m args below meth c s₁ B hml hP _
    have hh0 : s₁.heap = s.heap := by rw [B.state]; rfl
    have ht : ∀ x ∈ c.exceptionTable.toList, False := by
      obtain ⟨meth9, c9, h1, h2, -, -, -, -, h7, -⟩ := Cond.code_spec B.named (atoms_spec (ws := ws) B.pre _ (by rw [hw]; exact List.mem_cons_self))
      cases Option.some.inj (h1.symm.trans B.method)
      cases Option.some.inj (h2.symm.trans (Stand.of_body B).code)
      intro x hx
      rw [Array.isEmpty_iff.mp h7] at hx
      cases hx
    obtain ⟨t, a1, o, b1, b2, b3⟩ := body p e s m args below meth c s₁ B hml ht hP s₁ hh0 (Stand.of_body B)
    exact ⟨t, o, a1, b1, b2, b3⟩
/-- the table of a body with handlers -/
theorem vx_table {p : Program} {x y : MethodName} {S : Spec} {cc bytes : ByteArray} {maxL maxL' : Nat} {ret ret' : Option FieldType} {e : Env} {s s₁ : State} {m : MethodId} {args : Array Value} {below : List Frame} {meth : Method} {c : Code} {hh : List (Nat × Nat × Nat × Nat)}
    (B : BodyLoose p l y S cc maxL ret e s m args below meth c s₁) (h : (Cond.codeWith y bytes maxL' ret' hh).before args s = true) : c.exceptionTable.toList = tableOf hh := by
  obtain ⟨m9, meth9, c9, hn9, h1, h2, -, -, h6, -⟩ := Cond.codeWith_spec h
  cases Option.some.inj (hn9.symm.trans B.named)
  cases Option.some.inj (h1.symm.trans B.method)
  cases Option.some.inj (h2.symm.trans (Stand.of_body B).code)
  rw [← h6, table_eq]
end Bodies
end VXA
/-! ===== END ===== -/
/-! ===== BEGIN a static call of a method with an exception table ===== -/
section VXS
variable {p : Program} {l : Launch} {e : Env} {R : Room} {s : State} {m : MethodId} {args : Array Value} {below : List Frame} {meth : Method} {c : Code} {T : State} {H : Heap} {locs : List Loc} {cells slots : Nat}
abbrev vx_CSW (R : Room) (s : State) (args : Array Value) (own : String) (index : Nat) (y : MethodName) (bytes : ByteArray) (maxL : Nat) (ret : Option FieldType) (hh : List (Nat × Nat × Nat × Nat)) (ws : List Cond) (rm : Room) (mc ms n : Nat) : Prop :=
  (rm.cells = mc ∧ rm.slots = ms ∧ rm.frames + 1 ≤ R.frames ∧ 8 + (maxL + 11) + rm.locals ≤ R.locals ∧ (∀ w ∈ ws, ∀ (a' : Array Value) (U : State), s.WarmedH U.vm → w.before a' U = true) ∧ Cond.codeWith y bytes maxL ret hh ∈ ws) ∧
  (Cond.codeWith y bytes maxL ret hh).before args s = true ∧ (Cond.initialized y.cls).before args s = true ∧ (y.cls ≠ "java/lang/invoke/MethodHandle" ∧ y.cls ≠ "java/lang/invoke/VarHandle") ∧
  (∀ sig, parseMethodDescriptor y.desc = some sig → n = sig.parameters.length) ∧ (Cond.methodLink own index y).before args s = true ∧ (Cond.static y).before args s = true
theorem vx_cwSW {own : String} {index maxL mc ms : Nat} {y : MethodName} {bytes : ByteArray} {ret : Option FieldType} {hh : List (Nat × Nat × Nat × Nat)} {Ts ws ws' : List Cond} {rm : Room} (n : Nat) (ht : ∀ w ∈ Ts, w.before args s = true) (hT : GoodIn Ts (va_wsS own index y ws)) (hw : ws = Cond.codeWith y bytes maxL ret hh :: ws') (hrc : rm.cells = mc) (hrs : rm.slots = ms)
    (hd : y.cls ≠ "java/lang/invoke/MethodHandle" ∧ y.cls ≠ "java/lang/invoke/VarHandle" ∧ (parseMethodDescriptor y.desc).map (fun d => d.parameters.length) = some n) (hR : rm.frames + 1 ≤ R.frames ∧ 8 + (maxL + 11) + rm.locals ≤ R.locals) :
    vx_CSW R s args own index y bytes maxL ret hh ws rm mc ms n := by
  have ok : ∀ w ∈ va_wsS own index y ws, w.before args s = true := fun w h => ht w (hT w h).1
  have hG : GoodIn Ts ws := fun w h => hT w (by unfold va_wsS; exact List.mem_append_right _ h)
  have hc : Cond.codeWith y bytes maxL ret hh ∈ ws := by rw [hw]; exact List.mem_cons_self
  refine ⟨⟨hrc, hrs, hR.1, hR.2, pay_in ht hG, hc⟩, ht _ (hG _ hc).1, ok _ (by simp [va_wsS]), ⟨hd.1, hd.2.1⟩, fun sig h => ?_, ok _ (by simp [va_wsS]), ok _ (by simp [va_wsS])⟩
  have h2 := hd.2.2
  rw [h] at h2
  exact (Option.some.inj h2).symm
theorem vx_callSW (X : Stand p l e R s m args below meth c T locs cells slots) (hexec : p.tables.exec = Jvm.exec) {own : String} {index : Nat} {y : MethodName} {bytes : ByteArray} {maxL : Nat} {ret : Option FieldType} {hh : List (Nat × Nat × Nat × Nat)}
    (hown : s.vm.findClass own = some m.cls) (hlink : (Cond.methodLink own index y).before args s = true) (hstat : (Cond.static y).before args s = true) (hinit : (Cond.initialized y.cls).before args s = true)
    (hcode : (Cond.codeWith y bytes maxL ret hh).before args s = true) (hy : y.cls ≠ "java/lang/invoke/MethodHandle" ∧ y.cls ≠ "java/lang/invoke/VarHandle")
    {W9 : Nat} {Pre : Pt → Array Value → Prop} {Post : Pt → Array Value → Option Value → Pt → Prop} (hK : Back l R p e below s args y 3 W9 Pre Post)
    {g : JFrame} (hg : g.method = m) (hsize : g.locals.size = c.maxLocals) {argsL rest : List Value} (hlen : ∀ sig, parseMethodDescriptor y.desc = some sig → argsL.length = sig.parameters.length)
    (hstack : g.stack = argsL.reverse ++ rest) (hW : 2 * g.monitorRoom + (rest.map fun v => v.category).sum ≤ W9) (hdg : decode c.code g.pc = .ok (.invokestatic index, 3))
    (hpre : ∀ vm₁, s.WarmedH vm₁ → Pre ⟨T.setVm vm₁, locs, cells, slots⟩ argsL.toArray) :
    ∃ (v : Option Value) (vm₁ : Vm) (B : Pt), s.WarmedH vm₁ ∧ Stand p l e R s m args below meth c B.U B.locs B.cells B.slots ∧ Post ⟨T.setVm vm₁, locs, cells, slots⟩ argsL.toArray v B ∧
      ∀ target, Steps p.tables e below (B.U.setTop { g with pc := g.pc + 3, stack := v.toList ++ rest }) target → Steps p.tables e below (T.setTop g) target := by
  obtain ⟨mk, methM, cM, hnamed, hmethM, -, -, -, -, -, -, hsigM⟩ := Cond.codeWith_spec hcode
  have hstatic : methM.isStatic = true := Cond.static_spec hnamed hmethM hstat
  obtain ⟨kP, hkP, -⟩ := className_of_methodNamed hnamed
  have hinitP : kP.init = .initialized := Cond.initialized_spec (findClass_of_methodNamed hnamed) hkP hinit
  obtain ⟨vm₁, X₁, hstep₁⟩ := X.invokestatic hexec hown hlink hnamed hmethM hstatic hkP hinitP hy (g := g) hg (argsL := argsL) (rest := rest) (hlen _ hsigM) hstack hdg
  obtain ⟨v, B, X', hpost, hsteps⟩ := hK m meth c ⟨T.setVm vm₁, locs, cells, slots⟩ { g with stack := rest } (.invokestatic index) mk argsL.toArray X₁ hg hsize hdg hW (X₁.named hnamed) (hpre vm₁ X₁.warmed)
  exact ⟨v, vm₁, B, X₁.warmed, X', hpost, fun target h => hstep₁ _ fun acts => by rw [doInvoke_state]; exact hsteps.trans h⟩
theorem vx_runSW {y : MethodName} {bytes cc : ByteArray} {maxL nL mc ms n index : Nat} {ret : Option FieldType} {hh : List (Nat × Nat × Nat × Nat)} {ws : List Cond} {rm : Room} {Pc : Array Value → State → Prop} {Qc : Array Value → State → Outcome → State → Prop} {free : Addr → Prop} {Ts : List Cond} {own : String} {As rest : List Value} {g : JFrame}
    (S : CallFix p m c cc nL s args Ts own) (hM : Met l y ws rm Pc Qc mc ms free) (cw : vx_CSW R s args own index y bytes maxL ret hh ws rm mc ms n) (hp : PreS s H Pc As)
    (hg : g.method = m) (hn : As.length = n) (hsize : g.locals.size = nL) (hstack : g.stack = As.reverse ++ rest) (hW : 2 * g.monitorRoom + (rest.map fun v => v.category).sum ≤ 8) (hdg : decode cc g.pc = .ok (.invokestatic index, 3)) (hf : cells + mc ≤ R.cells ∧ slots + ms ≤ R.slots) :
    va_Run p l e R s m args below meth c H locs cells slots mc ms g rest (Qc As.toArray) (free) := by
  obtain ⟨⟨hrc, hrs, hfr, hlo, hws, hcw⟩, hcode, hini, hy, hlen, hl, hstt⟩ := cw
  have hK : Back l R p e below s args y 3 8 (PreOf R mc ms Pc) (PostOf Qc mc ms free) := va_backW (hh := hh) (bytes := bytes) (maxL := maxL) (ret := ret) hM hp.1 hrc hrs hfr hlo hws hcw (fun a' U hW => word_at hW (Or.inl (by first | rfl | simp [Cond.onTables, Cond.keeps, Cond.steady])) hini)
  obtain ⟨hx, hb, hml, ho, -⟩ := S
  intro T hT X
  obtain ⟨v, vm₁, ⟨U', l2, c2, s2⟩, hW₁, X', ⟨g', mk, t, L, e1, e2, hq, h1, hL, h2, h3⟩, st⟩ := vx_callSW X hx (hh := hh) (bytes := bytes) (maxL := maxL) (ret := ret) ho hl hstt hini hcode hy hK hg (hsize.trans hml.symm) (argsL := As) (rest := rest) (fun sig h => hn.trans (hlen sig h)) hstack hW (by rw [hb]; exact hdg)
    (fun vm₁ hW₁ => ⟨hf.1, hf.2, hp.2 (T.setVm vm₁) hT hW₁⟩)
  dsimp only [Pt.U, Pt.locs, Pt.cells, Pt.slots] at X' e1 e2 h1 h2 h3 st
  subst h1; subst h2; subst h3
  exact ⟨v, (T.setVm vm₁).calling g' mk As.toArray, t, U', L, hT, X', hL, e1, e2, hq, st⟩
/-- not caught here, past rows that name other classes: it goes on to the caller -/
theorem vx_outP {p : Program} {l : Launch} {e : Env} {R : Room} {s : State} {m : MethodId} {args : Array Value} {below : List Frame} {meth : Method} {c : Code} {H : Heap} {locs : List Loc} {cells slots : Nat} {free : Addr → Prop} {ls : Array Slot} {rest : List Value} {Qc : Array Value → State → Outcome → State → Prop} {XC : String → State → State → Prop}
    {pc : Nat} {own E : String} {ce : Cell} {q : Addr} {mc ms : Nat} (hown : s.vm.findClass own = some m.cls) (hlocks : meth.locks = false)
    (hpass : ∀ z ∈ c.exceptionTable.toList, covers z pc = false ∨ (z.catchType ≠ 0 ∧ ∃ nm : String, (Cond.classLink own z.catchType nm).before args s = true ∧ va_Nc E nm s)) (hcell : H[q]? = some ce) (hv : ce.vm = .none) (hcl : s.vm.findClass E = some ce.cls)
    (hx : ∀ t : State, t.heap = H → s.vm.Alike t.vm → XC E s t) (hf : ∀ z ∈ locs, free z.base) (hc : cells ≤ mc) (hs : slots ≤ ms) :
    vx_W p l e R s m args below meth c H locs cells slots (vx_MQ below Qc XC args s mc ms free) (F0 m pc ls rest) q := by
  intro T hT X
  have hpl : e.platform.magicAccessors = ({} : Platform).magicAccessors := by rw [X.admits.platform]
  obtain ⟨vm', hW', X', st⟩ := X.outThrough hlocks q (g := F0 m pc ls rest) rfl rfl rfl (cell := ce) (by rw [hT]; exact hcell) (by rw [hv]; rfl)
    (by obtain ⟨k9, h9, -⟩ := Vm.findClass_spec hcl; exact ⟨k9, h9⟩) (fun z hz => by
      rcases hpass z hz with h | ⟨hz0, nm, hl1, hn1⟩
      · exact Or.inl h
      · obtain ⟨c6, hc6, hcl6⟩ := Cond.classLink_spec hown hl1 e.platform hpl
        obtain ⟨a8, b8, h1, h2, h3⟩ := hn1
        cases Option.some.inj (h1.symm.trans hcl)
        cases Option.some.inj (h2.symm.trans hc6)
        exact Or.inr ⟨hz0, _, hcl6, h3⟩)
  obtain ⟨g₀, hfr⟩ := X'.frames_eq
  have hcell9 : ((T.setVm vm').setFrames (.throwing q :: below)).heap[q]? = some ce := by
    show T.heap[q]? = some ce
    rw [hT]; exact hcell
  have hend : Ended ((T.setVm vm').setFrames (.throwing q :: below)) below (.threw q) := State.frames_setFrames _ (State.cur_lt_of_frames hfr)
  refine ⟨(T.setVm vm').setFrames (.throwing q :: below), ?_, .threw q, X'.here.running, hend, Or.inr ⟨q, rfl, E, ce, locs, hx _ hT (X'.ends _).1.alike, hcell9, hv, hcl, (X'.ends _).1, (X'.ends _).2.mono hc hs, hf⟩⟩
  rw [X.pushThrowing_eq]
  exact st
/-- a thing of a world lies in the heap -/
theorem vx_lt {D : va_G} {cl : List vw_C} {ws : va_W} {H1 : Heap} (h : va_P D cl ws H1) {k : Nat} {q : Nat × va_E} (hk : ws[k]? = some q) : q.1 < H1.size := (h k q hk).lt
end VXS
/-! ===== END ===== -/
/-! ===== BEGIN methods with a table of their own: called by a name, returning or throwing ===== -/
section VXH
/-! vx_backW, vx_callVX, vx_callSX, vx_callVW, vx_runVW, vx_runVX, vx_runSX, vx_ofWH follow the same proofs as their sisters above (Free/Laws.lean, Shelf42/LK1.lean); vx_outP calls Shelf42/NT130.lean (outThrough). -/
section
variable {l : Launch} {R : Room} {p : Program} {e : Env} {below : List Frame} {s : State} {sargs : Array Value} {y : MethodName} {len W9 : Nat}
theorem vx_backW {ws : List Cond} {rm : Room} {Pc : Array Value → State → Prop} {Qc : Array Value → State → Outcome → State → Prop} {XC : String → State → State → Prop} {mc ms : Nat} {free : Addr → Prop} {bytes : ByteArray} {maxL : Nat} {ret : Option FieldType} {hh : List (Nat × Nat × Nat × Nat)}
    (hM : vx_Met l y ws rm Pc Qc XC mc ms free) (hblind : FrameBlind Pc) (hrc : rm.cells = mc) (hrs : rm.slots = ms)
    (hframes : rm.frames + 1 ≤ R.frames) (hlocals : W9 + (maxL + 11) + rm.locals ≤ R.locals)
    (hws : ∀ w ∈ ws, ∀ a' U, s.WarmedH U.vm → w.before a' U = true) (hcode : Cond.codeWith y bytes maxL ret hh ∈ ws) (hinit : ∀ a' U, s.WarmedH U.vm → (Cond.initialized y.cls).before a' U = true) :
    vx_Back l R p e below s sargs y len W9 (PreOf R mc ms Pc) (PostOf Qc mc ms free) (vx_Post XC mc ms free) := by
  intro m meth c A g ig mk a X hg hsize hdg hW hn hp
  have h1 : (headSpec ws rm).pre.before a A.U = true := atoms_intro fun w hw => hws w hw _ _ X.warmed
  have h2 : (Cond.codeWith y bytes maxL ret hh).before a A.U = true := hws _ hcode _ _ X.warmed
  have h3 : (Cond.initialized y.cls).before a A.U = true := hinit _ _ X.warmed
  have h4 : A.cells + (headSpec ws rm).room.cells ≤ R.cells := by rw [show (headSpec ws rm).room.cells = mc from hrc]; exact hp.1
  have h5 : A.slots + (headSpec ws rm).room.slots ≤ R.slots := by rw [show (headSpec ws rm).room.slots = ms from hrs]; exact hp.2.1
  have hPc : Pc a (A.U.calling g mk a) := hblind _ _ _ _ hp.2.2
  obtain ⟨U, Ls, c0, s0⟩ := A
  dsimp only [Pt.U, Pt.locs, Pt.cells, Pt.slots] at h1 h2 h3 h4 h5 X hn hPc ⊢
  obtain ⟨m9, methY, cY, hn9, hmY, hcY, -, hlY, -⟩ := Cond.codeWith_spec h2
  cases Option.some.inj (hn9.symm.trans hn)
  obtain ⟨kY, hkY, -⟩ := className_of_methodNamed hn
  have hinitY : kY.init = .initialized := Cond.initialized_spec (findClass_of_methodNamed hn) hkY h3
  have h : At U g.method c below := by rw [hg]; exact X.here
  have hlocals9 : W9 + (maxL + 11) + (headSpec ws rm).room.locals ≤ R.locals := hlocals
  have happ : (headSpec ws rm).appliesLoose y e.platform (U.calling g mk a) = true :=
    Spec.appliesLoose_calling (g := g) h hdg hn hkY hinitY
      (X.room_calling (g := g) (R' := (headSpec ws rm).room) hsize hmY hcY hframes (by rw [hlY]; omega) h4 h5) h1
  obtain ⟨mid, hmid⟩ := h.above
  have hfr : (U.setTop g).frames = (.java g :: mid) ++ below := by rw [State.frames_setTop' g h.top, hmid]; rfl
  obtain ⟨o, s₂, hsteps, -, hend, hq⟩ := Steps.callFree hM p X.admits X.cas X.clock (acts := []) hfr happ hPc trivial
  have hq' : vx_Q Qc XC mc ms free a (U.calling g mk a) o s₂ := hq
  rw [State.frames_setTop' g h.top] at hend
  obtain ⟨g₀, hg0⟩ := Option.isSome_iff_exists.mp h.top
  obtain ⟨r, hr⟩ := State.topJava?_eq_some.mp hg0
  have hr' : (({ U with heap := s₂.heap, slotsUsed := s₂.slotsUsed } : State).setVm s₂.vm).frames = .java g₀ :: r := hr
  rcases hq' with ⟨hqc, L, hfe, hL⟩ | ⟨q, rfl, E, ce, L, hx, hce, hcv, hcl, hW₂, hsm, hL⟩
  · obtain ⟨⟨v, rfl⟩, hW₂, e2, q2, q3, q4, q5, q6⟩ := id hfe
    have e3 : s₂ = ({ (U.calling g mk a).setFrames s₂.frames with heap := s₂.heap, slotsUsed := s₂.slotsUsed } : State).setVm s₂.vm := by
      have : s₂ = ({ s₂ with vm := (U.calling g mk a).vm } : State).setVm s₂.vm := rfl
      rw [e2] at this
      exact this
    obtain ⟨c₂, i₂, len₂, hc₂, hd₂, hf₂⟩ := hend
    have hW' : U.WarmedH s₂.vm := hW₂
    have hcc : c₂ = c := by
      have h1 : s₂.code? g.method = U.code? g.method := by
        rw [State.code?_eq, State.code?_eq, hW'.alike.method?]
      exact Option.some.inj (hc₂.symm.trans (h1.trans h.code))
    subst hcc
    have hlen : len₂ = len := by rw [hdg] at hd₂; cases hd₂; rfl
    subst hlen
    have hs₂ : s₂ = (({ U with heap := s₂.heap, slotsUsed := s₂.slotsUsed } : State).setVm s₂.vm).setTop { g with pc := g.pc + len₂, stack := v.toList ++ g.stack } := by
      refine e3.trans ?_
      rw [hf₂, State.calling_eq h.top, State.setFrames_setFrames, State.setTop_of_frames _ hr', hr]
      rfl
    have hsame : U.sameButNew ({ U with heap := s₂.heap, slotsUsed := s₂.slotsUsed } : State) L mc ms := by
      refine ⟨?_, q2, q3, q4, q5, q6⟩
      obtain ⟨t, ht, -⟩ := State.frames_cons hr
      show ({ U with heap := s₂.heap, slotsUsed := s₂.slotsUsed } : State) = { U.setFrames U.frames with heap := s₂.heap, slotsUsed := s₂.slotsUsed }
      rw [State.setFrames_self ht]
    subst hg
    refine Or.inl ⟨v, ⟨(({ U with heap := s₂.heap, slotsUsed := s₂.slotsUsed } : State).setVm s₂.vm), Ls ++ L, c0 + mc, s0 + ms⟩,
      ⟨X.admits, X.cas, X.clock, X.frames, X.room, X.hears, X.method, X.code, (X.here.setHeapUsed s₂.heap s₂.slotsUsed).setVm hW'.alike, X.tail, State.WarmedH.trans X.warmed hW', X.limits, X.bytes, X.same.trans (hsame.setVm s.vm)⟩,
      ⟨g, mk, s₂, L, rfl, rfl, hqc, rfl, hL, rfl, rfl⟩, ?_⟩
    show Steps p.tables e below _ ((({ U with heap := s₂.heap, slotsUsed := s₂.slotsUsed } : State).setVm s₂.vm).setTop { g with pc := g.pc + len₂, stack := v.toList ++ g.stack })
    rw [← hs₂]
    exact hsteps
  · obtain ⟨e2, q2, q3, q4, q5, q6⟩ := id hsm
    have e3 : s₂ = ({ (U.calling g mk a).setFrames s₂.frames with heap := s₂.heap, slotsUsed := s₂.slotsUsed } : State).setVm s₂.vm := by
      have : s₂ = ({ s₂ with vm := (U.calling g mk a).vm } : State).setVm s₂.vm := rfl
      rw [e2] at this
      exact this
    have hf₂ : s₂.frames = .throwing q :: .java g :: U.frames.tail := hend
    have hW' : U.WarmedH s₂.vm := hW₂
    have hs₂ : s₂ = ((({ U with heap := s₂.heap, slotsUsed := s₂.slotsUsed } : State).setVm s₂.vm).setTop g).pushFrame (.throwing q) := by
      refine e3.trans ?_
      rw [hf₂, State.calling_eq h.top, State.setFrames_setFrames, State.pushFrame, State.frames_setTop _ hr', State.setTop_of_frames _ hr', State.setFrames_setFrames, hr]
      rfl
    have hsame : U.sameButNew ({ U with heap := s₂.heap, slotsUsed := s₂.slotsUsed } : State) L mc ms := by
      refine ⟨?_, q2, q3, q4, q5, q6⟩
      obtain ⟨t, ht, -⟩ := State.frames_cons hr
      show ({ U with heap := s₂.heap, slotsUsed := s₂.slotsUsed } : State) = { U.setFrames U.frames with heap := s₂.heap, slotsUsed := s₂.slotsUsed }
      rw [State.setFrames_self ht]
    subst hg
    refine Or.inr ⟨q, ⟨(({ U with heap := s₂.heap, slotsUsed := s₂.slotsUsed } : State).setVm s₂.vm), Ls ++ L, c0 + mc, s0 + ms⟩,
      ⟨X.admits, X.cas, X.clock, X.frames, X.room, X.hears, X.method, X.code, (X.here.setHeapUsed s₂.heap s₂.slotsUsed).setVm hW'.alike, X.tail, State.WarmedH.trans X.warmed hW', X.limits, X.bytes, X.same.trans (hsame.setVm s.vm)⟩,
      ⟨g, mk, s₂, L, E, ce, rfl, rfl, hx, hce, hcv, hcl, rfl, hL, rfl, rfl⟩, ?_⟩
    show Steps p.tables e below _ (((({ U with heap := s₂.heap, slotsUsed := s₂.slotsUsed } : State).setVm s₂.vm).setTop g).pushFrame (.throwing q))
    rw [← hs₂]
    exact hsteps
end
variable {p : Program} {l : Launch} {e : Env} {R : Room} {s : State} {m : MethodId} {args : Array Value} {below : List Frame} {meth : Method} {c : Code} {T : State} {H : Heap} {locs : List Loc} {cells slots : Nat}
theorem vx_callVX (X : Stand p l e R s m args below meth c T locs cells slots) (hexec : p.tables.exec = Jvm.exec) {own C : String} {index : Nat} {y : MethodName} {bytes : ByteArray} {maxL : Nat} {ret : Option FieldType} {hh : List (Nat × Nat × Nat × Nat)}
    (hown : s.vm.findClass own = some m.cls) (hlink : (Cond.methodLink own index y).before args s = true) (hinst : (Cond.instanceMethod y).before args s = true) (hsel : (Cond.selects C y y).before args s = true)
    (hcode : (Cond.codeWith y bytes maxL ret hh).before args s = true) (hy : y.cls ≠ "java/lang/invoke/MethodHandle" ∧ y.cls ≠ "java/lang/invoke/VarHandle")
    {W9 : Nat} {Pre : Pt → Array Value → Prop} {Post : Pt → Array Value → Option Value → Pt → Prop} {PostX : Pt → Array Value → Addr → Pt → Prop} (hK : vx_Back l R p e below s args y 3 W9 Pre Post PostX)
    {b : Addr} {cellB : Cell} (hcell : T.heap[b]? = some cellB) (hobj : cellB.vm.isStatics = false) (hcls : s.vm.findClass C = some cellB.cls)
    {g : JFrame} (hg : g.method = m) (hsize : g.locals.size = c.maxLocals) {argsL rest : List Value} (hlen : ∀ sig, parseMethodDescriptor y.desc = some sig → argsL.length = sig.parameters.length)
    (hstack : g.stack = argsL.reverse ++ .ref b :: rest) (hW : 2 * g.monitorRoom + (rest.map fun v => v.category).sum ≤ W9) (hdg : decode c.code g.pc = .ok (.invokevirtual index, 3))
    (hpre : ∀ vm₁, s.WarmedH vm₁ → Pre ⟨T.setVm vm₁, locs, cells, slots⟩ (Value.ref b :: argsL).toArray) :
    (∃ (v : Option Value) (vm₁ : Vm) (B : Pt), s.WarmedH vm₁ ∧ Stand p l e R s m args below meth c B.U B.locs B.cells B.slots ∧ Post ⟨T.setVm vm₁, locs, cells, slots⟩ (Value.ref b :: argsL).toArray v B ∧
      ∀ target, Steps p.tables e below (B.U.setTop { g with pc := g.pc + 3, stack := v.toList ++ rest }) target → Steps p.tables e below (T.setTop g) target) ∨
    (∃ (q : Addr) (vm₁ : Vm) (B : Pt), s.WarmedH vm₁ ∧ Stand p l e R s m args below meth c B.U B.locs B.cells B.slots ∧ PostX ⟨T.setVm vm₁, locs, cells, slots⟩ (Value.ref b :: argsL).toArray q B ∧
      Steps p.tables e below (T.setTop g) ((B.U.setTop { g with stack := rest }).pushFrame (.throwing q))) := by
  obtain ⟨mk, methM, hnamed, hmethM, hstM, habM⟩ := Cond.instanceMethod_spec hinst
  obtain ⟨m8, methM', cM, hn8, hmethM', -, -, -, -, -, -, hsigM⟩ := Cond.codeWith_spec hcode
  cases Option.some.inj (hn8.symm.trans hnamed)
  cases hmethM.symm.trans hmethM'
  obtain ⟨c2, r2, m2, q1, q2, q3, q4, kP, hkP, hkPi⟩ := Cond.selects_spec hsel
  cases hcls.symm.trans q1
  cases (State.methodFound?_of_named hnamed hy).symm.trans q2
  cases hnamed.symm.trans q3
  have hselP : selectMethod e.platform s.vm cellB.cls mk = .method mk := by rw [Launch.admits_selectMethod X.admits]; exact q4
  obtain ⟨vm₁, X₁, hstep₁⟩ := X.invokevirtual hexec hown hlink hnamed hmethM hstM hkP hkPi hy (a := b) (cell := cellB) hcell
    (fun z h => by rw [h] at hobj; cases hobj) hselP hmethM habM hkP hkPi (g := g) hg (argsL := argsL) (rest := rest) (hlen _ hsigM) hstack hdg
  rcases hK m meth c ⟨T.setVm vm₁, locs, cells, slots⟩ { g with stack := rest } (.invokevirtual index) mk (Value.ref b :: argsL).toArray X₁ hg hsize hdg hW (X₁.named hnamed) (hpre vm₁ X₁.warmed) with ⟨v, B, X', hpost, hsteps⟩ | ⟨q, B, X', hpost, hsteps⟩
  · exact Or.inl ⟨v, vm₁, B, X₁.warmed, X', hpost, fun target h => hstep₁ _ fun acts => by rw [doInvoke_state]; exact hsteps.trans h⟩
  · exact Or.inr ⟨q, vm₁, B, X₁.warmed, X', hpost, hstep₁ _ fun acts => by rw [doInvoke_state]; exact hsteps⟩
theorem vx_callSX (X : Stand p l e R s m args below meth c T locs cells slots) (hexec : p.tables.exec = Jvm.exec) {own : String} {index : Nat} {y : MethodName} {bytes : ByteArray} {maxL : Nat} {ret : Option FieldType} {hh : List (Nat × Nat × Nat × Nat)}
    (hown : s.vm.findClass own = some m.cls) (hlink : (Cond.methodLink own index y).before args s = true) (hstat : (Cond.static y).before args s = true) (hinit : (Cond.initialized y.cls).before args s = true)
    (hcode : (Cond.codeWith y bytes maxL ret hh).before args s = true) (hy : y.cls ≠ "java/lang/invoke/MethodHandle" ∧ y.cls ≠ "java/lang/invoke/VarHandle")
    {W9 : Nat} {Pre : Pt → Array Value → Prop} {Post : Pt → Array Value → Option Value → Pt → Prop} {PostX : Pt → Array Value → Addr → Pt → Prop} (hK : vx_Back l R p e below s args y 3 W9 Pre Post PostX)
    {g : JFrame} (hg : g.method = m) (hsize : g.locals.size = c.maxLocals) {argsL rest : List Value} (hlen : ∀ sig, parseMethodDescriptor y.desc = some sig → argsL.length = sig.parameters.length)
    (hstack : g.stack = argsL.reverse ++ rest) (hW : 2 * g.monitorRoom + (rest.map fun v => v.category).sum ≤ W9) (hdg : decode c.code g.pc = .ok (.invokestatic index, 3))
    (hpre : ∀ vm₁, s.WarmedH vm₁ → Pre ⟨T.setVm vm₁, locs, cells, slots⟩ argsL.toArray) :
    (∃ (v : Option Value) (vm₁ : Vm) (B : Pt), s.WarmedH vm₁ ∧ Stand p l e R s m args below meth c B.U B.locs B.cells B.slots ∧ Post ⟨T.setVm vm₁, locs, cells, slots⟩ argsL.toArray v B ∧
      ∀ target, Steps p.tables e below (B.U.setTop { g with pc := g.pc + 3, stack := v.toList ++ rest }) target → Steps p.tables e below (T.setTop g) target) ∨
    (∃ (q : Addr) (vm₁ : Vm) (B : Pt), s.WarmedH vm₁ ∧ Stand p l e R s m args below meth c B.U B.locs B.cells B.slots ∧ PostX ⟨T.setVm vm₁, locs, cells, slots⟩ argsL.toArray q B ∧
      Steps p.tables e below (T.setTop g) ((B.U.setTop { g with stack := rest }).pushFrame (.throwing q))) := by
  obtain ⟨mk, methM, cM, hnamed, hmethM, -, -, -, -, -, -, hsigM⟩ := Cond.codeWith_spec hcode
  have hstatic : methM.isStatic = true := Cond.static_spec hnamed hmethM hstat
  obtain ⟨kP, hkP, -⟩ := className_of_methodNamed hnamed
  have hinitP : kP.init = .initialized := Cond.initialized_spec (findClass_of_methodNamed hnamed) hkP hinit
  obtain ⟨vm₁, X₁, hstep₁⟩ := X.invokestatic hexec hown hlink hnamed hmethM hstatic hkP hinitP hy (g := g) hg (argsL := argsL) (rest := rest) (hlen _ hsigM) hstack hdg
  rcases hK m meth c ⟨T.setVm vm₁, locs, cells, slots⟩ { g with stack := rest } (.invokestatic index) mk argsL.toArray X₁ hg hsize hdg hW (X₁.named hnamed) (hpre vm₁ X₁.warmed) with ⟨v, B, X', hpost, hsteps⟩ | ⟨q, B, X', hpost, hsteps⟩
  · exact Or.inl ⟨v, vm₁, B, X₁.warmed, X', hpost, fun target h => hstep₁ _ fun acts => by rw [doInvoke_state]; exact hsteps.trans h⟩
  · exact Or.inr ⟨q, vm₁, B, X₁.warmed, X', hpost, hstep₁ _ fun acts => by rw [doInvoke_state]; exact hsteps⟩
theorem vx_callVW (X : Stand p l e R s m args below meth c T locs cells slots) (hexec : p.tables.exec = Jvm.exec) {own C : String} {index : Nat} {y : MethodName} {bytes : ByteArray} {maxL : Nat} {ret : Option FieldType} {hh : List (Nat × Nat × Nat × Nat)}
    (hown : s.vm.findClass own = some m.cls) (hlink : (Cond.methodLink own index y).before args s = true) (hinst : (Cond.instanceMethod y).before args s = true) (hsel : (Cond.selects C y y).before args s = true)
    (hcode : (Cond.codeWith y bytes maxL ret hh).before args s = true) (hy : y.cls ≠ "java/lang/invoke/MethodHandle" ∧ y.cls ≠ "java/lang/invoke/VarHandle")
    {W9 : Nat} {Pre : Pt → Array Value → Prop} {Post : Pt → Array Value → Option Value → Pt → Prop} (hK : Back l R p e below s args y 3 W9 Pre Post)
    {b : Addr} {cellB : Cell} (hcell : T.heap[b]? = some cellB) (hobj : cellB.vm.isStatics = false) (hcls : s.vm.findClass C = some cellB.cls)
    {g : JFrame} (hg : g.method = m) (hsize : g.locals.size = c.maxLocals) {argsL rest : List Value} (hlen : ∀ sig, parseMethodDescriptor y.desc = some sig → argsL.length = sig.parameters.length)
    (hstack : g.stack = argsL.reverse ++ .ref b :: rest) (hW : 2 * g.monitorRoom + (rest.map fun v => v.category).sum ≤ W9) (hdg : decode c.code g.pc = .ok (.invokevirtual index, 3))
    (hpre : ∀ vm₁, s.WarmedH vm₁ → Pre ⟨T.setVm vm₁, locs, cells, slots⟩ (Value.ref b :: argsL).toArray) :
    ∃ (v : Option Value) (vm₁ : Vm) (B : Pt), s.WarmedH vm₁ ∧ Stand p l e R s m args below meth c B.U B.locs B.cells B.slots ∧ Post ⟨T.setVm vm₁, locs, cells, slots⟩ (Value.ref b :: argsL).toArray v B ∧
      ∀ target, Steps p.tables e below (B.U.setTop { g with pc := g.pc + 3, stack := v.toList ++ rest }) target → Steps p.tables e below (T.setTop g) target := by
  obtain ⟨mk, methM, hnamed, hmethM, hstM, habM⟩ := Cond.instanceMethod_spec hinst
  obtain ⟨m8, methM', cM, hn8, hmethM', -, -, -, -, -, -, hsigM⟩ := Cond.codeWith_spec hcode
  cases Option.some.inj (hn8.symm.trans hnamed)
  cases hmethM.symm.trans hmethM'
  obtain ⟨c2, r2, m2, q1, q2, q3, q4, kP, hkP, hkPi⟩ := Cond.selects_spec hsel
  cases hcls.symm.trans q1
  cases (State.methodFound?_of_named hnamed hy).symm.trans q2
  cases hnamed.symm.trans q3
  have hselP : selectMethod e.platform s.vm cellB.cls mk = .method mk := by rw [Launch.admits_selectMethod X.admits]; exact q4
  obtain ⟨vm₁, X₁, hstep₁⟩ := X.invokevirtual hexec hown hlink hnamed hmethM hstM hkP hkPi hy (a := b) (cell := cellB) hcell
    (fun z h => by rw [h] at hobj; cases hobj) hselP hmethM habM hkP hkPi (g := g) hg (argsL := argsL) (rest := rest) (hlen _ hsigM) hstack hdg
  obtain ⟨v, B, X', hpost, hsteps⟩ := hK m meth c ⟨T.setVm vm₁, locs, cells, slots⟩ { g with stack := rest } (.invokevirtual index) mk (Value.ref b :: argsL).toArray X₁ hg hsize hdg hW (X₁.named hnamed) (hpre vm₁ X₁.warmed)
  exact ⟨v, vm₁, B, X₁.warmed, X', hpost, fun target h => hstep₁ _ fun acts => by rw [doInvoke_state]; exact hsteps.trans h⟩
abbrev vx_CVW (R : Room) (s : State) (args : Array Value) (own C : String) (index : Nat) (y : MethodName) (bytes : ByteArray) (maxL : Nat) (ret : Option FieldType) (hh : List (Nat × Nat × Nat × Nat)) (ws : List Cond) (rm : Room) (mc ms n : Nat) : Prop :=
  (rm.cells = mc ∧ rm.slots = ms ∧ rm.frames + 1 ≤ R.frames ∧ 8 + (maxL + 11) + rm.locals ≤ R.locals ∧ (∀ w ∈ ws, ∀ (a' : Array Value) (U : State), s.WarmedH U.vm → w.before a' U = true) ∧ Cond.codeWith y bytes maxL ret hh ∈ ws) ∧
  (Cond.codeWith y bytes maxL ret hh).before args s = true ∧ (Cond.initialized y.cls).before args s = true ∧ (y.cls ≠ "java/lang/invoke/MethodHandle" ∧ y.cls ≠ "java/lang/invoke/VarHandle") ∧
  (∀ sig, parseMethodDescriptor y.desc = some sig → n = sig.parameters.length) ∧ (Cond.methodLink own index y).before args s = true ∧ (Cond.instanceMethod y).before args s = true ∧ (Cond.selects C y y).before args s = true
theorem vx_cwVW {own C : String} {index maxL mc ms : Nat} {y : MethodName} {bytes : ByteArray} {ret : Option FieldType} {hh : List (Nat × Nat × Nat × Nat)} {Ts ws ws' : List Cond} {rm : Room} (n : Nat) (ht : ∀ w ∈ Ts, w.before args s = true) (hT : GoodIn Ts (wsV own index C y ws)) (hw : ws = Cond.codeWith y bytes maxL ret hh :: ws') (hrc : rm.cells = mc) (hrs : rm.slots = ms)
    (hd : y.cls = C ∧ y.cls ≠ "java/lang/invoke/MethodHandle" ∧ y.cls ≠ "java/lang/invoke/VarHandle" ∧ (parseMethodDescriptor y.desc).map (fun d => d.parameters.length) = some n) (hR : rm.frames + 1 ≤ R.frames ∧ 8 + (maxL + 11) + rm.locals ≤ R.locals) :
    vx_CVW R s args own C index y bytes maxL ret hh ws rm mc ms n := by
  obtain ⟨hC, hd⟩ := hd
  subst hC
  have ok : ∀ w ∈ wsV own index y.cls y ws, w.before args s = true := fun w h => ht w (hT w h).1
  have hG : GoodIn Ts ws := fun w h => hT w (by unfold wsV; exact List.mem_append_right _ h)
  have hc : Cond.codeWith y bytes maxL ret hh ∈ ws := by rw [hw]; exact List.mem_cons_self
  refine ⟨⟨hrc, hrs, hR.1, hR.2, pay_in ht hG, hc⟩, ht _ (hG _ hc).1, ok _ (by simp [wsV]), ⟨hd.1, hd.2.1⟩, fun sig h => ?_, ok _ (by simp [wsV]), ok _ (by simp [wsV]), ok _ (by simp [wsV])⟩
  have h2 := hd.2.2
  rw [h] at h2
  exact (Option.some.inj h2).symm
theorem vx_runVW {y : MethodName} {bytes cc : ByteArray} {maxL nL mc ms n index : Nat} {ret : Option FieldType} {hh : List (Nat × Nat × Nat × Nat)} {ws : List Cond} {rm : Room} {Pc : Array Value → State → Prop} {Qc : Array Value → State → Outcome → State → Prop} {free : Addr → Prop} {Ts : List Cond} {own C : String} {b : Addr} {As rest : List Value} {g : JFrame}
    (S : CallFix p m c cc nL s args Ts own) (hM : Met l y ws rm Pc Qc mc ms free) (cw : vx_CVW R s args own C index y bytes maxL ret hh ws rm mc ms n) (hp : PreV s H C b Pc As)
    (hg : g.method = m) (hn : As.length = n) (hsize : g.locals.size = nL) (hstack : g.stack = As.reverse ++ .ref b :: rest) (hW : 2 * g.monitorRoom + (rest.map fun v => v.category).sum ≤ 8) (hdg : decode cc g.pc = .ok (.invokevirtual index, 3)) (hf : cells + mc ≤ R.cells ∧ slots + ms ≤ R.slots) :
    va_Run p l e R s m args below meth c H locs cells slots mc ms g rest (Qc (Value.ref b :: As).toArray) free := by
  obtain ⟨⟨hrc, hrs, hfr, hlo, hws, hcw⟩, hcode, hini, hy, hlen, hl, hin, hse⟩ := cw
  have hK : Back l R p e below s args y 3 8 (PreOf R mc ms Pc) (PostOf Qc mc ms free) := va_backW (hh := hh) (bytes := bytes) (maxL := maxL) (ret := ret) hM hp.1 hrc hrs hfr hlo hws hcw (fun a' U hW => word_at hW (Or.inl (by first | rfl | simp [Cond.onTables, Cond.keeps, Cond.steady])) hini)
  obtain ⟨hx, hb, hml, ho, -⟩ := S
  obtain ⟨-, ⟨cellB, hcB, hoB, hclB⟩, hPc⟩ := hp
  intro T hT X
  obtain ⟨v, vm₁, ⟨U', l2, c2, s2⟩, hW₁, X', ⟨g', mk, t, L, e1, e2, hq, h1, hL, h2, h3⟩, st⟩ := vx_callVW X hx (C := C) (hh := hh) (bytes := bytes) (maxL := maxL) (ret := ret) ho hl hin hse hcode hy hK (by rw [hT]; exact hcB) hoB hclB hg (hsize.trans hml.symm) (argsL := As) (rest := rest) (fun sig h => hn.trans (hlen sig h)) hstack hW (by rw [hb]; exact hdg)
    (fun vm₁ hW₁ => ⟨hf.1, hf.2, hPc (T.setVm vm₁) hT hW₁⟩)
  dsimp only [Pt.U, Pt.locs, Pt.cells, Pt.slots] at X' e1 e2 h1 h2 h3 st
  subst h1; subst h2; subst h3
  exact ⟨v, (T.setVm vm₁).calling g' mk (Value.ref b :: As).toArray, t, U', L, hT, X', hL, e1, e2, hq, st⟩
section
variable {y : MethodName} {bytes cc : ByteArray} {maxL nL mc ms n index : Nat} {ret : Option FieldType} {ws : List Cond} {rm : Room} {Pc : Array Value → State → Prop} {Qc : Array Value → State → Outcome → State → Prop} {XC : String → State → State → Prop} {free : Addr → Prop} {Ts : List Cond} {own C : String} {b : Addr} {As rest : List Value} {g : JFrame}
theorem vx_runVX {hh : List (Nat × Nat × Nat × Nat)} (S : CallFix p m c cc nL s args Ts own) (hM : vx_Met l y ws rm Pc Qc XC mc ms free) (cw : vx_CVW R s args own C index y bytes maxL ret hh ws rm mc ms n) (hp : PreV s H C b Pc As)
    (hg : g.method = m) (hn : As.length = n) (hsize : g.locals.size = nL) (hstack : g.stack = As.reverse ++ .ref b :: rest) (hW : 2 * g.monitorRoom + (rest.map fun v => v.category).sum ≤ 8) (hdg : decode cc g.pc = .ok (.invokevirtual index, 3)) (hf : cells + mc ≤ R.cells ∧ slots + ms ≤ R.slots) :
    vx_Run p l e R s m args below meth c H locs cells slots mc ms g rest (Qc (Value.ref b :: As).toArray) XC free := by
  obtain ⟨⟨hrc, hrs, hfr, hlo, hws, hcw⟩, hcode, hini, hy, hlen, hl, hin, hse⟩ := cw
  have hK : vx_Back l R p e below s args y 3 8 (PreOf R mc ms Pc) (PostOf Qc mc ms free) (vx_Post XC mc ms free) := vx_backW (hh := hh) (bytes := bytes) (maxL := maxL) (ret := ret) hM hp.1 hrc hrs hfr hlo hws hcw (fun a' U hW => word_at hW (Or.inl (by first | rfl | simp [Cond.onTables, Cond.keeps, Cond.steady])) hini)
  obtain ⟨hx, hb, hml, ho, -⟩ := S
  obtain ⟨-, ⟨cellB, hcB, hoB, hclB⟩, hPc⟩ := hp
  intro T hT X
  rcases vx_callVX X hx (C := C) (hh := hh) (bytes := bytes) (maxL := maxL) (ret := ret) ho hl hin hse hcode hy hK (by rw [hT]; exact hcB) hoB hclB hg (hsize.trans hml.symm) (argsL := As) (rest := rest) (fun sig h => hn.trans (hlen sig h)) hstack hW (by rw [hb]; exact hdg)
    (fun vm₁ hW₁ => ⟨hf.1, hf.2, hPc (T.setVm vm₁) hT hW₁⟩) with ⟨v, vm₁, ⟨U', l2, c2, s2⟩, hW₁, X', ⟨g', mk, t, L, e1, e2, hq, h1, hL, h2, h3⟩, st⟩ | ⟨q, vm₁, ⟨U', l2, c2, s2⟩, hW₁, X', ⟨g', mk, t, L, E, ce, e1, e2, hq, hce, hcv, hcl, h1, hL, h2, h3⟩, st⟩
  · dsimp only [Pt.U, Pt.locs, Pt.cells, Pt.slots] at X' e1 e2 h1 h2 h3 st
    subst h1; subst h2; subst h3
    exact Or.inl ⟨v, (T.setVm vm₁).calling g' mk (Value.ref b :: As).toArray, t, U', L, hT, X', hL, e1, e2, hq, st⟩
  · dsimp only [Pt.U, Pt.locs, Pt.cells, Pt.slots] at X' e1 e2 h1 h2 h3 st hcl
    subst h1; subst h2; subst h3
    exact Or.inr ⟨q, (T.setVm vm₁).calling g' mk (Value.ref b :: As).toArray, t, U', L, E, ce, hT, X', hL, e1, e2, hq, hce, hcv, vx_cls hW₁ hcl, st⟩
theorem vx_runSX {hh : List (Nat × Nat × Nat × Nat)} (S : CallFix p m c cc nL s args Ts own) (hM : vx_Met l y ws rm Pc Qc XC mc ms free) (cw : vx_CSW R s args own index y bytes maxL ret hh ws rm mc ms n) (hp : PreS s H Pc As)
    (hg : g.method = m) (hn : As.length = n) (hsize : g.locals.size = nL) (hstack : g.stack = As.reverse ++ rest) (hW : 2 * g.monitorRoom + (rest.map fun v => v.category).sum ≤ 8) (hdg : decode cc g.pc = .ok (.invokestatic index, 3)) (hf : cells + mc ≤ R.cells ∧ slots + ms ≤ R.slots) :
    vx_Run p l e R s m args below meth c H locs cells slots mc ms g rest (Qc As.toArray) XC free := by
  obtain ⟨⟨hrc, hrs, hfr, hlo, hws, hcw⟩, hcode, hini, hy, hlen, hl, hstt⟩ := cw
  have hK : vx_Back l R p e below s args y 3 8 (PreOf R mc ms Pc) (PostOf Qc mc ms free) (vx_Post XC mc ms free) := vx_backW (hh := hh) (bytes := bytes) (maxL := maxL) (ret := ret) hM hp.1 hrc hrs hfr hlo hws hcw (fun a' U hW => word_at hW (Or.inl (by first | rfl | simp [Cond.onTables, Cond.keeps, Cond.steady])) hini)
  obtain ⟨hx, hb, hml, ho, -⟩ := S
  intro T hT X
  rcases vx_callSX X hx (hh := hh) (bytes := bytes) (maxL := maxL) (ret := ret) ho hl hstt hini hcode hy hK hg (hsize.trans hml.symm) (argsL := As) (rest := rest) (fun sig h => hn.trans (hlen sig h)) hstack hW (by rw [hb]; exact hdg)
    (fun vm₁ hW₁ => ⟨hf.1, hf.2, hp.2 (T.setVm vm₁) hT hW₁⟩) with ⟨v, vm₁, ⟨U', l2, c2, s2⟩, hW₁, X', ⟨g', mk, t, L, e1, e2, hq, h1, hL, h2, h3⟩, st⟩ | ⟨q, vm₁, ⟨U', l2, c2, s2⟩, hW₁, X', ⟨g', mk, t, L, E, ce, e1, e2, hq, hce, hcv, hcl, h1, hL, h2, h3⟩, st⟩
  · dsimp only [Pt.U, Pt.locs, Pt.cells, Pt.slots] at X' e1 e2 h1 h2 h3 st
    subst h1; subst h2; subst h3
    exact Or.inl ⟨v, (T.setVm vm₁).calling g' mk As.toArray, t, U', L, hT, X', hL, e1, e2, hq, st⟩
  · dsimp only [Pt.U, Pt.locs, Pt.cells, Pt.slots] at X' e1 e2 h1 h2 h3 st hcl
    subst h1; subst h2; subst h3
    exact Or.inr ⟨q, (T.setVm vm₁).calling g' mk As.toArray, t, U', L, E, ce, hT, X', hL, e1, e2, hq, hce, hcv, vx_cls hW₁ hcl, st⟩
end
end VXH
theorem vx_ofWH {l : Launch} {y : MethodName} {ws ws' : List Cond} {rm : Room} {Pc : Array Value → State → Prop} {Qc : Array Value → State → Outcome → State → Prop} {XC : String → State → State → Prop} {mc ms : Nat} {free : Addr → Prop} {cc : ByteArray} {maxL : Nat} {ret : Option FieldType} {hh : List (Nat × Nat × Nat × Nat)}
    (hy : plainName y.cls = true) (hw : ws = Cond.codeWith y cc maxL ret hh :: ws')
    (body : ∀ p e s m args below meth c s₁, BodyLoose p l y (headSpec ws rm) cc maxL ret e s m args below meth c s₁ → c.maxLocals = maxL → Pc args s →
      W p l e (headSpec ws rm).room s m args below meth c s.heap [] 0 0 (vx_MQ below Qc XC args s mc ms free) (entryFrame m args maxL)) : vx_Met l y ws rm Pc Qc XC mc ms free := by
  refine MetFree.of_bodyS (code := cc) (maxLocals := maxL) (ret := ret) hy ?_ ?_
  · intro args s m h hn
    obtain ⟨m9, meth, c, hn9, h1, h2, h3, h4, -, h5, h6, -⟩ := Cond.codeWith_spec (atoms_spec (ws := ws) h _ (by rw [hw]; exact List.mem_cons_self))
    cases hn.symm.trans hn9
    exact ⟨meth, c, h1, h2, h3, h4, h5, h6⟩
  · intro p e s m args below meth c s₁ B hml hP _
    have hh0 : s₁.heap = s.heap := by rw [B.state]; rfl
    obtain ⟨t, a1, o, b1, b2, b3⟩ := body p e s m args below meth c s₁ B hml hP s₁ hh0 (Stand.of_body B)
    exact ⟨t, o, a1, b1, b2, b3⟩
/-! ===== END ===== -/
end
section
-- ===== PART A: goes FIRST, ahead of the names: the tables' words, and 'selects' of the private methods out of them =====
/-- a private method of a class that the tables say can be made, by its rows of tables_1 -/
def lw_okq (q : MethodName × Nat) : Prop := (q.1.cls ≠ "java/lang/invoke/MethodHandle" ∧ q.1.cls ≠ "java/lang/invoke/VarHandle") ∧ Cond.instantiable q.1.cls q.2 ∈ tables_1 ∧ Cond.privateMethod q.1 ∈ tables_1 ∧ Cond.instanceMethod q.1 ∈ tables_1
theorem lw_p0 : lw_okq (⟨"TravelPurses$OrderReader", "readsSign", "(I)Z"⟩, 7) := ⟨⟨by decide +kernel, by decide +kernel⟩, List.mem_of_getElem? (i := 209) (by decide +kernel), List.mem_of_getElem? (i := 277) (by decide +kernel), List.mem_of_getElem? (i := 278) (by decide +kernel)⟩
theorem lw_p1 : lw_okq (⟨"TravelPurses$OrderReader", "digitsDue", "()I"⟩, 7) := ⟨⟨by decide +kernel, by decide +kernel⟩, List.mem_of_getElem? (i := 209) (by decide +kernel), List.mem_of_getElem? (i := 281) (by decide +kernel), List.mem_of_getElem? (i := 282) (by decide +kernel)⟩
theorem lw_p2 : lw_okq (⟨"TravelPurses$OrderReader", "readsDigit", "(I)Z"⟩, 7) := ⟨⟨by decide +kernel, by decide +kernel⟩, List.mem_of_getElem? (i := 209) (by decide +kernel), List.mem_of_getElem? (i := 285) (by decide +kernel), List.mem_of_getElem? (i := 286) (by decide +kernel)⟩
theorem lw_p3 : lw_okq (⟨"TravelPurses$OrderReader", "readsAmount", "(I)Z"⟩, 7) := ⟨⟨by decide +kernel, by decide +kernel⟩, List.mem_of_getElem? (i := 209) (by decide +kernel), List.mem_of_getElem? (i := 294) (by decide +kernel), List.mem_of_getElem? (i := 295) (by decide +kernel)⟩
theorem lw_p4 : lw_okq (⟨"java/lang/Throwable", "fillInStackTrace", "(I)Ljava/lang/Throwable;"⟩, 6) := ⟨⟨by decide +kernel, by decide +kernel⟩, List.mem_of_getElem? (i := 349) (by decide +kernel), List.mem_of_getElem? (i := 347) (by decide +kernel), List.mem_of_getElem? (i := 348) (by decide +kernel)⟩
theorem lw_p5 : lw_okq (⟨"TravelPurses", "mixWallet", "(JI)J"⟩, 6) := ⟨⟨by decide +kernel, by decide +kernel⟩, List.mem_of_getElem? (i := 18) (by decide +kernel), List.mem_of_getElem? (i := 403) (by decide +kernel), List.mem_of_getElem? (i := 404) (by decide +kernel)⟩
theorem lw_p6 : lw_okq (⟨"TravelPurses", "purseAt", "(II)LTravelPurses$Purse;"⟩, 6) := ⟨⟨by decide +kernel, by decide +kernel⟩, List.mem_of_getElem? (i := 18) (by decide +kernel), List.mem_of_getElem? (i := 411) (by decide +kernel), List.mem_of_getElem? (i := 412) (by decide +kernel)⟩
theorem lw_p7 : lw_okq (⟨"TravelPurses", "requireAmount", "(I)V"⟩, 6) := ⟨⟨by decide +kernel, by decide +kernel⟩, List.mem_of_getElem? (i := 18) (by decide +kernel), List.mem_of_getElem? (i := 475) (by decide +kernel), List.mem_of_getElem? (i := 476) (by decide +kernel)⟩
theorem lw_p8 : lw_okq (⟨"TravelPurses", "foreignPurseAt", "(II)LTravelPurses$Purse;"⟩, 6) := ⟨⟨by decide +kernel, by decide +kernel⟩, List.mem_of_getElem? (i := 18) (by decide +kernel), List.mem_of_getElem? (i := 502) (by decide +kernel), List.mem_of_getElem? (i := 503) (by decide +kernel)⟩
theorem lw_p9 : lw_okq (⟨"TravelPurses", "mixHolds", "(J)J"⟩, 6) := ⟨⟨by decide +kernel, by decide +kernel⟩, List.mem_of_getElem? (i := 18) (by decide +kernel), List.mem_of_getElem? (i := 515) (by decide +kernel), List.mem_of_getElem? (i := 516) (by decide +kernel)⟩
theorem lw_p10 : lw_okq (⟨"TravelPurses", "holdAt", "(I)LTravelPurses$Hold;"⟩, 6) := ⟨⟨by decide +kernel, by decide +kernel⟩, List.mem_of_getElem? (i := 18) (by decide +kernel), List.mem_of_getElem? (i := 523) (by decide +kernel), List.mem_of_getElem? (i := 524) (by decide +kernel)⟩
theorem lw_p11 : lw_okq (⟨"TravelPurses", "mixPayments", "(J)J"⟩, 6) := ⟨⟨by decide +kernel, by decide +kernel⟩, List.mem_of_getElem? (i := 18) (by decide +kernel), List.mem_of_getElem? (i := 528) (by decide +kernel), List.mem_of_getElem? (i := 529) (by decide +kernel)⟩
theorem lw_p12 : lw_okq (⟨"TravelPurses", "paymentAt", "(I)LTravelPurses$Payment;"⟩, 6) := ⟨⟨by decide +kernel, by decide +kernel⟩, List.mem_of_getElem? (i := 18) (by decide +kernel), List.mem_of_getElem? (i := 536) (by decide +kernel), List.mem_of_getElem? (i := 537) (by decide +kernel)⟩
theorem lw_p13 : lw_okq (⟨"TravelPurses", "mixBuffer", "(J)J"⟩, 6) := ⟨⟨by decide +kernel, by decide +kernel⟩, List.mem_of_getElem? (i := 18) (by decide +kernel), List.mem_of_getElem? (i := 545) (by decide +kernel), List.mem_of_getElem? (i := 546) (by decide +kernel)⟩
theorem lw_p14 : lw_okq (⟨"TravelPurses", "saveState", "()V"⟩, 6) := ⟨⟨by decide +kernel, by decide +kernel⟩, List.mem_of_getElem? (i := 18) (by decide +kernel), List.mem_of_getElem? (i := 580) (by decide +kernel), List.mem_of_getElem? (i := 581) (by decide +kernel)⟩
theorem lw_p15 : lw_okq (⟨"TravelPurses", "dropOldestState", "()V"⟩, 6) := ⟨⟨by decide +kernel, by decide +kernel⟩, List.mem_of_getElem? (i := 18) (by decide +kernel), List.mem_of_getElem? (i := 584) (by decide +kernel), List.mem_of_getElem? (i := 585) (by decide +kernel)⟩
def lw_privs_1 : List (MethodName × Nat) := [(⟨"TravelPurses$OrderReader", "readsSign", "(I)Z"⟩, 7), (⟨"TravelPurses$OrderReader", "digitsDue", "()I"⟩, 7), (⟨"TravelPurses$OrderReader", "readsDigit", "(I)Z"⟩, 7), (⟨"TravelPurses$OrderReader", "readsAmount", "(I)Z"⟩, 7), (⟨"java/lang/Throwable", "fillInStackTrace", "(I)Ljava/lang/Throwable;"⟩, 6), (⟨"TravelPurses", "mixWallet", "(JI)J"⟩, 6), (⟨"TravelPurses", "purseAt", "(II)LTravelPurses$Purse;"⟩, 6), (⟨"TravelPurses", "requireAmount", "(I)V"⟩, 6), (⟨"TravelPurses", "foreignPurseAt", "(II)LTravelPurses$Purse;"⟩, 6), (⟨"TravelPurses", "mixHolds", "(J)J"⟩, 6), (⟨"TravelPurses", "holdAt", "(I)LTravelPurses$Hold;"⟩, 6), (⟨"TravelPurses", "mixPayments", "(J)J"⟩, 6), (⟨"TravelPurses", "paymentAt", "(I)LTravelPurses$Payment;"⟩, 6), (⟨"TravelPurses", "mixBuffer", "(J)J"⟩, 6), (⟨"TravelPurses", "saveState", "()V"⟩, 6), (⟨"TravelPurses", "dropOldestState", "()V"⟩, 6)]
theorem lw_r1 : ∀ q ∈ lw_privs_1, lw_okq q := List.forall_mem_cons.mpr ⟨lw_p0, List.forall_mem_cons.mpr ⟨lw_p1, List.forall_mem_cons.mpr ⟨lw_p2, List.forall_mem_cons.mpr ⟨lw_p3, List.forall_mem_cons.mpr ⟨lw_p4, List.forall_mem_cons.mpr ⟨lw_p5, List.forall_mem_cons.mpr ⟨lw_p6, List.forall_mem_cons.mpr ⟨lw_p7, List.forall_mem_cons.mpr ⟨lw_p8, List.forall_mem_cons.mpr ⟨lw_p9, List.forall_mem_cons.mpr ⟨lw_p10, List.forall_mem_cons.mpr ⟨lw_p11, List.forall_mem_cons.mpr ⟨lw_p12, List.forall_mem_cons.mpr ⟨lw_p13, List.forall_mem_cons.mpr ⟨lw_p14, List.forall_mem_cons.mpr ⟨lw_p15, fun _ h => absurd h List.not_mem_nil⟩⟩⟩⟩⟩⟩⟩⟩⟩⟩⟩⟩⟩⟩⟩⟩
theorem lw_p16 : lw_okq (⟨"TravelPurses", "carryOutRow", "()I"⟩, 6) := ⟨⟨by decide +kernel, by decide +kernel⟩, List.mem_of_getElem? (i := 18) (by decide +kernel), List.mem_of_getElem? (i := 769) (by decide +kernel), List.mem_of_getElem? (i := 770) (by decide +kernel)⟩
theorem lw_p17 : lw_okq (⟨"TravelPurses", "carriesOutOrder", "()Z"⟩, 6) := ⟨⟨by decide +kernel, by decide +kernel⟩, List.mem_of_getElem? (i := 18) (by decide +kernel), List.mem_of_getElem? (i := 773) (by decide +kernel), List.mem_of_getElem? (i := 774) (by decide +kernel)⟩
theorem lw_p18 : lw_okq (⟨"TravelPursesModel", "canLoad", "(II)Z"⟩, 11) := ⟨⟨by decide +kernel, by decide +kernel⟩, List.mem_of_getElem? (i := 833) (by decide +kernel), List.mem_of_getElem? (i := 891) (by decide +kernel), List.mem_of_getElem? (i := 892) (by decide +kernel)⟩
theorem lw_p19 : lw_okq (⟨"TravelPursesModel", "of", "(III)I"⟩, 11) := ⟨⟨by decide +kernel, by decide +kernel⟩, List.mem_of_getElem? (i := 833) (by decide +kernel), List.mem_of_getElem? (i := 895) (by decide +kernel), List.mem_of_getElem? (i := 896) (by decide +kernel)⟩
theorem lw_p20 : lw_okq (⟨"TravelPursesModel", "save", "()V"⟩, 11) := ⟨⟨by decide +kernel, by decide +kernel⟩, List.mem_of_getElem? (i := 833) (by decide +kernel), List.mem_of_getElem? (i := 903) (by decide +kernel), List.mem_of_getElem? (i := 904) (by decide +kernel)⟩
theorem lw_p21 : lw_okq (⟨"TravelPursesModel", "loads", "(II)V"⟩, 11) := ⟨⟨by decide +kernel, by decide +kernel⟩, List.mem_of_getElem? (i := 833) (by decide +kernel), List.mem_of_getElem? (i := 907) (by decide +kernel), List.mem_of_getElem? (i := 908) (by decide +kernel)⟩
theorem lw_p22 : lw_okq (⟨"TravelPursesModel", "comeIn", "(III)V"⟩, 11) := ⟨⟨by decide +kernel, by decide +kernel⟩, List.mem_of_getElem? (i := 833) (by decide +kernel), List.mem_of_getElem? (i := 911) (by decide +kernel), List.mem_of_getElem? (i := 912) (by decide +kernel)⟩
theorem lw_p23 : lw_okq (⟨"TravelPursesModel", "whyNoExchange", "(IIII)I"⟩, 11) := ⟨⟨by decide +kernel, by decide +kernel⟩, List.mem_of_getElem? (i := 833) (by decide +kernel), List.mem_of_getElem? (i := 936) (by decide +kernel), List.mem_of_getElem? (i := 937) (by decide +kernel)⟩
theorem lw_p24 : lw_okq (⟨"TravelPursesModel", "freeOf", "(II)I"⟩, 11) := ⟨⟨by decide +kernel, by decide +kernel⟩, List.mem_of_getElem? (i := 833) (by decide +kernel), List.mem_of_getElem? (i := 943) (by decide +kernel), List.mem_of_getElem? (i := 944) (by decide +kernel)⟩
theorem lw_p25 : lw_okq (⟨"TravelPursesModel", "keptOf", "(II)I"⟩, 11) := ⟨⟨by decide +kernel, by decide +kernel⟩, List.mem_of_getElem? (i := 833) (by decide +kernel), List.mem_of_getElem? (i := 947) (by decide +kernel), List.mem_of_getElem? (i := 948) (by decide +kernel)⟩
theorem lw_p26 : lw_okq (⟨"TravelPursesModel", "isOf", "(III)Z"⟩, 11) := ⟨⟨by decide +kernel, by decide +kernel⟩, List.mem_of_getElem? (i := 833) (by decide +kernel), List.mem_of_getElem? (i := 951) (by decide +kernel), List.mem_of_getElem? (i := 952) (by decide +kernel)⟩
theorem lw_p27 : lw_okq (⟨"TravelPursesModel", "ofHold", "(II)I"⟩, 11) := ⟨⟨by decide +kernel, by decide +kernel⟩, List.mem_of_getElem? (i := 833) (by decide +kernel), List.mem_of_getElem? (i := 955) (by decide +kernel), List.mem_of_getElem? (i := 956) (by decide +kernel)⟩
theorem lw_p28 : lw_okq (⟨"TravelPursesModel", "exchanges", "(IIII)I"⟩, 11) := ⟨⟨by decide +kernel, by decide +kernel⟩, List.mem_of_getElem? (i := 833) (by decide +kernel), List.mem_of_getElem? (i := 959) (by decide +kernel), List.mem_of_getElem? (i := 960) (by decide +kernel)⟩
theorem lw_p29 : lw_okq (⟨"TravelPursesModel", "given", "(IIII)I"⟩, 11) := ⟨⟨by decide +kernel, by decide +kernel⟩, List.mem_of_getElem? (i := 833) (by decide +kernel), List.mem_of_getElem? (i := 963) (by decide +kernel), List.mem_of_getElem? (i := 964) (by decide +kernel)⟩
theorem lw_p30 : lw_okq (⟨"TravelPursesModel", "rateOf", "(II)I"⟩, 11) := ⟨⟨by decide +kernel, by decide +kernel⟩, List.mem_of_getElem? (i := 833) (by decide +kernel), List.mem_of_getElem? (i := 968) (by decide +kernel), List.mem_of_getElem? (i := 969) (by decide +kernel)⟩
theorem lw_p31 : lw_okq (⟨"TravelPursesModel", "isLocked", "(II)Z"⟩, 11) := ⟨⟨by decide +kernel, by decide +kernel⟩, List.mem_of_getElem? (i := 833) (by decide +kernel), List.mem_of_getElem? (i := 972) (by decide +kernel), List.mem_of_getElem? (i := 973) (by decide +kernel)⟩
def lw_privs_2 : List (MethodName × Nat) := [(⟨"TravelPurses", "carryOutRow", "()I"⟩, 6), (⟨"TravelPurses", "carriesOutOrder", "()Z"⟩, 6), (⟨"TravelPursesModel", "canLoad", "(II)Z"⟩, 11), (⟨"TravelPursesModel", "of", "(III)I"⟩, 11), (⟨"TravelPursesModel", "save", "()V"⟩, 11), (⟨"TravelPursesModel", "loads", "(II)V"⟩, 11), (⟨"TravelPursesModel", "comeIn", "(III)V"⟩, 11), (⟨"TravelPursesModel", "whyNoExchange", "(IIII)I"⟩, 11), (⟨"TravelPursesModel", "freeOf", "(II)I"⟩, 11), (⟨"TravelPursesModel", "keptOf", "(II)I"⟩, 11), (⟨"TravelPursesModel", "isOf", "(III)Z"⟩, 11), (⟨"TravelPursesModel", "ofHold", "(II)I"⟩, 11), (⟨"TravelPursesModel", "exchanges", "(IIII)I"⟩, 11), (⟨"TravelPursesModel", "given", "(IIII)I"⟩, 11), (⟨"TravelPursesModel", "rateOf", "(II)I"⟩, 11), (⟨"TravelPursesModel", "isLocked", "(II)Z"⟩, 11)]
theorem lw_r2 : ∀ q ∈ lw_privs_2, lw_okq q := List.forall_mem_cons.mpr ⟨lw_p16, List.forall_mem_cons.mpr ⟨lw_p17, List.forall_mem_cons.mpr ⟨lw_p18, List.forall_mem_cons.mpr ⟨lw_p19, List.forall_mem_cons.mpr ⟨lw_p20, List.forall_mem_cons.mpr ⟨lw_p21, List.forall_mem_cons.mpr ⟨lw_p22, List.forall_mem_cons.mpr ⟨lw_p23, List.forall_mem_cons.mpr ⟨lw_p24, List.forall_mem_cons.mpr ⟨lw_p25, List.forall_mem_cons.mpr ⟨lw_p26, List.forall_mem_cons.mpr ⟨lw_p27, List.forall_mem_cons.mpr ⟨lw_p28, List.forall_mem_cons.mpr ⟨lw_p29, List.forall_mem_cons.mpr ⟨lw_p30, List.forall_mem_cons.mpr ⟨lw_p31, fun _ h => absurd h List.not_mem_nil⟩⟩⟩⟩⟩⟩⟩⟩⟩⟩⟩⟩⟩⟩⟩⟩
theorem lw_p32 : lw_okq (⟨"TravelPursesModel", "spreadOf", "(I)I"⟩, 11) := ⟨⟨by decide +kernel, by decide +kernel⟩, List.mem_of_getElem? (i := 833) (by decide +kernel), List.mem_of_getElem? (i := 976) (by decide +kernel), List.mem_of_getElem? (i := 977) (by decide +kernel)⟩
theorem lw_p33 : lw_okq (⟨"TravelPursesModel", "whyNoHold", "(III)I"⟩, 11) := ⟨⟨by decide +kernel, by decide +kernel⟩, List.mem_of_getElem? (i := 833) (by decide +kernel), List.mem_of_getElem? (i := 984) (by decide +kernel), List.mem_of_getElem? (i := 985) (by decide +kernel)⟩
theorem lw_p34 : lw_okq (⟨"TravelPursesModel", "withTip", "(I)I"⟩, 11) := ⟨⟨by decide +kernel, by decide +kernel⟩, List.mem_of_getElem? (i := 833) (by decide +kernel), List.mem_of_getElem? (i := 988) (by decide +kernel), List.mem_of_getElem? (i := 989) (by decide +kernel)⟩
theorem lw_p35 : lw_okq (⟨"TravelPursesModel", "holds", "(III)I"⟩, 11) := ⟨⟨by decide +kernel, by decide +kernel⟩, List.mem_of_getElem? (i := 833) (by decide +kernel), List.mem_of_getElem? (i := 992) (by decide +kernel), List.mem_of_getElem? (i := 993) (by decide +kernel)⟩
theorem lw_p36 : lw_okq (⟨"TravelPursesModel", "isHold", "(I)Z"⟩, 11) := ⟨⟨by decide +kernel, by decide +kernel⟩, List.mem_of_getElem? (i := 833) (by decide +kernel), List.mem_of_getElem? (i := 1000) (by decide +kernel), List.mem_of_getElem? (i := 1001) (by decide +kernel)⟩
theorem lw_p37 : lw_okq (⟨"TravelPursesModel", "removeHold", "(I)V"⟩, 11) := ⟨⟨by decide +kernel, by decide +kernel⟩, List.mem_of_getElem? (i := 833) (by decide +kernel), List.mem_of_getElem? (i := 1004) (by decide +kernel), List.mem_of_getElem? (i := 1005) (by decide +kernel)⟩
theorem lw_p38 : lw_okq (⟨"TravelPursesModel", "isPayment", "(I)Z"⟩, 11) := ⟨⟨by decide +kernel, by decide +kernel⟩, List.mem_of_getElem? (i := 833) (by decide +kernel), List.mem_of_getElem? (i := 1016) (by decide +kernel), List.mem_of_getElem? (i := 1017) (by decide +kernel)⟩
theorem lw_p39 : lw_okq (⟨"TravelPursesModel", "canDispute", "(I)Z"⟩, 11) := ⟨⟨by decide +kernel, by decide +kernel⟩, List.mem_of_getElem? (i := 833) (by decide +kernel), List.mem_of_getElem? (i := 1020) (by decide +kernel), List.mem_of_getElem? (i := 1021) (by decide +kernel)⟩
theorem lw_p40 : lw_okq (⟨"TravelPursesModel", "ofPayment", "(II)I"⟩, 11) := ⟨⟨by decide +kernel, by decide +kernel⟩, List.mem_of_getElem? (i := 833) (by decide +kernel), List.mem_of_getElem? (i := 1024) (by decide +kernel), List.mem_of_getElem? (i := 1025) (by decide +kernel)⟩
theorem lw_p41 : lw_okq (⟨"TravelPursesModel", "takesBack", "(III)I"⟩, 11) := ⟨⟨by decide +kernel, by decide +kernel⟩, List.mem_of_getElem? (i := 833) (by decide +kernel), List.mem_of_getElem? (i := 1032) (by decide +kernel), List.mem_of_getElem? (i := 1033) (by decide +kernel)⟩
theorem lw_p42 : lw_okq (⟨"TravelPursesModel", "whyNoClosing", "(I)I"⟩, 11) := ⟨⟨by decide +kernel, by decide +kernel⟩, List.mem_of_getElem? (i := 833) (by decide +kernel), List.mem_of_getElem? (i := 1040) (by decide +kernel), List.mem_of_getElem? (i := 1041) (by decide +kernel)⟩
theorem lw_p43 : lw_okq (⟨"TravelPursesModel", "hasHold", "(I)Z"⟩, 11) := ⟨⟨by decide +kernel, by decide +kernel⟩, List.mem_of_getElem? (i := 833) (by decide +kernel), List.mem_of_getElem? (i := 1044) (by decide +kernel), List.mem_of_getElem? (i := 1045) (by decide +kernel)⟩
theorem lw_p44 : lw_okq (⟨"TravelPursesModel", "hasDispute", "(I)Z"⟩, 11) := ⟨⟨by decide +kernel, by decide +kernel⟩, List.mem_of_getElem? (i := 833) (by decide +kernel), List.mem_of_getElem? (i := 1048) (by decide +kernel), List.mem_of_getElem? (i := 1049) (by decide +kernel)⟩
theorem lw_p45 : lw_okq (⟨"TravelPursesModel", "hasDebt", "(I)Z"⟩, 11) := ⟨⟨by decide +kernel, by decide +kernel⟩, List.mem_of_getElem? (i := 833) (by decide +kernel), List.mem_of_getElem? (i := 1052) (by decide +kernel), List.mem_of_getElem? (i := 1053) (by decide +kernel)⟩
theorem lw_p46 : lw_okq (⟨"TravelPursesModel", "closes", "(I)I"⟩, 11) := ⟨⟨by decide +kernel, by decide +kernel⟩, List.mem_of_getElem? (i := 833) (by decide +kernel), List.mem_of_getElem? (i := 1056) (by decide +kernel), List.mem_of_getElem? (i := 1057) (by decide +kernel)⟩
theorem lw_p47 : lw_okq (⟨"TravelPursesModel", "dayPasses", "()I"⟩, 11) := ⟨⟨by decide +kernel, by decide +kernel⟩, List.mem_of_getElem? (i := 833) (by decide +kernel), List.mem_of_getElem? (i := 1064) (by decide +kernel), List.mem_of_getElem? (i := 1065) (by decide +kernel)⟩
def lw_privs_3 : List (MethodName × Nat) := [(⟨"TravelPursesModel", "spreadOf", "(I)I"⟩, 11), (⟨"TravelPursesModel", "whyNoHold", "(III)I"⟩, 11), (⟨"TravelPursesModel", "withTip", "(I)I"⟩, 11), (⟨"TravelPursesModel", "holds", "(III)I"⟩, 11), (⟨"TravelPursesModel", "isHold", "(I)Z"⟩, 11), (⟨"TravelPursesModel", "removeHold", "(I)V"⟩, 11), (⟨"TravelPursesModel", "isPayment", "(I)Z"⟩, 11), (⟨"TravelPursesModel", "canDispute", "(I)Z"⟩, 11), (⟨"TravelPursesModel", "ofPayment", "(II)I"⟩, 11), (⟨"TravelPursesModel", "takesBack", "(III)I"⟩, 11), (⟨"TravelPursesModel", "whyNoClosing", "(I)I"⟩, 11), (⟨"TravelPursesModel", "hasHold", "(I)Z"⟩, 11), (⟨"TravelPursesModel", "hasDispute", "(I)Z"⟩, 11), (⟨"TravelPursesModel", "hasDebt", "(I)Z"⟩, 11), (⟨"TravelPursesModel", "closes", "(I)I"⟩, 11), (⟨"TravelPursesModel", "dayPasses", "()I"⟩, 11)]
theorem lw_r3 : ∀ q ∈ lw_privs_3, lw_okq q := List.forall_mem_cons.mpr ⟨lw_p32, List.forall_mem_cons.mpr ⟨lw_p33, List.forall_mem_cons.mpr ⟨lw_p34, List.forall_mem_cons.mpr ⟨lw_p35, List.forall_mem_cons.mpr ⟨lw_p36, List.forall_mem_cons.mpr ⟨lw_p37, List.forall_mem_cons.mpr ⟨lw_p38, List.forall_mem_cons.mpr ⟨lw_p39, List.forall_mem_cons.mpr ⟨lw_p40, List.forall_mem_cons.mpr ⟨lw_p41, List.forall_mem_cons.mpr ⟨lw_p42, List.forall_mem_cons.mpr ⟨lw_p43, List.forall_mem_cons.mpr ⟨lw_p44, List.forall_mem_cons.mpr ⟨lw_p45, List.forall_mem_cons.mpr ⟨lw_p46, List.forall_mem_cons.mpr ⟨lw_p47, fun _ h => absurd h List.not_mem_nil⟩⟩⟩⟩⟩⟩⟩⟩⟩⟩⟩⟩⟩⟩⟩⟩
theorem lw_p48 : lw_okq (⟨"TravelPursesModel", "rightUpTo", "()I"⟩, 11) := ⟨⟨by decide +kernel, by decide +kernel⟩, List.mem_of_getElem? (i := 833) (by decide +kernel), List.mem_of_getElem? (i := 1090) (by decide +kernel), List.mem_of_getElem? (i := 1091) (by decide +kernel)⟩
theorem lw_p49 : lw_okq (⟨"TravelPursesModel", "takes", "(I)Z"⟩, 11) := ⟨⟨by decide +kernel, by decide +kernel⟩, List.mem_of_getElem? (i := 833) (by decide +kernel), List.mem_of_getElem? (i := 1094) (by decide +kernel), List.mem_of_getElem? (i := 1095) (by decide +kernel)⟩
theorem lw_p50 : lw_okq (⟨"TravelPursesModel", "takesPlace", "(I)Z"⟩, 11) := ⟨⟨by decide +kernel, by decide +kernel⟩, List.mem_of_getElem? (i := 833) (by decide +kernel), List.mem_of_getElem? (i := 1098) (by decide +kernel), List.mem_of_getElem? (i := 1099) (by decide +kernel)⟩
theorem lw_p51 : lw_okq (⟨"TravelPursesModel", "takesDigit", "(I)Z"⟩, 11) := ⟨⟨by decide +kernel, by decide +kernel⟩, List.mem_of_getElem? (i := 833) (by decide +kernel), List.mem_of_getElem? (i := 1102) (by decide +kernel), List.mem_of_getElem? (i := 1103) (by decide +kernel)⟩
theorem lw_p52 : lw_okq (⟨"TravelPursesModel", "carries", "(I)Z"⟩, 11) := ⟨⟨by decide +kernel, by decide +kernel⟩, List.mem_of_getElem? (i := 833) (by decide +kernel), List.mem_of_getElem? (i := 1110) (by decide +kernel), List.mem_of_getElem? (i := 1111) (by decide +kernel)⟩
theorem lw_p53 : lw_okq (⟨"TravelPursesModel", "purseNow", "(III)I"⟩, 11) := ⟨⟨by decide +kernel, by decide +kernel⟩, List.mem_of_getElem? (i := 833) (by decide +kernel), List.mem_of_getElem? (i := 1122) (by decide +kernel), List.mem_of_getElem? (i := 1123) (by decide +kernel)⟩
theorem lw_p54 : lw_okq (⟨"TravelPursesModel", "creditIn", "(II)I"⟩, 11) := ⟨⟨by decide +kernel, by decide +kernel⟩, List.mem_of_getElem? (i := 833) (by decide +kernel), List.mem_of_getElem? (i := 1126) (by decide +kernel), List.mem_of_getElem? (i := 1127) (by decide +kernel)⟩
theorem lw_p55 : lw_okq (⟨"TravelPursesModel", "paymentNow", "(II)I"⟩, 11) := ⟨⟨by decide +kernel, by decide +kernel⟩, List.mem_of_getElem? (i := 833) (by decide +kernel), List.mem_of_getElem? (i := 1138) (by decide +kernel), List.mem_of_getElem? (i := 1139) (by decide +kernel)⟩
theorem lw_p56 : lw_okq (⟨"TravelPursesModel", "counted", "(I)I"⟩, 11) := ⟨⟨by decide +kernel, by decide +kernel⟩, List.mem_of_getElem? (i := 833) (by decide +kernel), List.mem_of_getElem? (i := 1146) (by decide +kernel), List.mem_of_getElem? (i := 1147) (by decide +kernel)⟩
theorem lw_p57 : lw_okq (⟨"TravelPursesModel", "disputed", "()I"⟩, 11) := ⟨⟨by decide +kernel, by decide +kernel⟩, List.mem_of_getElem? (i := 833) (by decide +kernel), List.mem_of_getElem? (i := 1150) (by decide +kernel), List.mem_of_getElem? (i := 1151) (by decide +kernel)⟩
theorem lw_p58 : lw_okq (⟨"TravelPursesModel", "exchangedThen", "(IIII)I"⟩, 11) := ⟨⟨by decide +kernel, by decide +kernel⟩, List.mem_of_getElem? (i := 833) (by decide +kernel), List.mem_of_getElem? (i := 1162) (by decide +kernel), List.mem_of_getElem? (i := 1163) (by decide +kernel)⟩
theorem lw_p59 : lw_okq (⟨"TravelPursesModel", "brings", "(IIII)I"⟩, 11) := ⟨⟨by decide +kernel, by decide +kernel⟩, List.mem_of_getElem? (i := 833) (by decide +kernel), List.mem_of_getElem? (i := 1166) (by decide +kernel), List.mem_of_getElem? (i := 1167) (by decide +kernel)⟩
theorem lw_p60 : lw_okq (⟨"TravelPursesModel", "neededFor", "(III)I"⟩, 11) := ⟨⟨by decide +kernel, by decide +kernel⟩, List.mem_of_getElem? (i := 833) (by decide +kernel), List.mem_of_getElem? (i := 1174) (by decide +kernel), List.mem_of_getElem? (i := 1175) (by decide +kernel)⟩
theorem lw_p61 : lw_okq (⟨"TravelPursesModel", "roomOf", "(II)I"⟩, 11) := ⟨⟨by decide +kernel, by decide +kernel⟩, List.mem_of_getElem? (i := 833) (by decide +kernel), List.mem_of_getElem? (i := 1183) (by decide +kernel), List.mem_of_getElem? (i := 1184) (by decide +kernel)⟩
theorem lw_p62 : lw_okq (⟨"TravelPursesModel", "closedThen", "(I)I"⟩, 11) := ⟨⟨by decide +kernel, by decide +kernel⟩, List.mem_of_getElem? (i := 833) (by decide +kernel), List.mem_of_getElem? (i := 1195) (by decide +kernel), List.mem_of_getElem? (i := 1196) (by decide +kernel)⟩
theorem lw_p63 : lw_okq (⟨"TravelPursesModel", "share", "(II)D"⟩, 11) := ⟨⟨by decide +kernel, by decide +kernel⟩, List.mem_of_getElem? (i := 833) (by decide +kernel), List.mem_of_getElem? (i := 1203) (by decide +kernel), List.mem_of_getElem? (i := 1204) (by decide +kernel)⟩
def lw_privs_4 : List (MethodName × Nat) := [(⟨"TravelPursesModel", "rightUpTo", "()I"⟩, 11), (⟨"TravelPursesModel", "takes", "(I)Z"⟩, 11), (⟨"TravelPursesModel", "takesPlace", "(I)Z"⟩, 11), (⟨"TravelPursesModel", "takesDigit", "(I)Z"⟩, 11), (⟨"TravelPursesModel", "carries", "(I)Z"⟩, 11), (⟨"TravelPursesModel", "purseNow", "(III)I"⟩, 11), (⟨"TravelPursesModel", "creditIn", "(II)I"⟩, 11), (⟨"TravelPursesModel", "paymentNow", "(II)I"⟩, 11), (⟨"TravelPursesModel", "counted", "(I)I"⟩, 11), (⟨"TravelPursesModel", "disputed", "()I"⟩, 11), (⟨"TravelPursesModel", "exchangedThen", "(IIII)I"⟩, 11), (⟨"TravelPursesModel", "brings", "(IIII)I"⟩, 11), (⟨"TravelPursesModel", "neededFor", "(III)I"⟩, 11), (⟨"TravelPursesModel", "roomOf", "(II)I"⟩, 11), (⟨"TravelPursesModel", "closedThen", "(I)I"⟩, 11), (⟨"TravelPursesModel", "share", "(II)D"⟩, 11)]
theorem lw_r4 : ∀ q ∈ lw_privs_4, lw_okq q := List.forall_mem_cons.mpr ⟨lw_p48, List.forall_mem_cons.mpr ⟨lw_p49, List.forall_mem_cons.mpr ⟨lw_p50, List.forall_mem_cons.mpr ⟨lw_p51, List.forall_mem_cons.mpr ⟨lw_p52, List.forall_mem_cons.mpr ⟨lw_p53, List.forall_mem_cons.mpr ⟨lw_p54, List.forall_mem_cons.mpr ⟨lw_p55, List.forall_mem_cons.mpr ⟨lw_p56, List.forall_mem_cons.mpr ⟨lw_p57, List.forall_mem_cons.mpr ⟨lw_p58, List.forall_mem_cons.mpr ⟨lw_p59, List.forall_mem_cons.mpr ⟨lw_p60, List.forall_mem_cons.mpr ⟨lw_p61, List.forall_mem_cons.mpr ⟨lw_p62, List.forall_mem_cons.mpr ⟨lw_p63, fun _ h => absurd h List.not_mem_nil⟩⟩⟩⟩⟩⟩⟩⟩⟩⟩⟩⟩⟩⟩⟩⟩
theorem lw_p64 : lw_okq (⟨"TravelPursesModel", "mix", "(J)V"⟩, 11) := ⟨⟨by decide +kernel, by decide +kernel⟩, List.mem_of_getElem? (i := 833) (by decide +kernel), List.mem_of_getElem? (i := 1212) (by decide +kernel), List.mem_of_getElem? (i := 1213) (by decide +kernel)⟩
theorem lw_p65 : lw_okq (⟨"TravelPursesModel", "mixWallet", "(I)V"⟩, 11) := ⟨⟨by decide +kernel, by decide +kernel⟩, List.mem_of_getElem? (i := 833) (by decide +kernel), List.mem_of_getElem? (i := 1217) (by decide +kernel), List.mem_of_getElem? (i := 1218) (by decide +kernel)⟩
def lw_privs_5 : List (MethodName × Nat) := [(⟨"TravelPursesModel", "mix", "(J)V"⟩, 11), (⟨"TravelPursesModel", "mixWallet", "(I)V"⟩, 11)]
theorem lw_r5 : ∀ q ∈ lw_privs_5, lw_okq q := List.forall_mem_cons.mpr ⟨lw_p64, List.forall_mem_cons.mpr ⟨lw_p65, fun _ h => absurd h List.not_mem_nil⟩⟩
def lw_privs : List (MethodName × Nat) := lw_privs_1 ++ (lw_privs_2 ++ (lw_privs_3 ++ (lw_privs_4 ++ (lw_privs_5))))
def lw_tbl : List Cond := k2_sels lw_privs ++ tables_1
theorem lw_privs_ok : ∀ q ∈ lw_privs, lw_okq q := by
  show ∀ q ∈ lw_privs_1 ++ (lw_privs_2 ++ (lw_privs_3 ++ (lw_privs_4 ++ (lw_privs_5)))), lw_okq q
  exact List.forall_mem_append.mpr ⟨lw_r1, List.forall_mem_append.mpr ⟨lw_r2, List.forall_mem_append.mpr ⟨lw_r3, List.forall_mem_append.mpr ⟨lw_r4, lw_r5⟩⟩⟩⟩
/-- the streams that the claim lets the run draw from -/
abbrev lw_cs : List Choice := [Jvm.Choice.named "NaN.bits"]
theorem lw_bits : nanBits ∈ lw_cs := by first | decide | exact List.mem_cons_self | simp [lw_cs, nanBits]
end
section
def RX0 : String := "TravelPurses$Books"
def TX0 : u_T := fun k => match k with
  | 0 => ("TravelPurses$Books", "day", "I", false)
  | 1 => ("TravelPurses$Books", "settings", "[I", true)
  | 2 => ("TravelPurses$Books", "rates", "[I", true)
  | 3 => ("TravelPurses$Books", "purses", "[LTravelPurses$Purse;", true)
  | 4 => ("TravelPurses$Books", "holds", "[LTravelPurses$Hold;", true)
  | 5 => ("TravelPurses$Books", "openHolds", "I", false)
  | 6 => ("TravelPurses$Books", "payments", "[LTravelPurses$Payment;", true)
  | 7 => ("TravelPurses$Books", "paymentCount", "I", false)
  | 8 => ("TravelPurses$Books", "loaded", "I", false)
  | 9 => ("TravelPurses$Books", "paidOut", "I", false)
  | 10 => ("TravelPurses$Books", "exchanges", "I", false)
  | 11 => ("TravelPurses$Books", "homeSpread", "I", false)
  | 12 => ("TravelPurses$Books", "otherSpread", "I", false)
  | _ => ("TravelPurses$Books", "debtPaid", "I", false)
def tyX0 : Nat → FieldType := fun k => match k with
  | 0 => .int
  | 1 => .array .int
  | 2 => .array .int
  | 3 => .array (.object "TravelPurses$Purse")
  | 4 => .array (.object "TravelPurses$Hold")
  | 5 => .int
  | 6 => .array (.object "TravelPurses$Payment")
  | 7 => .int
  | 8 => .int
  | 9 => .int
  | 10 => .int
  | 11 => .int
  | 12 => .int
  | _ => .int
abbrev wsX00 : List Cond := u_ws RX0 TX0 14
theorem nmX0 : ∀ a, a < 14 → ∀ b, b < 14 → a ≠ b → (TX0 a).2.1 ≠ (TX0 b).2.1 := by decide +kernel
theorem tyX0_ok : ∀ k, k < 14 → parseFieldDescriptor (TX0 k).2.2.1 = some (tyX0 k) := by decide +kernel
abbrev cX0_init : ByteArray := prog_2_method_1_code
def yX0_init : MethodName := ⟨RX0, "<init>", "()V"⟩
abbrev cX0_copyFrom : ByteArray := prog_2_method_2_code
def yX0_copyFrom : MethodName := ⟨RX0, "copyFrom", "(LTravelPurses$Books;)V"⟩
abbrev cX0_takeIn : ByteArray := prog_2_method_3_code
def yX0_takeIn : MethodName := ⟨RX0, "takeIn", "(LTravelPurses$Purse;I)V"⟩
abbrev cX0_takeBack : ByteArray := prog_2_method_4_code
def yX0_takeBack : MethodName := ⟨RX0, "takeBack", "(LTravelPurses$Purse;I)I"⟩
abbrev cX0_mayLoad : ByteArray := prog_2_method_5_code
def yX0_mayLoad : MethodName := ⟨RX0, "mayLoad", "(LTravelPurses$Purse;I)Z"⟩
abbrev cX0_addLoad : ByteArray := prog_2_method_6_code
def yX0_addLoad : MethodName := ⟨RX0, "addLoad", "(LTravelPurses$Purse;I)V"⟩
abbrev cX0_payOut : ByteArray := prog_2_method_7_code
def yX0_payOut : MethodName := ⟨RX0, "payOut", "(LTravelPurses$Purse;)I"⟩
abbrev cX0_freeOf : ByteArray := prog_2_method_8_code
def yX0_freeOf : MethodName := ⟨RX0, "freeOf", "(LTravelPurses$Purse;)I"⟩
abbrev cX0_keptIn : ByteArray := prog_2_method_9_code
def yX0_keptIn : MethodName := ⟨RX0, "keptIn", "(LTravelPurses$Purse;)I"⟩
abbrev cX0_isLocked : ByteArray := prog_2_method_10_code
def yX0_isLocked : MethodName := ⟨RX0, "isLocked", "(LTravelPurses$Purse;)Z"⟩
abbrev cX0_rateOf : ByteArray := prog_2_method_11_code
def yX0_rateOf : MethodName := ⟨RX0, "rateOf", "(LTravelPurses$Purse;)I"⟩
abbrev cX0_isPair : ByteArray := prog_2_method_12_code
def yX0_isPair : MethodName := ⟨RX0, "isPair", "(LTravelPurses$Purse;LTravelPurses$Purse;)Z"⟩
abbrev cX0_grossOf : ByteArray := prog_2_method_13_code
def yX0_grossOf : MethodName := ⟨RX0, "grossOf", "(LTravelPurses$Purse;LTravelPurses$Purse;I)J"⟩
abbrev cX0_spreadOf : ByteArray := prog_2_method_14_code
def yX0_spreadOf : MethodName := ⟨RX0, "spreadOf", "(J)I"⟩
abbrev cX0_netOf : ByteArray := prog_2_method_15_code
def yX0_netOf : MethodName := ⟨RX0, "netOf", "(LTravelPurses$Purse;LTravelPurses$Purse;I)I"⟩
abbrev cX0_convert : ByteArray := prog_2_method_16_code
def yX0_convert : MethodName := ⟨RX0, "convert", "(LTravelPurses$Purse;LTravelPurses$Purse;I)I"⟩
abbrev cX0_exchangeReason : ByteArray := prog_2_method_17_code
def yX0_exchangeReason : MethodName := ⟨RX0, "exchangeReason", "(LTravelPurses$Purse;LTravelPurses$Purse;I)I"⟩
abbrev cX0_holdReason : ByteArray := prog_2_method_18_code
def yX0_holdReason : MethodName := ⟨RX0, "holdReason", "(LTravelPurses$Purse;I)I"⟩
abbrev cX0_closingReason : ByteArray := prog_2_method_19_code
def yX0_closingReason : MethodName := ⟨RX0, "closingReason", "(I)I"⟩
abbrev cX0_withTip : ByteArray := prog_2_method_20_code
def yX0_withTip : MethodName := ⟨RX0, "withTip", "(I)I"⟩
abbrev cX0_addHold : ByteArray := prog_2_method_21_code
def yX0_addHold : MethodName := ⟨RX0, "addHold", "(LTravelPurses$Purse;I)I"⟩
abbrev cX0_dropHold : ByteArray := prog_2_method_22_code
def yX0_dropHold : MethodName := ⟨RX0, "dropHold", "(I)V"⟩
abbrev cX0_dropOldHolds : ByteArray := prog_2_method_23_code
def yX0_dropOldHolds : MethodName := ⟨RX0, "dropOldHolds", "()I"⟩
abbrev cX0_addPayment : ByteArray := prog_2_method_24_code
def yX0_addPayment : MethodName := ⟨RX0, "addPayment", "(LTravelPurses$Purse;I)I"⟩
abbrev cX0_mayDispute : ByteArray := prog_2_method_25_code
def yX0_mayDispute : MethodName := ⟨RX0, "mayDispute", "(LTravelPurses$Payment;)Z"⟩
abbrev cX0_disputedPayments : ByteArray := prog_2_method_26_code
def yX0_disputedPayments : MethodName := ⟨RX0, "disputedPayments", "()I"⟩
abbrev cX0_creditIn : ByteArray := prog_2_method_27_code
def yX0_creditIn : MethodName := ⟨RX0, "creditIn", "(LTravelPurses$Purse;)I"⟩
abbrev cX0_paidFrom : ByteArray := prog_2_method_28_code
def yX0_paidFrom : MethodName := ⟨RX0, "paidFrom", "(LTravelPurses$Purse;)I"⟩
def RX1 : String := "TravelPurses$Hold"
def TX1 : u_T := fun k => match k with
  | 0 => ("TravelPurses$Hold", "wallet", "I", false)
  | 1 => ("TravelPurses$Hold", "currency", "I", false)
  | 2 => ("TravelPurses$Hold", "amount", "I", false)
  | 3 => ("TravelPurses$Hold", "keeps", "I", false)
  | _ => ("TravelPurses$Hold", "day", "I", false)
def tyX1 : Nat → FieldType := fun k => match k with
  | 0 => .int
  | 1 => .int
  | 2 => .int
  | 3 => .int
  | _ => .int
abbrev wsX10 : List Cond := u_ws RX1 TX1 5
theorem nmX1 : ∀ a, a < 5 → ∀ b, b < 5 → a ≠ b → (TX1 a).2.1 ≠ (TX1 b).2.1 := by decide +kernel
theorem tyX1_ok : ∀ k, k < 5 → parseFieldDescriptor (TX1 k).2.2.1 = some (tyX1 k) := by decide +kernel
abbrev cX1_init : ByteArray := prog_3_method_1_code
def yX1_init : MethodName := ⟨RX1, "<init>", "()V"⟩
abbrev cX1_isIn : ByteArray := prog_3_method_2_code
def yX1_isIn : MethodName := ⟨RX1, "isIn", "(LTravelPurses$Purse;)Z"⟩
abbrev cX1_copyFrom : ByteArray := prog_3_method_3_code
def yX1_copyFrom : MethodName := ⟨RX1, "copyFrom", "(LTravelPurses$Hold;)V"⟩
def RX2 : String := "TravelPurses$OrderReader"
def TX2 : u_T := fun k => match k with
  | 0 => ("TravelPurses$OrderReader", "sign", "I", false)
  | 1 => ("TravelPurses$OrderReader", "wallet", "I", false)
  | 2 => ("TravelPurses$OrderReader", "first", "I", false)
  | 3 => ("TravelPurses$OrderReader", "second", "I", false)
  | 4 => ("TravelPurses$OrderReader", "amount", "I", false)
  | 5 => ("TravelPurses$OrderReader", "digitsRead", "I", false)
  | _ => ("TravelPurses$OrderReader", "isMarked", "Z", false)
def tyX2 : Nat → FieldType := fun k => match k with
  | 0 => .int
  | 1 => .int
  | 2 => .int
  | 3 => .int
  | 4 => .int
  | 5 => .int
  | _ => .boolean
abbrev wsX20 : List Cond := u_ws RX2 TX2 7
theorem nmX2 : ∀ a, a < 7 → ∀ b, b < 7 → a ≠ b → (TX2 a).2.1 ≠ (TX2 b).2.1 := by decide +kernel
theorem tyX2_ok : ∀ k, k < 7 → parseFieldDescriptor (TX2 k).2.2.1 = some (tyX2 k) := by decide +kernel
abbrev cX2_init : ByteArray := prog_4_method_1_code
def yX2_init : MethodName := ⟨RX2, "<init>", "()V"⟩
abbrev cX2_startOrder : ByteArray := prog_4_method_2_code
def yX2_startOrder : MethodName := ⟨RX2, "startOrder", "()V"⟩
abbrev cX2_isOrderWhole : ByteArray := prog_4_method_3_code
def yX2_isOrderWhole : MethodName := ⟨RX2, "isOrderWhole", "()Z"⟩
abbrev cX2_reads : ByteArray := prog_4_method_4_code
def yX2_reads : MethodName := ⟨RX2, "reads", "(I)Z"⟩
abbrev cX2_readsSign : ByteArray := prog_4_method_5_code
def yX2_readsSign : MethodName := ⟨RX2, "readsSign", "(I)Z"⟩
abbrev cX2_digitsDue : ByteArray := prog_4_method_6_code
def yX2_digitsDue : MethodName := ⟨RX2, "digitsDue", "()I"⟩
abbrev cX2_readsDigit : ByteArray := prog_4_method_7_code
def yX2_readsDigit : MethodName := ⟨RX2, "readsDigit", "(I)Z"⟩
abbrev cX2_readsAmount : ByteArray := prog_4_method_8_code
def yX2_readsAmount : MethodName := ⟨RX2, "readsAmount", "(I)Z"⟩
def RX3 : String := "TravelPurses$Payment"
def TX3 : u_T := fun k => match k with
  | 0 => ("TravelPurses$Payment", "wallet", "I", false)
  | 1 => ("TravelPurses$Payment", "currency", "I", false)
  | 2 => ("TravelPurses$Payment", "amount", "I", false)
  | 3 => ("TravelPurses$Payment", "day", "I", false)
  | _ => ("TravelPurses$Payment", "status", "I", false)
def tyX3 : Nat → FieldType := fun k => match k with
  | 0 => .int
  | 1 => .int
  | 2 => .int
  | 3 => .int
  | _ => .int
abbrev wsX30 : List Cond := u_ws RX3 TX3 5
theorem nmX3 : ∀ a, a < 5 → ∀ b, b < 5 → a ≠ b → (TX3 a).2.1 ≠ (TX3 b).2.1 := by decide +kernel
theorem tyX3_ok : ∀ k, k < 5 → parseFieldDescriptor (TX3 k).2.2.1 = some (tyX3 k) := by decide +kernel
abbrev cX3_init : ByteArray := prog_5_method_1_code
def yX3_init : MethodName := ⟨RX3, "<init>", "()V"⟩
abbrev cX3_isOutOf : ByteArray := prog_5_method_2_code
def yX3_isOutOf : MethodName := ⟨RX3, "isOutOf", "(LTravelPurses$Purse;)Z"⟩
abbrev cX3_copyFrom : ByteArray := prog_5_method_3_code
def yX3_copyFrom : MethodName := ⟨RX3, "copyFrom", "(LTravelPurses$Payment;)V"⟩
def RX4 : String := "TravelPurses$Purse"
def TX4 : u_T := fun k => match k with
  | 0 => ("TravelPurses$Purse", "wallet", "I", true)
  | 1 => ("TravelPurses$Purse", "currency", "I", true)
  | 2 => ("TravelPurses$Purse", "balance", "I", false)
  | 3 => ("TravelPurses$Purse", "debt", "I", false)
  | 4 => ("TravelPurses$Purse", "lockedRate", "I", false)
  | _ => ("TravelPurses$Purse", "lockEnd", "I", false)
def tyX4 : Nat → FieldType := fun k => match k with
  | 0 => .int
  | 1 => .int
  | 2 => .int
  | 3 => .int
  | 4 => .int
  | _ => .int
abbrev wsX40 : List Cond := u_ws RX4 TX4 6
theorem nmX4 : ∀ a, a < 6 → ∀ b, b < 6 → a ≠ b → (TX4 a).2.1 ≠ (TX4 b).2.1 := by decide +kernel
theorem tyX4_ok : ∀ k, k < 6 → parseFieldDescriptor (TX4 k).2.2.1 = some (tyX4 k) := by decide +kernel
abbrev cX4_init : ByteArray := prog_6_method_1_code
def yX4_init : MethodName := ⟨RX4, "<init>", "(II)V"⟩
abbrev cX4_copyFrom : ByteArray := prog_6_method_2_code
def yX4_copyFrom : MethodName := ⟨RX4, "copyFrom", "(LTravelPurses$Purse;)V"⟩
def RX5 : String := "TravelPurses"
def TX5 : u_T := fun k => match k with
  | 0 => ("TravelPurses", "books", "LTravelPurses$Books;", true)
  | 1 => ("TravelPurses", "saved", "[LTravelPurses$Books;", true)
  | 2 => ("TravelPurses", "savedStates", "I", false)
  | 3 => ("TravelPurses", "buffer", "[I", true)
  | 4 => ("TravelPurses", "bufferLength", "I", false)
  | _ => ("TravelPurses", "reader", "LTravelPurses$OrderReader;", true)
def tyX5 : Nat → FieldType := fun k => match k with
  | 0 => .object "TravelPurses$Books"
  | 1 => .array (.object "TravelPurses$Books")
  | 2 => .int
  | 3 => .array .int
  | 4 => .int
  | _ => .object "TravelPurses$OrderReader"
abbrev wsX50 : List Cond := u_ws RX5 TX5 6
theorem nmX5 : ∀ a, a < 6 → ∀ b, b < 6 → a ≠ b → (TX5 a).2.1 ≠ (TX5 b).2.1 := by decide +kernel
theorem tyX5_ok : ∀ k, k < 6 → parseFieldDescriptor (TX5 k).2.2.1 = some (tyX5 k) := by decide +kernel
abbrev cX5_init : ByteArray := prog_1_method_1_code
def yX5_init : MethodName := ⟨RX5, "<init>", "()V"⟩
abbrev cX5_load : ByteArray := prog_1_method_2_code
def yX5_load : MethodName := ⟨RX5, "load", "(II)I"⟩
abbrev cX5_quote : ByteArray := prog_1_method_3_code
def yX5_quote : MethodName := ⟨RX5, "quote", "(II)I"⟩
abbrev cX5_lock : ByteArray := prog_1_method_4_code
def yX5_lock : MethodName := ⟨RX5, "lock", "(II)I"⟩
abbrev cX5_exchange : ByteArray := prog_1_method_5_code
def yX5_exchange : MethodName := ⟨RX5, "exchange", "(IIII)I"⟩
abbrev cX5_hold : ByteArray := prog_1_method_6_code
def yX5_hold : MethodName := ⟨RX5, "hold", "(III)I"⟩
abbrev cX5_pay : ByteArray := prog_1_method_7_code
def yX5_pay : MethodName := ⟨RX5, "pay", "(II)I"⟩
abbrev cX5_letGo : ByteArray := prog_1_method_8_code
def yX5_letGo : MethodName := ⟨RX5, "letGo", "(I)I"⟩
abbrev cX5_dispute : ByteArray := prog_1_method_9_code
def yX5_dispute : MethodName := ⟨RX5, "dispute", "(I)I"⟩
abbrev cX5_decide : ByteArray := prog_1_method_10_code
def yX5_decide : MethodName := ⟨RX5, "decide", "(IZ)I"⟩
abbrev cX5_close : ByteArray := prog_1_method_11_code
def yX5_close : MethodName := ⟨RX5, "close", "(I)I"⟩
abbrev cX5_pass : ByteArray := prog_1_method_12_code
def yX5_pass : MethodName := ⟨RX5, "pass", "(I)I"⟩
abbrev cX5_set : ByteArray := prog_1_method_13_code
def yX5_set : MethodName := ⟨RX5, "set", "(II)I"⟩
abbrev cX5_append : ByteArray := prog_1_method_14_code
def yX5_append : MethodName := ⟨RX5, "append", "(I)I"⟩
abbrev cX5_clearBuffer : ByteArray := prog_1_method_15_code
def yX5_clearBuffer : MethodName := ⟨RX5, "clearBuffer", "()I"⟩
abbrev cX5_firstError : ByteArray := prog_1_method_16_code
def yX5_firstError : MethodName := ⟨RX5, "firstError", "()I"⟩
abbrev cX5_run : ByteArray := prog_1_method_17_code
def yX5_run : MethodName := ⟨RX5, "run", "()I"⟩
abbrev cX5_undo : ByteArray := prog_1_method_18_code
def yX5_undo : MethodName := ⟨RX5, "undo", "()I"⟩
abbrev cX5_purse : ByteArray := prog_1_method_19_code
def yX5_purse : MethodName := ⟨RX5, "purse", "(III)I"⟩
abbrev cX5_held : ByteArray := prog_1_method_20_code
def yX5_held : MethodName := ⟨RX5, "held", "(II)I"⟩
abbrev cX5_payment : ByteArray := prog_1_method_21_code
def yX5_payment : MethodName := ⟨RX5, "payment", "(II)I"⟩
abbrev cX5_count : ByteArray := prog_1_method_22_code
def yX5_count : MethodName := ⟨RX5, "count", "(I)I"⟩
abbrev cX5_setting : ByteArray := prog_1_method_23_code
def yX5_setting : MethodName := ⟨RX5, "setting", "(I)I"⟩
abbrev cX5_ifExchanged : ByteArray := prog_1_method_24_code
def yX5_ifExchanged : MethodName := ⟨RX5, "ifExchanged", "(IIII)I"⟩
abbrev cX5_needed : ByteArray := prog_1_method_25_code
def yX5_needed : MethodName := ⟨RX5, "needed", "(III)I"⟩
abbrev cX5_room : ByteArray := prog_1_method_26_code
def yX5_room : MethodName := ⟨RX5, "room", "(II)I"⟩
abbrev cX5_whyNot : ByteArray := prog_1_method_27_code
def yX5_whyNot : MethodName := ⟨RX5, "whyNot", "(IIIII)I"⟩
abbrev cX5_ifClosed : ByteArray := prog_1_method_28_code
def yX5_ifClosed : MethodName := ⟨RX5, "ifClosed", "(I)I"⟩
abbrev cX5_heldShare : ByteArray := prog_1_method_29_code
def yX5_heldShare : MethodName := ⟨RX5, "heldShare", "(II)D"⟩
abbrev cX5_digest : ByteArray := prog_1_method_30_code
def yX5_digest : MethodName := ⟨RX5, "digest", "()J"⟩
abbrev cX5_purseAt : ByteArray := prog_1_method_31_code
def yX5_purseAt : MethodName := ⟨RX5, "purseAt", "(II)LTravelPurses$Purse;"⟩
abbrev cX5_foreignPurseAt : ByteArray := prog_1_method_32_code
def yX5_foreignPurseAt : MethodName := ⟨RX5, "foreignPurseAt", "(II)LTravelPurses$Purse;"⟩
abbrev cX5_holdAt : ByteArray := prog_1_method_33_code
def yX5_holdAt : MethodName := ⟨RX5, "holdAt", "(I)LTravelPurses$Hold;"⟩
abbrev cX5_paymentAt : ByteArray := prog_1_method_34_code
def yX5_paymentAt : MethodName := ⟨RX5, "paymentAt", "(I)LTravelPurses$Payment;"⟩
abbrev cX5_requireAmount : ByteArray := prog_1_method_35_code
def yX5_requireAmount : MethodName := ⟨RX5, "requireAmount", "(I)V"⟩
abbrev cX5_saveState : ByteArray := prog_1_method_36_code
def yX5_saveState : MethodName := ⟨RX5, "saveState", "()V"⟩
abbrev cX5_dropOldestState : ByteArray := prog_1_method_37_code
def yX5_dropOldestState : MethodName := ⟨RX5, "dropOldestState", "()V"⟩
abbrev cX5_carryOutRow : ByteArray := prog_1_method_38_code
def yX5_carryOutRow : MethodName := ⟨RX5, "carryOutRow", "()I"⟩
abbrev cX5_carriesOutOrder : ByteArray := prog_1_method_39_code
def yX5_carriesOutOrder : MethodName := ⟨RX5, "carriesOutOrder", "()Z"⟩
abbrev cX5_mix : ByteArray := prog_1_method_40_code
def yX5_mix : MethodName := ⟨RX5, "mix", "(JJ)J"⟩
abbrev cX5_mixWallet : ByteArray := prog_1_method_41_code
def yX5_mixWallet : MethodName := ⟨RX5, "mixWallet", "(JI)J"⟩
abbrev cX5_mixHolds : ByteArray := prog_1_method_42_code
def yX5_mixHolds : MethodName := ⟨RX5, "mixHolds", "(J)J"⟩
abbrev cX5_mixPayments : ByteArray := prog_1_method_43_code
def yX5_mixPayments : MethodName := ⟨RX5, "mixPayments", "(J)J"⟩
abbrev cX5_mixBuffer : ByteArray := prog_1_method_44_code
def yX5_mixBuffer : MethodName := ⟨RX5, "mixBuffer", "(J)J"⟩
abbrev cX5_bitsOfShare : ByteArray := prog_1_method_45_code
def yX5_bitsOfShare : MethodName := ⟨RX5, "bitsOfShare", "(D)J"⟩
def RX6 : String := "TravelPursesModel"
def TX6 : u_T := fun k => match k with
  | 0 => ("TravelPursesModel", "z", "[I", true)
  | 1 => ("TravelPursesModel", "states", "I", false)
  | 2 => ("TravelPursesModel", "history", "[I", true)
  | 3 => ("TravelPursesModel", "length", "I", false)
  | 4 => ("TravelPursesModel", "text", "[I", true)
  | 5 => ("TravelPursesModel", "thrown", "I", false)
  | 6 => ("TravelPursesModel", "parts", "[I", true)
  | 7 => ("TravelPursesModel", "read", "I", false)
  | 8 => ("TravelPursesModel", "number", "I", false)
  | 9 => ("TravelPursesModel", "due", "I", false)
  | _ => ("TravelPursesModel", "hash", "J", false)
def tyX6 : Nat → FieldType := fun k => match k with
  | 0 => .array .int
  | 1 => .int
  | 2 => .array .int
  | 3 => .int
  | 4 => .array .int
  | 5 => .int
  | 6 => .array .int
  | 7 => .int
  | 8 => .int
  | 9 => .int
  | _ => .long
abbrev wsX60 : List Cond := u_ws RX6 TX6 11
theorem nmX6 : ∀ a, a < 11 → ∀ b, b < 11 → a ≠ b → (TX6 a).2.1 ≠ (TX6 b).2.1 := by decide +kernel
theorem tyX6_ok : ∀ k, k < 11 → parseFieldDescriptor (TX6 k).2.2.1 = some (tyX6 k) := by decide +kernel
abbrev cX6_init : ByteArray := prog_8_method_1_code
def yX6_init : MethodName := ⟨RX6, "<init>", "()V"⟩
abbrev cX6_thrown : ByteArray := prog_8_method_2_code
def yX6_thrown : MethodName := ⟨RX6, "thrown", "()I"⟩
abbrev cX6_within : ByteArray := prog_8_method_3_code
def yX6_within : MethodName := ⟨RX6, "within", "(III)Z"⟩
abbrev cX6_save : ByteArray := prog_8_method_4_code
def yX6_save : MethodName := ⟨RX6, "save", "()V"⟩
abbrev cX6_isWallet : ByteArray := prog_8_method_5_code
def yX6_isWallet : MethodName := ⟨RX6, "isWallet", "(I)Z"⟩
abbrev cX6_isCurrency : ByteArray := prog_8_method_6_code
def yX6_isCurrency : MethodName := ⟨RX6, "isCurrency", "(I)Z"⟩
abbrev cX6_isPurse : ByteArray := prog_8_method_7_code
def yX6_isPurse : MethodName := ⟨RX6, "isPurse", "(II)Z"⟩
abbrev cX6_isForeign : ByteArray := prog_8_method_8_code
def yX6_isForeign : MethodName := ⟨RX6, "isForeign", "(II)Z"⟩
abbrev cX6_isMoney : ByteArray := prog_8_method_9_code
def yX6_isMoney : MethodName := ⟨RX6, "isMoney", "(I)Z"⟩
abbrev cX6_at : ByteArray := prog_8_method_10_code
def yX6_at : MethodName := ⟨RX6, "at", "(II)I"⟩
abbrev cX6_of : ByteArray := prog_8_method_11_code
def yX6_of : MethodName := ⟨RX6, "of", "(III)I"⟩
abbrev cX6_ofHold : ByteArray := prog_8_method_12_code
def yX6_ofHold : MethodName := ⟨RX6, "ofHold", "(II)I"⟩
abbrev cX6_ofPayment : ByteArray := prog_8_method_13_code
def yX6_ofPayment : MethodName := ⟨RX6, "ofPayment", "(II)I"⟩
abbrev cX6_isHold : ByteArray := prog_8_method_14_code
def yX6_isHold : MethodName := ⟨RX6, "isHold", "(I)Z"⟩
abbrev cX6_isPayment : ByteArray := prog_8_method_15_code
def yX6_isPayment : MethodName := ⟨RX6, "isPayment", "(I)Z"⟩
abbrev cX6_isOf : ByteArray := prog_8_method_16_code
def yX6_isOf : MethodName := ⟨RX6, "isOf", "(III)Z"⟩
abbrev cX6_keptOf : ByteArray := prog_8_method_17_code
def yX6_keptOf : MethodName := ⟨RX6, "keptOf", "(II)I"⟩
abbrev cX6_freeOf : ByteArray := prog_8_method_18_code
def yX6_freeOf : MethodName := ⟨RX6, "freeOf", "(II)I"⟩
abbrev cX6_comeIn : ByteArray := prog_8_method_19_code
def yX6_comeIn : MethodName := ⟨RX6, "comeIn", "(III)V"⟩
abbrev cX6_load : ByteArray := prog_8_method_20_code
def yX6_load : MethodName := ⟨RX6, "load", "(II)I"⟩
abbrev cX6_canLoad : ByteArray := prog_8_method_21_code
def yX6_canLoad : MethodName := ⟨RX6, "canLoad", "(II)Z"⟩
abbrev cX6_loads : ByteArray := prog_8_method_22_code
def yX6_loads : MethodName := ⟨RX6, "loads", "(II)V"⟩
abbrev cX6_quote : ByteArray := prog_8_method_23_code
def yX6_quote : MethodName := ⟨RX6, "quote", "(II)I"⟩
abbrev cX6_isLocked : ByteArray := prog_8_method_24_code
def yX6_isLocked : MethodName := ⟨RX6, "isLocked", "(II)Z"⟩
abbrev cX6_rateOf : ByteArray := prog_8_method_25_code
def yX6_rateOf : MethodName := ⟨RX6, "rateOf", "(II)I"⟩
abbrev cX6_lock : ByteArray := prog_8_method_26_code
def yX6_lock : MethodName := ⟨RX6, "lock", "(II)I"⟩
abbrev cX6_given : ByteArray := prog_8_method_27_code
def yX6_given : MethodName := ⟨RX6, "given", "(IIII)I"⟩
abbrev cX6_spreadOf : ByteArray := prog_8_method_28_code
def yX6_spreadOf : MethodName := ⟨RX6, "spreadOf", "(I)I"⟩
abbrev cX6_brings : ByteArray := prog_8_method_29_code
def yX6_brings : MethodName := ⟨RX6, "brings", "(IIII)I"⟩
abbrev cX6_isWrongPair : ByteArray := prog_8_method_30_code
def yX6_isWrongPair : MethodName := ⟨RX6, "isWrongPair", "(II)Z"⟩
abbrev cX6_whyNoExchange : ByteArray := prog_8_method_31_code
def yX6_whyNoExchange : MethodName := ⟨RX6, "whyNoExchange", "(IIII)I"⟩
abbrev cX6_exchanges : ByteArray := prog_8_method_32_code
def yX6_exchanges : MethodName := ⟨RX6, "exchanges", "(IIII)I"⟩
abbrev cX6_exchange : ByteArray := prog_8_method_33_code
def yX6_exchange : MethodName := ⟨RX6, "exchange", "(IIII)I"⟩
abbrev cX6_withTip : ByteArray := prog_8_method_34_code
def yX6_withTip : MethodName := ⟨RX6, "withTip", "(I)I"⟩
abbrev cX6_whyNoHold : ByteArray := prog_8_method_35_code
def yX6_whyNoHold : MethodName := ⟨RX6, "whyNoHold", "(III)I"⟩
abbrev cX6_holds : ByteArray := prog_8_method_36_code
def yX6_holds : MethodName := ⟨RX6, "holds", "(III)I"⟩
abbrev cX6_hold : ByteArray := prog_8_method_37_code
def yX6_hold : MethodName := ⟨RX6, "hold", "(III)I"⟩
abbrev cX6_removeHold : ByteArray := prog_8_method_38_code
def yX6_removeHold : MethodName := ⟨RX6, "removeHold", "(I)V"⟩
abbrev cX6_pay : ByteArray := prog_8_method_39_code
def yX6_pay : MethodName := ⟨RX6, "pay", "(II)I"⟩
abbrev cX6_letGo : ByteArray := prog_8_method_40_code
def yX6_letGo : MethodName := ⟨RX6, "letGo", "(I)I"⟩
abbrev cX6_canDispute : ByteArray := prog_8_method_41_code
def yX6_canDispute : MethodName := ⟨RX6, "canDispute", "(I)Z"⟩
abbrev cX6_dispute : ByteArray := prog_8_method_42_code
def yX6_dispute : MethodName := ⟨RX6, "dispute", "(I)I"⟩
abbrev cX6_takesBack : ByteArray := prog_8_method_43_code
def yX6_takesBack : MethodName := ⟨RX6, "takesBack", "(III)I"⟩
abbrev cX6_decide : ByteArray := prog_8_method_44_code
def yX6_decide : MethodName := ⟨RX6, "decide", "(IZ)I"⟩
abbrev cX6_hasHold : ByteArray := prog_8_method_45_code
def yX6_hasHold : MethodName := ⟨RX6, "hasHold", "(I)Z"⟩
abbrev cX6_hasDispute : ByteArray := prog_8_method_46_code
def yX6_hasDispute : MethodName := ⟨RX6, "hasDispute", "(I)Z"⟩
abbrev cX6_hasDebt : ByteArray := prog_8_method_47_code
def yX6_hasDebt : MethodName := ⟨RX6, "hasDebt", "(I)Z"⟩
abbrev cX6_whyNoClosing : ByteArray := prog_8_method_48_code
def yX6_whyNoClosing : MethodName := ⟨RX6, "whyNoClosing", "(I)I"⟩
abbrev cX6_closes : ByteArray := prog_8_method_49_code
def yX6_closes : MethodName := ⟨RX6, "closes", "(I)I"⟩
abbrev cX6_close : ByteArray := prog_8_method_50_code
def yX6_close : MethodName := ⟨RX6, "close", "(I)I"⟩
abbrev cX6_dayPasses : ByteArray := prog_8_method_51_code
def yX6_dayPasses : MethodName := ⟨RX6, "dayPasses", "()I"⟩
abbrev cX6_pass : ByteArray := prog_8_method_52_code
def yX6_pass : MethodName := ⟨RX6, "pass", "(I)I"⟩
abbrev cX6_isSetting : ByteArray := prog_8_method_53_code
def yX6_isSetting : MethodName := ⟨RX6, "isSetting", "(I)Z"⟩
abbrev cX6_greatest : ByteArray := prog_8_method_54_code
def yX6_greatest : MethodName := ⟨RX6, "greatest", "(I)I"⟩
abbrev cX6_set : ByteArray := prog_8_method_55_code
def yX6_set : MethodName := ⟨RX6, "set", "(II)I"⟩
abbrev cX6_append : ByteArray := prog_8_method_56_code
def yX6_append : MethodName := ⟨RX6, "append", "(I)I"⟩
abbrev cX6_clearBuffer : ByteArray := prog_8_method_57_code
def yX6_clearBuffer : MethodName := ⟨RX6, "clearBuffer", "()I"⟩
abbrev cX6_takesPlace : ByteArray := prog_8_method_58_code
def yX6_takesPlace : MethodName := ⟨RX6, "takesPlace", "(I)Z"⟩
abbrev cX6_takesDigit : ByteArray := prog_8_method_59_code
def yX6_takesDigit : MethodName := ⟨RX6, "takesDigit", "(I)Z"⟩
abbrev cX6_takes : ByteArray := prog_8_method_60_code
def yX6_takes : MethodName := ⟨RX6, "takes", "(I)Z"⟩
abbrev cX6_rightUpTo : ByteArray := prog_8_method_61_code
def yX6_rightUpTo : MethodName := ⟨RX6, "rightUpTo", "()I"⟩
abbrev cX6_firstError : ByteArray := prog_8_method_62_code
def yX6_firstError : MethodName := ⟨RX6, "firstError", "()I"⟩
abbrev cX6_carries : ByteArray := prog_8_method_63_code
def yX6_carries : MethodName := ⟨RX6, "carries", "(I)Z"⟩
abbrev cX6_run : ByteArray := prog_8_method_64_code
def yX6_run : MethodName := ⟨RX6, "run", "()I"⟩
abbrev cX6_undo : ByteArray := prog_8_method_65_code
def yX6_undo : MethodName := ⟨RX6, "undo", "()I"⟩
abbrev cX6_creditIn : ByteArray := prog_8_method_66_code
def yX6_creditIn : MethodName := ⟨RX6, "creditIn", "(II)I"⟩
abbrev cX6_purseNow : ByteArray := prog_8_method_67_code
def yX6_purseNow : MethodName := ⟨RX6, "purseNow", "(III)I"⟩
abbrev cX6_purse : ByteArray := prog_8_method_68_code
def yX6_purse : MethodName := ⟨RX6, "purse", "(III)I"⟩
abbrev cX6_held : ByteArray := prog_8_method_69_code
def yX6_held : MethodName := ⟨RX6, "held", "(II)I"⟩
abbrev cX6_paymentNow : ByteArray := prog_8_method_70_code
def yX6_paymentNow : MethodName := ⟨RX6, "paymentNow", "(II)I"⟩
abbrev cX6_payment : ByteArray := prog_8_method_71_code
def yX6_payment : MethodName := ⟨RX6, "payment", "(II)I"⟩
abbrev cX6_disputed : ByteArray := prog_8_method_72_code
def yX6_disputed : MethodName := ⟨RX6, "disputed", "()I"⟩
abbrev cX6_counted : ByteArray := prog_8_method_73_code
def yX6_counted : MethodName := ⟨RX6, "counted", "(I)I"⟩
abbrev cX6_count : ByteArray := prog_8_method_74_code
def yX6_count : MethodName := ⟨RX6, "count", "(I)I"⟩
abbrev cX6_setting : ByteArray := prog_8_method_75_code
def yX6_setting : MethodName := ⟨RX6, "setting", "(I)I"⟩
abbrev cX6_exchangedThen : ByteArray := prog_8_method_76_code
def yX6_exchangedThen : MethodName := ⟨RX6, "exchangedThen", "(IIII)I"⟩
abbrev cX6_ifExchanged : ByteArray := prog_8_method_77_code
def yX6_ifExchanged : MethodName := ⟨RX6, "ifExchanged", "(IIII)I"⟩
abbrev cX6_neededFor : ByteArray := prog_8_method_78_code
def yX6_neededFor : MethodName := ⟨RX6, "neededFor", "(III)I"⟩
abbrev cX6_needed : ByteArray := prog_8_method_79_code
def yX6_needed : MethodName := ⟨RX6, "needed", "(III)I"⟩
abbrev cX6_roomOf : ByteArray := prog_8_method_80_code
def yX6_roomOf : MethodName := ⟨RX6, "roomOf", "(II)I"⟩
abbrev cX6_room : ByteArray := prog_8_method_81_code
def yX6_room : MethodName := ⟨RX6, "room", "(II)I"⟩
abbrev cX6_whyNot : ByteArray := prog_8_method_82_code
def yX6_whyNot : MethodName := ⟨RX6, "whyNot", "(IIIII)I"⟩
abbrev cX6_closedThen : ByteArray := prog_8_method_83_code
def yX6_closedThen : MethodName := ⟨RX6, "closedThen", "(I)I"⟩
abbrev cX6_ifClosed : ByteArray := prog_8_method_84_code
def yX6_ifClosed : MethodName := ⟨RX6, "ifClosed", "(I)I"⟩
abbrev cX6_share : ByteArray := prog_8_method_85_code
def yX6_share : MethodName := ⟨RX6, "share", "(II)D"⟩
abbrev cX6_heldShare : ByteArray := prog_8_method_86_code
def yX6_heldShare : MethodName := ⟨RX6, "heldShare", "(II)D"⟩
abbrev cX6_mix : ByteArray := prog_8_method_87_code
def yX6_mix : MethodName := ⟨RX6, "mix", "(J)V"⟩
abbrev cX6_mixWallet : ByteArray := prog_8_method_88_code
def yX6_mixWallet : MethodName := ⟨RX6, "mixWallet", "(I)V"⟩
abbrev cX6_digest : ByteArray := prog_8_method_89_code
def yX6_digest : MethodName := ⟨RX6, "digest", "()J"⟩
def RJx8e188 : String := "java/lang/Cloneable"
def TJx8e188 : u_T := fun k => match k with
  | _ => ("", "", "", false)
def tyJx8e188 : Nat → FieldType := fun k => match k with
  | _ => .int
abbrev wsJx8e1880 : List Cond := u_ws RJx8e188 TJx8e188 0
theorem nmJx8e188 : ∀ a, a < 0 → ∀ b, b < 0 → a ≠ b → (TJx8e188 a).2.1 ≠ (TJx8e188 b).2.1 := by decide +kernel
theorem tyJx8e188_ok : ∀ k, k < 0 → parseFieldDescriptor (TJx8e188 k).2.2.1 = some (tyJx8e188 k) := by decide +kernel
def RJxe99ae : String := "java/lang/Double"
def TJxe99ae : u_T := fun k => match k with
  | _ => ("", "", "", false)
def tyJxe99ae : Nat → FieldType := fun k => match k with
  | _ => .int
abbrev wsJxe99ae0 : List Cond := u_ws RJxe99ae TJxe99ae 0
theorem nmJxe99ae : ∀ a, a < 0 → ∀ b, b < 0 → a ≠ b → (TJxe99ae a).2.1 ≠ (TJxe99ae b).2.1 := by decide +kernel
theorem tyJxe99ae_ok : ∀ k, k < 0 → parseFieldDescriptor (TJxe99ae k).2.2.1 = some (tyJxe99ae k) := by decide +kernel
abbrev cJxe99ae_isNaN_b9ae7 : ByteArray := prog_10_method_6_code
def yJxe99ae_isNaN_b9ae7 : MethodName := ⟨RJxe99ae, "isNaN", "(D)Z"⟩
abbrev cJxe99ae_doubleToLongBits_ccdee : ByteArray := prog_10_method_23_code
def yJxe99ae_doubleToLongBits_ccdee : MethodName := ⟨RJxe99ae, "doubleToLongBits", "(D)J"⟩
def RJ9 : String := "java/lang/Math"
def TJ9 : u_T := fun k => match k with
  | _ => ("", "", "", false)
def tyJ9 : Nat → FieldType := fun k => match k with
  | _ => .int
abbrev wsJ90 : List Cond := u_ws RJ9 TJ9 0
theorem nmJ9 : ∀ a, a < 0 → ∀ b, b < 0 → a ≠ b → (TJ9 a).2.1 ≠ (TJ9 b).2.1 := by decide +kernel
theorem tyJ9_ok : ∀ k, k < 0 → parseFieldDescriptor (TJ9 k).2.2.1 = some (tyJ9 k) := by decide +kernel
abbrev cJ9_min_7cf53 : ByteArray := prog_15_method_69_code
def yJ9_min_7cf53 : MethodName := ⟨RJ9, "min", "(II)I"⟩
def RJ0 : String := "java/lang/String"
def TJ0 : u_T := fun k => match k with
  | _ => ("", "", "", false)
def tyJ0 : Nat → FieldType := fun k => match k with
  | _ => .int
abbrev wsJ00 : List Cond := u_ws RJ0 TJ0 0
theorem nmJ0 : ∀ a, a < 0 → ∀ b, b < 0 → a ≠ b → (TJ0 a).2.1 ≠ (TJ0 b).2.1 := by decide +kernel
theorem tyJ0_ok : ∀ k, k < 0 → parseFieldDescriptor (TJ0 k).2.2.1 = some (tyJ0 k) := by decide +kernel
def RJ10 : String := "java/lang/System"
def TJ10 : u_T := fun k => match k with
  | _ => ("", "", "", false)
def tyJ10 : Nat → FieldType := fun k => match k with
  | _ => .int
abbrev wsJ100 : List Cond := u_ws RJ10 TJ10 0
theorem nmJ10 : ∀ a, a < 0 → ∀ b, b < 0 → a ≠ b → (TJ10 a).2.1 ≠ (TJ10 b).2.1 := by decide +kernel
theorem tyJ10_ok : ∀ k, k < 0 → parseFieldDescriptor (TJ10 k).2.2.1 = some (tyJ10 k) := by decide +kernel
def RL : String := "TravelPursesLaw"
abbrev cL_load : ByteArray := method_3_code
def yL_load : MethodName := ⟨RL, "load", "(LTravelPurses;II[J)I"⟩
abbrev cL_quote : ByteArray := method_4_code
def yL_quote : MethodName := ⟨RL, "quote", "(LTravelPurses;II[J)I"⟩
abbrev cL_lock : ByteArray := method_5_code
def yL_lock : MethodName := ⟨RL, "lock", "(LTravelPurses;II[J)I"⟩
abbrev cL_exchange : ByteArray := method_6_code
def yL_exchange : MethodName := ⟨RL, "exchange", "(LTravelPurses;IIII[J)I"⟩
abbrev cL_hold : ByteArray := method_7_code
def yL_hold : MethodName := ⟨RL, "hold", "(LTravelPurses;III[J)I"⟩
abbrev cL_pay : ByteArray := method_8_code
def yL_pay : MethodName := ⟨RL, "pay", "(LTravelPurses;II[J)I"⟩
abbrev cL_letGo : ByteArray := method_9_code
def yL_letGo : MethodName := ⟨RL, "letGo", "(LTravelPurses;I[J)I"⟩
abbrev cL_dispute : ByteArray := method_10_code
def yL_dispute : MethodName := ⟨RL, "dispute", "(LTravelPurses;I[J)I"⟩
abbrev cL_decide : ByteArray := method_11_code
def yL_decide : MethodName := ⟨RL, "decide", "(LTravelPurses;IZ[J)I"⟩
abbrev cL_close : ByteArray := method_12_code
def yL_close : MethodName := ⟨RL, "close", "(LTravelPurses;I[J)I"⟩
abbrev cL_pass : ByteArray := method_13_code
def yL_pass : MethodName := ⟨RL, "pass", "(LTravelPurses;I[J)I"⟩
abbrev cL_set : ByteArray := method_14_code
def yL_set : MethodName := ⟨RL, "set", "(LTravelPurses;II[J)I"⟩
abbrev cL_append : ByteArray := method_15_code
def yL_append : MethodName := ⟨RL, "append", "(LTravelPurses;I[J)I"⟩
abbrev cL_run : ByteArray := method_16_code
def yL_run : MethodName := ⟨RL, "run", "(LTravelPurses;[J)I"⟩
abbrev cL_undo : ByteArray := method_17_code
def yL_undo : MethodName := ⟨RL, "undo", "(LTravelPurses;[J)I"⟩
abbrev cL_purse : ByteArray := method_18_code
def yL_purse : MethodName := ⟨RL, "purse", "(LTravelPurses;III[J)I"⟩
abbrev cL_held : ByteArray := method_19_code
def yL_held : MethodName := ⟨RL, "held", "(LTravelPurses;II[J)I"⟩
abbrev cL_payment : ByteArray := method_20_code
def yL_payment : MethodName := ⟨RL, "payment", "(LTravelPurses;II[J)I"⟩
abbrev cL_count : ByteArray := method_21_code
def yL_count : MethodName := ⟨RL, "count", "(LTravelPurses;I[J)I"⟩
abbrev cL_setting : ByteArray := method_22_code
def yL_setting : MethodName := ⟨RL, "setting", "(LTravelPurses;I[J)I"⟩
abbrev cL_ifExchanged : ByteArray := method_23_code
def yL_ifExchanged : MethodName := ⟨RL, "ifExchanged", "(LTravelPurses;IIII[J)I"⟩
abbrev cL_needed : ByteArray := method_24_code
def yL_needed : MethodName := ⟨RL, "needed", "(LTravelPurses;III[J)I"⟩
abbrev cL_room : ByteArray := method_25_code
def yL_room : MethodName := ⟨RL, "room", "(LTravelPurses;II[J)I"⟩
abbrev cL_whyNot : ByteArray := method_26_code
def yL_whyNot : MethodName := ⟨RL, "whyNot", "(LTravelPurses;IIIII[J)I"⟩
abbrev cL_ifClosed : ByteArray := method_27_code
def yL_ifClosed : MethodName := ⟨RL, "ifClosed", "(LTravelPurses;I[J)I"⟩
abbrev cL_heldShare : ByteArray := method_28_code
def yL_heldShare : MethodName := ⟨RL, "heldShare", "(LTravelPurses;II[D)I"⟩
abbrev cL_law : ByteArray := code
def yL_law : MethodName := ⟨RL, "law", "([I)Z"⟩
end
section
def wsL_law0_r1 : List Cond := [Cond.classLink RL 8 RX5, Cond.instantiable RX5 6, Cond.initialized RX5, Cond.classLink RL 102 RX6, Cond.instantiable RX6 11, Cond.initialized RX6, Cond.arrayClass .long, Cond.arrayClass .double, Cond.methodLink RL 101 yX5_init, Cond.instanceMethod yX5_init, Cond.code yX5_init cX5_init 2 none, Cond.methodLink RX5 1 objectInit, Cond.instanceMethod objectInit, Cond.code objectInit ⟨#[0xb1]⟩ 1 none, Cond.classLink RX5 7 RX0, Cond.instantiable RX0 14, Cond.initialized RX0, Cond.fieldLink RX5 10 "TravelPurses" "books" "LTravelPurses$Books;", Cond.fieldLink RX5 16 "TravelPurses" "saved" "[LTravelPurses$Books;", Cond.arrayClass .int, Cond.fieldLink RX5 20 "TravelPurses" "buffer" "[I", Cond.classLink RX5 24 RX2, Cond.instantiable RX2 7, Cond.initialized RX2]
def wsL_law0_r2 : List Cond := [Cond.fieldLink RX5 27 "TravelPurses" "reader" "LTravelPurses$OrderReader;", Cond.methodLink RX5 9 yX0_init, Cond.instanceMethod yX0_init, Cond.code yX0_init cX0_init 2 none, Cond.methodLink RX0 3 objectInit, Cond.methodLink RX0 13 ⟨"[I", "clone", "()Ljava/lang/Object;"⟩, Cond.sameMethod "[I" "java/lang/Object" "clone" "()Ljava/lang/Object;", Cond.native ⟨"java/lang/Object", "clone", "()Ljava/lang/Object;"⟩, Cond.instanceMethod ⟨"java/lang/Object", "clone", "()Ljava/lang/Object;"⟩, Cond.selects "[I" ⟨"[I", "clone", "()Ljava/lang/Object;"⟩ ⟨"java/lang/Object", "clone", "()Ljava/lang/Object;"⟩, Cond.classLink RX0 14 "[I", Cond.fieldLink RX0 18 "TravelPurses$Books" "settings" "[I", Cond.fieldLink RX0 26 "TravelPurses$Books" "rates" "[I", Cond.classLink RX0 29 RX4, Cond.fieldLink RX0 31 "TravelPurses$Books" "purses" "[LTravelPurses$Purse;", Cond.classLink RX0 35 RX1, Cond.fieldLink RX0 37 "TravelPurses$Books" "holds" "[LTravelPurses$Hold;", Cond.classLink RX0 41 RX3, Cond.fieldLink RX0 43 "TravelPurses$Books" "payments" "[LTravelPurses$Payment;", Cond.instantiable RX4 6, Cond.initialized RX4, Cond.instantiable RX1 5, Cond.initialized RX1, Cond.instantiable RX3 5]
def wsL_law0_r3 : List Cond := [Cond.initialized RX3, Cond.methodLink RX0 47 yX4_init, Cond.instanceMethod yX4_init, Cond.code yX4_init cX4_init 3 none, Cond.methodLink RX4 3 objectInit, Cond.fieldLink RX4 9 "TravelPurses$Purse" "wallet" "I", Cond.fieldLink RX4 15 "TravelPurses$Purse" "currency" "I", Cond.fieldLink RX4 18 "TravelPurses$Purse" "lockEnd" "I", Cond.instanceMethod yX1_init, Cond.code yX1_init cX1_init 1 none, Cond.methodLink RX1 1 objectInit, Cond.instanceMethod yX3_init, Cond.code yX3_init cX3_init 1 none, Cond.methodLink RX3 1 objectInit, Cond.instanceMethod yX2_init, Cond.code yX2_init cX2_init 1 none, Cond.methodLink RX2 3 objectInit, Cond.methodLink RL 104 yX6_init, Cond.instanceMethod yX6_init, Cond.code yX6_init cX6_init 1 none, Cond.methodLink RX6 1 objectInit, Cond.fieldLink RX6 7 "TravelPursesModel" "z" "[I", Cond.fieldLink RX6 13 "TravelPursesModel" "history" "[I", Cond.fieldLink RX6 16 "TravelPursesModel" "text" "[I"]
def wsL_law0_r4 : List Cond := [Cond.fieldLink RX6 19 "TravelPursesModel" "parts" "[I", Cond.methodLink RL 105 yL_load, Cond.static yL_load, Cond.initialized RL, Cond.codeWith yL_load cL_load 5 (some .int) [(0, 10, 13, 13), (0, 10, 17, 15), (0, 10, 21, 17)], Cond.classLink RL 13 "java/lang/IndexOutOfBoundsException", Cond.classLink RL 15 "java/lang/IllegalArgumentException", Cond.classLink RL 17 "java/lang/IllegalStateException", Cond.methodLink RL 7 yX5_load, Cond.instanceMethod yX5_load, Cond.selects RX5 yX5_load yX5_load, Cond.code yX5_load cX5_load 4 (some .int), Cond.classLink RX5 43 "java/lang/IllegalStateException", Cond.initialized "java/lang/IllegalStateException", Cond.fieldLink RX5 57 "TravelPurses$Purse" "balance" "I", Cond.methodLink RX5 31 yX5_purseAt, Cond.instanceMethod yX5_purseAt, Cond.selects RX5 yX5_purseAt yX5_purseAt, Cond.code yX5_purseAt cX5_purseAt 3 (some (.object "TravelPurses$Purse")), Cond.classLink RX5 63 "java/lang/IndexOutOfBoundsException", Cond.initialized "java/lang/IndexOutOfBoundsException", Cond.fieldLink RX5 323 "TravelPurses$Books" "purses" "[LTravelPurses$Purse;", Cond.methodLink RX5 35 yX5_requireAmount, Cond.instanceMethod yX5_requireAmount]
def wsL_law0_r5 : List Cond := [Cond.selects RX5 yX5_requireAmount yX5_requireAmount, Cond.code yX5_requireAmount cX5_requireAmount 2 none, Cond.classLink RX5 68 "java/lang/IllegalArgumentException", Cond.initialized "java/lang/IllegalArgumentException", Cond.constant RX5 289 (99999), Cond.methodLink RX5 39 yX0_mayLoad, Cond.instanceMethod yX0_mayLoad, Cond.selects RX0 yX0_mayLoad yX0_mayLoad, Cond.code yX0_mayLoad cX0_mayLoad 3 (some .boolean), Cond.fieldLink RX0 105 "TravelPurses$Purse" "balance" "I", Cond.constant RX0 112 (1000000), Cond.methodLink RX5 50 yX5_saveState, Cond.instanceMethod yX5_saveState, Cond.selects RX5 yX5_saveState yX5_saveState, Cond.code yX5_saveState cX5_saveState 1 none, Cond.fieldLink RX5 217 "TravelPurses" "savedStates" "I", Cond.methodLink RX5 341 yX5_dropOldestState, Cond.instanceMethod yX5_dropOldestState, Cond.selects RX5 yX5_dropOldestState yX5_dropOldestState, Cond.code yX5_dropOldestState cX5_dropOldestState 3 none, Cond.methodLink RX5 222 yX0_copyFrom, Cond.instanceMethod yX0_copyFrom, Cond.selects RX0 yX0_copyFrom yX0_copyFrom, Cond.code yX0_copyFrom cX0_copyFrom 3 none]
def wsL_law0_r6 : List Cond := [Cond.fieldLink RX0 52 "TravelPurses$Books" "day" "I", Cond.methodLink RX0 56 arraycopyName, Cond.native arraycopyName, Cond.static arraycopyName, Cond.initialized "java/lang/System", Cond.fieldLink RX0 66 "TravelPurses$Books" "openHolds" "I", Cond.fieldLink RX0 72 "TravelPurses$Books" "paymentCount" "I", Cond.fieldLink RX0 78 "TravelPurses$Books" "loaded" "I", Cond.fieldLink RX0 81 "TravelPurses$Books" "paidOut" "I", Cond.fieldLink RX0 84 "TravelPurses$Books" "exchanges" "I", Cond.fieldLink RX0 87 "TravelPurses$Books" "homeSpread" "I", Cond.fieldLink RX0 90 "TravelPurses$Books" "otherSpread" "I", Cond.fieldLink RX0 93 "TravelPurses$Books" "debtPaid" "I", Cond.methodLink RX0 62 yX4_copyFrom, Cond.instanceMethod yX4_copyFrom, Cond.selects RX4 yX4_copyFrom yX4_copyFrom, Cond.code yX4_copyFrom cX4_copyFrom 2 none, Cond.fieldLink RX4 21 "TravelPurses$Purse" "balance" "I", Cond.fieldLink RX4 24 "TravelPurses$Purse" "debt" "I", Cond.fieldLink RX4 27 "TravelPurses$Purse" "lockedRate" "I", Cond.methodLink RX0 69 yX1_copyFrom, Cond.instanceMethod yX1_copyFrom, Cond.selects RX1 yX1_copyFrom yX1_copyFrom, Cond.code yX1_copyFrom cX1_copyFrom 2 none]
def wsL_law0_r7 : List Cond := [Cond.fieldLink RX1 7 "TravelPurses$Hold" "wallet" "I", Cond.fieldLink RX1 16 "TravelPurses$Hold" "currency" "I", Cond.fieldLink RX1 20 "TravelPurses$Hold" "amount" "I", Cond.fieldLink RX1 23 "TravelPurses$Hold" "keeps" "I", Cond.fieldLink RX1 26 "TravelPurses$Hold" "day" "I", Cond.methodLink RX0 75 yX3_copyFrom, Cond.instanceMethod yX3_copyFrom, Cond.selects RX3 yX3_copyFrom yX3_copyFrom, Cond.code yX3_copyFrom cX3_copyFrom 2 none, Cond.fieldLink RX3 7 "TravelPurses$Payment" "wallet" "I", Cond.fieldLink RX3 16 "TravelPurses$Payment" "currency" "I", Cond.fieldLink RX3 20 "TravelPurses$Payment" "amount" "I", Cond.fieldLink RX3 23 "TravelPurses$Payment" "day" "I", Cond.fieldLink RX3 26 "TravelPurses$Payment" "status" "I", Cond.methodLink RX5 53 yX0_addLoad, Cond.instanceMethod yX0_addLoad, Cond.selects RX0 yX0_addLoad yX0_addLoad, Cond.code yX0_addLoad cX0_addLoad 3 none, Cond.methodLink RX0 113 yX0_takeIn, Cond.instanceMethod yX0_takeIn, Cond.selects RX0 yX0_takeIn yX0_takeIn, Cond.code yX0_takeIn cX0_takeIn 4 none, Cond.fieldLink RX0 96 "TravelPurses$Purse" "debt" "I", Cond.methodLink RX0 99 Lib.Math.min.name]
def wsL_law0_r8 : List Cond := [Cond.static Lib.Math.min.name, Cond.initialized "java/lang/Math", Cond.code Lib.Math.min.name Lib.Math.min.code 2 (some .int), Cond.methodLink RL 110 yX6_load, Cond.instanceMethod yX6_load, Cond.selects RX6 yX6_load yX6_load, Cond.code yX6_load cX6_load 3 (some .int), Cond.fieldLink RX6 22 "TravelPursesModel" "thrown" "I", Cond.methodLink RX6 33 yX6_isWallet, Cond.static yX6_isWallet, Cond.code yX6_isWallet cX6_isWallet 1 (some .boolean), Cond.methodLink RX6 29 yX6_within, Cond.static yX6_within, Cond.code yX6_within cX6_within 3 (some .boolean), Cond.methodLink RX6 62 yX6_isMoney, Cond.static yX6_isMoney, Cond.code yX6_isMoney cX6_isMoney 1 (some .boolean), Cond.constant RX6 44 (99999), Cond.methodLink RX6 65 yX6_canLoad, Cond.instanceMethod yX6_canLoad, Cond.selects RX6 yX6_canLoad yX6_canLoad, Cond.code yX6_canLoad cX6_canLoad 3 (some .boolean), Cond.constant RX6 75 (1000000), Cond.methodLink RX6 55 yX6_of]
def wsL_law0_r9 : List Cond := [Cond.instanceMethod yX6_of, Cond.selects RX6 yX6_of yX6_of, Cond.code yX6_of cX6_of 4 (some .int), Cond.methodLink RX6 45 yX6_at, Cond.static yX6_at, Cond.code yX6_at cX6_at 2 (some .int), Cond.methodLink RX6 68 yX6_save, Cond.instanceMethod yX6_save, Cond.selects RX6 yX6_save yX6_save, Cond.code yX6_save cX6_save 2 none, Cond.fieldLink RX6 26 "TravelPursesModel" "states" "I", Cond.methodLink RX6 71 yX6_loads, Cond.instanceMethod yX6_loads, Cond.selects RX6 yX6_loads yX6_loads, Cond.code yX6_loads cX6_loads 3 none, Cond.methodLink RX6 76 yX6_comeIn, Cond.instanceMethod yX6_comeIn, Cond.selects RX6 yX6_comeIn yX6_comeIn, Cond.code yX6_comeIn cX6_comeIn 6 none, Cond.methodLink RL 111 yX6_thrown, Cond.instanceMethod yX6_thrown, Cond.selects RX6 yX6_thrown yX6_thrown, Cond.code yX6_thrown cX6_thrown 1 (some .int), Cond.methodLink RL 114 yL_quote]
def wsL_law0_r10 : List Cond := [Cond.static yL_quote, Cond.codeWith yL_quote cL_quote 5 (some .int) [(0, 10, 13, 13), (0, 10, 17, 15)], Cond.methodLink RL 19 yX5_quote, Cond.instanceMethod yX5_quote, Cond.selects RX5 yX5_quote yX5_quote, Cond.code yX5_quote cX5_quote 4 (some .int), Cond.fieldLink RX5 73 "TravelPurses$Books" "rates" "[I", Cond.methodLink RL 116 yX6_quote, Cond.instanceMethod yX6_quote, Cond.selects RX6 yX6_quote yX6_quote, Cond.code yX6_quote cX6_quote 4 (some .int), Cond.methodLink RL 117 yL_lock, Cond.static yL_lock, Cond.codeWith yL_lock cL_lock 5 (some .int) [(0, 10, 13, 13)], Cond.methodLink RL 22 yX5_lock, Cond.instanceMethod yX5_lock, Cond.selects RX5 yX5_lock yX5_lock, Cond.code yX5_lock cX5_lock 4 (some .int), Cond.fieldLink RX5 79 "TravelPurses$Purse" "currency" "I", Cond.fieldLink RX5 82 "TravelPurses$Purse" "lockedRate" "I", Cond.fieldLink RX5 85 "TravelPurses$Books" "day" "I", Cond.fieldLink RX5 88 "TravelPurses$Books" "settings" "[I", Cond.fieldLink RX5 91 "TravelPurses$Purse" "lockEnd" "I", Cond.methodLink RX5 76 yX5_foreignPurseAt]
def wsL_law0_r11 : List Cond := [Cond.instanceMethod yX5_foreignPurseAt, Cond.selects RX5 yX5_foreignPurseAt yX5_foreignPurseAt, Cond.code yX5_foreignPurseAt cX5_foreignPurseAt 3 (some (.object "TravelPurses$Purse")), Cond.methodLink RL 119 yX6_lock, Cond.instanceMethod yX6_lock, Cond.selects RX6 yX6_lock yX6_lock, Cond.code yX6_lock cX6_lock 3 (some .int), Cond.methodLink RX6 83 yX6_isForeign, Cond.static yX6_isForeign, Cond.code yX6_isForeign cX6_isForeign 2 (some .boolean), Cond.methodLink RX6 40 yX6_isPurse, Cond.static yX6_isPurse, Cond.code yX6_isPurse cX6_isPurse 2 (some .boolean), Cond.methodLink RX6 37 yX6_isCurrency, Cond.static yX6_isCurrency, Cond.code yX6_isCurrency cX6_isCurrency 1 (some .boolean), Cond.methodLink RL 120 yL_exchange, Cond.static yL_exchange, Cond.codeWith yL_exchange cL_exchange 7 (some .int) [(0, 14, 17, 13), (0, 14, 21, 15), (0, 14, 25, 17)], Cond.methodLink RL 25 yX5_exchange, Cond.instanceMethod yX5_exchange, Cond.selects RX5 yX5_exchange yX5_exchange, Cond.code yX5_exchange cX5_exchange 7 (some .int), Cond.methodLink RX5 94 yX0_exchangeReason]
def wsL_law0_r12 : List Cond := [Cond.instanceMethod yX0_exchangeReason, Cond.selects RX0 yX0_exchangeReason yX0_exchangeReason, Cond.code yX0_exchangeReason cX0_exchangeReason 4 (some .int), Cond.methodLink RX0 152 yX0_isPair, Cond.instanceMethod yX0_isPair, Cond.selects RX0 yX0_isPair yX0_isPair, Cond.code yX0_isPair cX0_isPair 3 (some .boolean), Cond.fieldLink RX0 136 "TravelPurses$Purse" "currency" "I", Cond.methodLink RX0 108 yX0_freeOf, Cond.instanceMethod yX0_freeOf, Cond.selects RX0 yX0_freeOf yX0_freeOf, Cond.code yX0_freeOf cX0_freeOf 2 (some .int), Cond.methodLink RX0 117 yX0_keptIn, Cond.instanceMethod yX0_keptIn, Cond.selects RX0 yX0_keptIn yX0_keptIn, Cond.code yX0_keptIn cX0_keptIn 4 (some .int), Cond.fieldLink RX0 124 "TravelPurses$Hold" "keeps" "I", Cond.methodLink RX0 120 yX1_isIn, Cond.instanceMethod yX1_isIn, Cond.selects RX1 yX1_isIn yX1_isIn, Cond.code yX1_isIn cX1_isIn 2 (some .boolean), Cond.fieldLink RX1 13 "TravelPurses$Purse" "wallet" "I", Cond.fieldLink RX1 19 "TravelPurses$Purse" "currency" "I", Cond.methodLink RX5 100 yX0_convert]
def wsL_law0_r13 : List Cond := [Cond.instanceMethod yX0_convert, Cond.selects RX0 yX0_convert yX0_convert, Cond.code yX0_convert cX0_convert 8 (some .int), Cond.methodLink RX0 144 yX0_grossOf, Cond.instanceMethod yX0_grossOf, Cond.selects RX0 yX0_grossOf yX0_grossOf, Cond.code yX0_grossOf cX0_grossOf 5 (some .long), Cond.constantLong RX0 142 (1000), Cond.methodLink RX0 139 yX0_rateOf, Cond.instanceMethod yX0_rateOf, Cond.selects RX0 yX0_rateOf yX0_rateOf, Cond.code yX0_rateOf cX0_rateOf 2 (some .int), Cond.fieldLink RX0 133 "TravelPurses$Purse" "lockedRate" "I", Cond.methodLink RX0 130 yX0_isLocked, Cond.instanceMethod yX0_isLocked, Cond.selects RX0 yX0_isLocked yX0_isLocked, Cond.code yX0_isLocked cX0_isLocked 2 (some .boolean), Cond.fieldLink RX0 127 "TravelPurses$Purse" "lockEnd" "I", Cond.methodLink RX0 148 yX0_spreadOf, Cond.instanceMethod yX0_spreadOf, Cond.selects RX0 yX0_spreadOf yX0_spreadOf, Cond.code yX0_spreadOf cX0_spreadOf 3 (some .int), Cond.methodLink RL 123 yX6_exchange, Cond.instanceMethod yX6_exchange]
def wsL_law0_r14 : List Cond := [Cond.selects RX6 yX6_exchange yX6_exchange, Cond.code yX6_exchange cX6_exchange 5 (some .int), Cond.methodLink RX6 105 yX6_whyNoExchange, Cond.instanceMethod yX6_whyNoExchange, Cond.selects RX6 yX6_whyNoExchange yX6_whyNoExchange, Cond.code yX6_whyNoExchange cX6_whyNoExchange 5 (some .int), Cond.methodLink RX6 99 yX6_isWrongPair, Cond.static yX6_isWrongPair, Cond.code yX6_isWrongPair cX6_isWrongPair 2 (some .boolean), Cond.methodLink RX6 102 yX6_freeOf, Cond.instanceMethod yX6_freeOf, Cond.selects RX6 yX6_freeOf yX6_freeOf, Cond.code yX6_freeOf cX6_freeOf 3 (some .int), Cond.methodLink RX6 59 yX6_keptOf, Cond.instanceMethod yX6_keptOf, Cond.selects RX6 yX6_keptOf yX6_keptOf, Cond.code yX6_keptOf cX6_keptOf 5 (some .int), Cond.methodLink RX6 49 yX6_isOf, Cond.instanceMethod yX6_isOf, Cond.selects RX6 yX6_isOf yX6_isOf, Cond.code yX6_isOf cX6_isOf 4 (some .boolean), Cond.methodLink RX6 52 yX6_ofHold, Cond.instanceMethod yX6_ofHold, Cond.selects RX6 yX6_ofHold yX6_ofHold]
def wsL_law0_r15 : List Cond := [Cond.code yX6_ofHold cX6_ofHold 3 (some .int), Cond.methodLink RX6 108 yX6_exchanges, Cond.instanceMethod yX6_exchanges, Cond.selects RX6 yX6_exchanges yX6_exchanges, Cond.code yX6_exchanges cX6_exchanges 7 (some .int), Cond.methodLink RX6 91 yX6_given, Cond.instanceMethod yX6_given, Cond.selects RX6 yX6_given yX6_given, Cond.code yX6_given cX6_given 5 (some .int), Cond.constantLong RX6 86 (1000), Cond.methodLink RX6 88 yX6_rateOf, Cond.instanceMethod yX6_rateOf, Cond.selects RX6 yX6_rateOf yX6_rateOf, Cond.code yX6_rateOf cX6_rateOf 3 (some .int), Cond.methodLink RX6 80 yX6_isLocked, Cond.instanceMethod yX6_isLocked, Cond.selects RX6 yX6_isLocked yX6_isLocked, Cond.code yX6_isLocked cX6_isLocked 3 (some .boolean), Cond.methodLink RX6 95 yX6_spreadOf, Cond.instanceMethod yX6_spreadOf, Cond.selects RX6 yX6_spreadOf yX6_spreadOf, Cond.code yX6_spreadOf cX6_spreadOf 2 (some .int), Cond.methodLink RL 124 yL_hold, Cond.static yL_hold]
def wsL_law0_r16 : List Cond := [Cond.codeWith yL_hold cL_hold 6 (some .int) [(0, 12, 15, 13), (0, 12, 19, 15), (0, 12, 23, 17)], Cond.methodLink RL 29 yX5_hold, Cond.instanceMethod yX5_hold, Cond.selects RX5 yX5_hold yX5_hold, Cond.code yX5_hold cX5_hold 5 (some .int), Cond.methodLink RX5 103 yX0_holdReason, Cond.instanceMethod yX0_holdReason, Cond.selects RX0 yX0_holdReason yX0_holdReason, Cond.code yX0_holdReason cX0_holdReason 3 (some .int), Cond.methodLink RX0 156 yX0_withTip, Cond.instanceMethod yX0_withTip, Cond.selects RX0 yX0_withTip yX0_withTip, Cond.code yX0_withTip cX0_withTip 2 (some .int), Cond.methodLink RX5 109 yX0_addHold, Cond.instanceMethod yX0_addHold, Cond.selects RX0 yX0_addHold yX0_addHold, Cond.code yX0_addHold cX0_addHold 4 (some .int), Cond.fieldLink RX0 167 "TravelPurses$Purse" "wallet" "I", Cond.fieldLink RX0 160 "TravelPurses$Hold" "wallet" "I", Cond.fieldLink RX0 168 "TravelPurses$Hold" "currency" "I", Cond.fieldLink RX0 169 "TravelPurses$Hold" "amount" "I", Cond.fieldLink RX0 172 "TravelPurses$Hold" "day" "I", Cond.methodLink RL 127 yX6_hold, Cond.instanceMethod yX6_hold]
def wsL_law0_r17 : List Cond := [Cond.selects RX6 yX6_hold yX6_hold, Cond.code yX6_hold cX6_hold 4 (some .int), Cond.methodLink RX6 114 yX6_whyNoHold, Cond.instanceMethod yX6_whyNoHold, Cond.selects RX6 yX6_whyNoHold yX6_whyNoHold, Cond.code yX6_whyNoHold cX6_whyNoHold 4 (some .int), Cond.methodLink RX6 111 yX6_withTip, Cond.instanceMethod yX6_withTip, Cond.selects RX6 yX6_withTip yX6_withTip, Cond.code yX6_withTip cX6_withTip 2 (some .int), Cond.methodLink RX6 117 yX6_holds, Cond.instanceMethod yX6_holds, Cond.selects RX6 yX6_holds yX6_holds, Cond.code yX6_holds cX6_holds 5 (some .int), Cond.methodLink RL 128 yL_pay, Cond.static yL_pay, Cond.codeWith yL_pay cL_pay 5 (some .int) [(0, 10, 13, 13), (0, 10, 17, 15), (0, 10, 21, 17)], Cond.methodLink RL 33 yX5_pay, Cond.instanceMethod yX5_pay, Cond.selects RX5 yX5_pay yX5_pay, Cond.code yX5_pay cX5_pay 5 (some .int), Cond.fieldLink RX5 118 "TravelPurses$Hold" "keeps" "I", Cond.fieldLink RX5 123 "TravelPurses$Books" "paymentCount" "I", Cond.fieldLink RX5 128 "TravelPurses$Hold" "wallet" "I"]
def wsL_law0_r18 : List Cond := [Cond.fieldLink RX5 131 "TravelPurses$Hold" "currency" "I", Cond.methodLink RX5 112 yX5_holdAt, Cond.instanceMethod yX5_holdAt, Cond.selects RX5 yX5_holdAt yX5_holdAt, Cond.code yX5_holdAt cX5_holdAt 2 (some (.object "TravelPurses$Hold")), Cond.fieldLink RX5 253 "TravelPurses$Books" "openHolds" "I", Cond.fieldLink RX5 329 "TravelPurses$Books" "holds" "[LTravelPurses$Hold;", Cond.methodLink RX5 132 yX0_dropHold, Cond.instanceMethod yX0_dropHold, Cond.selects RX0 yX0_dropHold yX0_dropHold, Cond.code yX0_dropHold cX0_dropHold 4 none, Cond.methodLink RX5 135 yX0_addPayment, Cond.instanceMethod yX0_addPayment, Cond.selects RX0 yX0_addPayment yX0_addPayment, Cond.code yX0_addPayment cX0_addPayment 4 (some .int), Cond.fieldLink RX0 163 "TravelPurses$Payment" "wallet" "I", Cond.fieldLink RX0 177 "TravelPurses$Payment" "currency" "I", Cond.fieldLink RX0 178 "TravelPurses$Payment" "amount" "I", Cond.fieldLink RX0 179 "TravelPurses$Payment" "day" "I", Cond.fieldLink RX0 164 "TravelPurses$Payment" "status" "I", Cond.methodLink RL 130 yX6_pay, Cond.instanceMethod yX6_pay, Cond.selects RX6 yX6_pay yX6_pay, Cond.code yX6_pay cX6_pay 6 (some .int)]
def wsL_law0_r19 : List Cond := [Cond.methodLink RX6 120 yX6_isHold, Cond.instanceMethod yX6_isHold, Cond.selects RX6 yX6_isHold yX6_isHold, Cond.code yX6_isHold cX6_isHold 2 (some .boolean), Cond.methodLink RX6 123 yX6_removeHold, Cond.instanceMethod yX6_removeHold, Cond.selects RX6 yX6_removeHold yX6_removeHold, Cond.code yX6_removeHold cX6_removeHold 3 none, Cond.methodLink RL 131 yL_letGo, Cond.static yL_letGo, Cond.codeWith yL_letGo cL_letGo 4 (some .int) [(0, 9, 12, 13)], Cond.methodLink RL 36 yX5_letGo, Cond.instanceMethod yX5_letGo, Cond.selects RX5 yX5_letGo yX5_letGo, Cond.code yX5_letGo cX5_letGo 3 (some .int), Cond.methodLink RL 134 yX6_letGo, Cond.instanceMethod yX6_letGo, Cond.selects RX6 yX6_letGo yX6_letGo, Cond.code yX6_letGo cX6_letGo 3 (some .int), Cond.methodLink RL 135 yL_dispute, Cond.static yL_dispute, Cond.codeWith yL_dispute cL_dispute 4 (some .int) [(0, 9, 12, 13), (0, 9, 15, 17)], Cond.methodLink RL 40 yX5_dispute, Cond.instanceMethod yX5_dispute]
def wsL_law0_r20 : List Cond := [Cond.selects RX5 yX5_dispute yX5_dispute, Cond.code yX5_dispute cX5_dispute 4 (some .int), Cond.fieldLink RX5 148 "TravelPurses$Payment" "wallet" "I", Cond.fieldLink RX5 151 "TravelPurses$Payment" "currency" "I", Cond.fieldLink RX5 152 "TravelPurses$Payment" "status" "I", Cond.fieldLink RX5 155 "TravelPurses$Payment" "amount" "I", Cond.methodLink RX5 138 yX5_paymentAt, Cond.instanceMethod yX5_paymentAt, Cond.selects RX5 yX5_paymentAt yX5_paymentAt, Cond.code yX5_paymentAt cX5_paymentAt 2 (some (.object "TravelPurses$Payment")), Cond.fieldLink RX5 335 "TravelPurses$Books" "payments" "[LTravelPurses$Payment;", Cond.methodLink RX5 142 yX0_mayDispute, Cond.instanceMethod yX0_mayDispute, Cond.selects RX0 yX0_mayDispute yX0_mayDispute, Cond.code yX0_mayDispute cX0_mayDispute 2 (some .boolean), Cond.methodLink RX5 158 yX0_takeIn, Cond.methodLink RL 137 yX6_dispute, Cond.instanceMethod yX6_dispute, Cond.selects RX6 yX6_dispute yX6_dispute, Cond.code yX6_dispute cX6_dispute 4 (some .int), Cond.methodLink RX6 130 yX6_isPayment, Cond.instanceMethod yX6_isPayment, Cond.selects RX6 yX6_isPayment yX6_isPayment, Cond.code yX6_isPayment cX6_isPayment 2 (some .boolean)]
def wsL_law0_r21 : List Cond := [Cond.methodLink RX6 133 yX6_canDispute, Cond.instanceMethod yX6_canDispute, Cond.selects RX6 yX6_canDispute yX6_canDispute, Cond.code yX6_canDispute cX6_canDispute 2 (some .boolean), Cond.methodLink RX6 127 yX6_ofPayment, Cond.instanceMethod yX6_ofPayment, Cond.selects RX6 yX6_ofPayment yX6_ofPayment, Cond.code yX6_ofPayment cX6_ofPayment 3 (some .int), Cond.methodLink RL 138 yL_decide, Cond.static yL_decide, Cond.codeWith yL_decide cL_decide 5 (some .int) [(0, 10, 13, 13), (0, 10, 17, 17)], Cond.methodLink RL 43 yX5_decide, Cond.instanceMethod yX5_decide, Cond.selects RX5 yX5_decide yX5_decide, Cond.code yX5_decide cX5_decide 4 (some .int), Cond.methodLink RX5 163 yX0_takeBack, Cond.instanceMethod yX0_takeBack, Cond.selects RX0 yX0_takeBack yX0_takeBack, Cond.code yX0_takeBack cX0_takeBack 4 (some .int), Cond.methodLink RL 141 yX6_decide, Cond.instanceMethod yX6_decide, Cond.selects RX6 yX6_decide yX6_decide, Cond.code yX6_decide cX6_decide 3 (some .int), Cond.methodLink RX6 136 yX6_takesBack]
def wsL_law0_r22 : List Cond := [Cond.instanceMethod yX6_takesBack, Cond.selects RX6 yX6_takesBack yX6_takesBack, Cond.code yX6_takesBack cX6_takesBack 6 (some .int), Cond.methodLink RL 142 yL_close, Cond.static yL_close, Cond.codeWith yL_close cL_close 4 (some .int) [(0, 9, 12, 13), (0, 9, 15, 17)], Cond.methodLink RL 47 yX5_close, Cond.instanceMethod yX5_close, Cond.selects RX5 yX5_close yX5_close, Cond.code yX5_close cX5_close 5 (some .int), Cond.methodLink RX5 166 yX0_closingReason, Cond.instanceMethod yX0_closingReason, Cond.selects RX0 yX0_closingReason yX0_closingReason, Cond.code yX0_closingReason cX0_closingReason 3 (some .int), Cond.methodLink RX5 172 yX0_payOut, Cond.instanceMethod yX0_payOut, Cond.selects RX0 yX0_payOut yX0_payOut, Cond.code yX0_payOut cX0_payOut 3 (some .int), Cond.methodLink RL 144 yX6_close, Cond.instanceMethod yX6_close, Cond.selects RX6 yX6_close yX6_close, Cond.code yX6_close cX6_close 2 (some .int), Cond.methodLink RX6 148 yX6_whyNoClosing, Cond.instanceMethod yX6_whyNoClosing]
def wsL_law0_r23 : List Cond := [Cond.selects RX6 yX6_whyNoClosing yX6_whyNoClosing, Cond.code yX6_whyNoClosing cX6_whyNoClosing 2 (some .int), Cond.methodLink RX6 139 yX6_hasHold, Cond.instanceMethod yX6_hasHold, Cond.selects RX6 yX6_hasHold yX6_hasHold, Cond.code yX6_hasHold cX6_hasHold 4 (some .boolean), Cond.methodLink RX6 142 yX6_hasDispute, Cond.instanceMethod yX6_hasDispute, Cond.selects RX6 yX6_hasDispute yX6_hasDispute, Cond.code yX6_hasDispute cX6_hasDispute 4 (some .boolean), Cond.methodLink RX6 145 yX6_hasDebt, Cond.instanceMethod yX6_hasDebt, Cond.selects RX6 yX6_hasDebt yX6_hasDebt, Cond.code yX6_hasDebt cX6_hasDebt 4 (some .boolean), Cond.methodLink RX6 151 yX6_closes, Cond.instanceMethod yX6_closes, Cond.selects RX6 yX6_closes yX6_closes, Cond.code yX6_closes cX6_closes 5 (some .int), Cond.methodLink RL 145 yL_pass, Cond.static yL_pass, Cond.codeWith yL_pass cL_pass 4 (some .int) [(0, 9, 12, 15), (0, 9, 15, 17)], Cond.methodLink RL 50 yX5_pass, Cond.instanceMethod yX5_pass, Cond.selects RX5 yX5_pass yX5_pass]
def wsL_law0_r24 : List Cond := [Cond.code yX5_pass cX5_pass 2 (some .int), Cond.methodLink RX5 180 yX0_dropOldHolds, Cond.instanceMethod yX0_dropOldHolds, Cond.selects RX0 yX0_dropOldHolds yX0_dropOldHolds, Cond.code yX0_dropOldHolds cX0_dropOldHolds 3 (some .int), Cond.methodLink RX0 173 yX0_dropHold, Cond.methodLink RL 147 yX6_pass, Cond.instanceMethod yX6_pass, Cond.selects RX6 yX6_pass yX6_pass, Cond.code yX6_pass cX6_pass 5 (some .int), Cond.methodLink RX6 154 yX6_dayPasses, Cond.instanceMethod yX6_dayPasses, Cond.selects RX6 yX6_dayPasses yX6_dayPasses, Cond.code yX6_dayPasses cX6_dayPasses 3 (some .int), Cond.methodLink RL 148 yL_set, Cond.static yL_set, Cond.codeWith yL_set cL_set 5 (some .int) [(0, 10, 13, 13), (0, 10, 17, 15)], Cond.methodLink RL 53 yX5_set, Cond.instanceMethod yX5_set, Cond.selects RX5 yX5_set yX5_set, Cond.code yX5_set cX5_set 4 (some .int), Cond.fieldLink RX5 186 "TravelPurses" "MOST_SETTINGS" "[I", Cond.methodLink RL 150 yX6_set, Cond.instanceMethod yX6_set]
def wsL_law0_r25 : List Cond := [Cond.selects RX6 yX6_set yX6_set, Cond.code yX6_set cX6_set 4 (some .int), Cond.methodLink RX6 158 yX6_isSetting, Cond.static yX6_isSetting, Cond.code yX6_isSetting cX6_isSetting 1 (some .boolean), Cond.methodLink RX6 161 yX6_greatest, Cond.static yX6_greatest, Cond.code yX6_greatest cX6_greatest 1 (some .int), Cond.methodLink RL 151 yL_append, Cond.static yL_append, Cond.codeWith yL_append cL_append 4 (some .int) [(0, 9, 12, 15), (0, 9, 15, 17)], Cond.methodLink RL 56 yX5_append, Cond.instanceMethod yX5_append, Cond.selects RX5 yX5_append yX5_append, Cond.code yX5_append cX5_append 2 (some .int), Cond.fieldLink RX5 193 "TravelPurses" "bufferLength" "I", Cond.methodLink RL 153 yX6_append, Cond.instanceMethod yX6_append, Cond.selects RX6 yX6_append yX6_append, Cond.code yX6_append cX6_append 2 (some .int), Cond.fieldLink RX6 164 "TravelPursesModel" "length" "I", Cond.methodLink RL 154 yX5_clearBuffer, Cond.instanceMethod yX5_clearBuffer, Cond.selects RX5 yX5_clearBuffer yX5_clearBuffer]
def wsL_law0_r26 : List Cond := [Cond.code yX5_clearBuffer cX5_clearBuffer 2 (some .int), Cond.methodLink RL 157 yX6_clearBuffer, Cond.instanceMethod yX6_clearBuffer, Cond.selects RX6 yX6_clearBuffer yX6_clearBuffer, Cond.code yX6_clearBuffer cX6_clearBuffer 2 (some .int), Cond.methodLink RL 158 yX5_firstError, Cond.instanceMethod yX5_firstError, Cond.selects RX5 yX5_firstError yX5_firstError, Cond.code yX5_firstError cX5_firstError 2 (some .int), Cond.methodLink RX5 198 yX2_startOrder, Cond.instanceMethod yX2_startOrder, Cond.selects RX2 yX2_startOrder yX2_startOrder, Cond.code yX2_startOrder cX2_startOrder 1 none, Cond.fieldLink RX2 9 "TravelPurses$OrderReader" "sign" "I", Cond.fieldLink RX2 15 "TravelPurses$OrderReader" "wallet" "I", Cond.fieldLink RX2 18 "TravelPurses$OrderReader" "first" "I", Cond.fieldLink RX2 21 "TravelPurses$OrderReader" "second" "I", Cond.fieldLink RX2 24 "TravelPurses$OrderReader" "amount" "I", Cond.fieldLink RX2 27 "TravelPurses$OrderReader" "digitsRead" "I", Cond.fieldLink RX2 30 "TravelPurses$OrderReader" "isMarked" "Z", Cond.methodLink RX5 201 yX2_reads, Cond.instanceMethod yX2_reads, Cond.selects RX2 yX2_reads yX2_reads, Cond.code yX2_reads cX2_reads 2 (some .boolean)]
def wsL_law0_r27 : List Cond := [Cond.methodLink RX2 34 yX2_readsSign, Cond.instanceMethod yX2_readsSign, Cond.selects RX2 yX2_readsSign yX2_readsSign, Cond.code yX2_readsSign cX2_readsSign 2 (some .boolean), Cond.methodLink RX2 38 yX2_digitsDue, Cond.instanceMethod yX2_digitsDue, Cond.selects RX2 yX2_digitsDue yX2_digitsDue, Cond.code yX2_digitsDue cX2_digitsDue 1 (some .int), Cond.methodLink RX2 42 yX2_readsDigit, Cond.instanceMethod yX2_readsDigit, Cond.selects RX2 yX2_readsDigit yX2_readsDigit, Cond.code yX2_readsDigit cX2_readsDigit 3 (some .boolean), Cond.methodLink RX2 45 yX2_isOrderWhole, Cond.instanceMethod yX2_isOrderWhole, Cond.selects RX2 yX2_isOrderWhole yX2_isOrderWhole, Cond.code yX2_isOrderWhole cX2_isOrderWhole 1 (some .boolean), Cond.methodLink RX2 49 yX2_startOrder, Cond.methodLink RX2 52 yX2_readsAmount, Cond.instanceMethod yX2_readsAmount, Cond.selects RX2 yX2_readsAmount yX2_readsAmount, Cond.code yX2_readsAmount cX2_readsAmount 3 (some .boolean), Cond.methodLink RL 161 yX6_firstError, Cond.instanceMethod yX6_firstError, Cond.selects RX6 yX6_firstError yX6_firstError]
def wsL_law0_r28 : List Cond := [Cond.code yX6_firstError cX6_firstError 1 (some .int), Cond.methodLink RX6 185 yX6_rightUpTo, Cond.instanceMethod yX6_rightUpTo, Cond.selects RX6 yX6_rightUpTo yX6_rightUpTo, Cond.code yX6_rightUpTo cX6_rightUpTo 2 (some .int), Cond.fieldLink RX6 167 "TravelPursesModel" "read" "I", Cond.fieldLink RX6 170 "TravelPursesModel" "due" "I", Cond.methodLink RX6 182 yX6_takes, Cond.instanceMethod yX6_takes, Cond.selects RX6 yX6_takes yX6_takes, Cond.code yX6_takes cX6_takes 2 (some .boolean), Cond.fieldLink RX6 173 "TravelPursesModel" "number" "I", Cond.methodLink RX6 176 yX6_takesPlace, Cond.instanceMethod yX6_takesPlace, Cond.selects RX6 yX6_takesPlace yX6_takesPlace, Cond.code yX6_takesPlace cX6_takesPlace 4 (some .boolean), Cond.methodLink RX6 179 yX6_takesDigit, Cond.instanceMethod yX6_takesDigit, Cond.selects RX6 yX6_takesDigit yX6_takesDigit, Cond.code yX6_takesDigit cX6_takesDigit 4 (some .boolean), Cond.methodLink RL 162 yL_run, Cond.static yL_run, Cond.codeWith yL_run cL_run 3 (some .int) [(0, 8, 11, 15)], Cond.methodLink RL 59 yX5_run]
def wsL_law0_r29 : List Cond := [Cond.instanceMethod yX5_run, Cond.selects RX5 yX5_run yX5_run, Cond.code yX5_run cX5_run 2 (some .int), Cond.methodLink RX5 205 yX5_firstError, Cond.methodLink RX5 208 yX2_isOrderWhole, Cond.methodLink RX5 214 yX5_carryOutRow, Cond.instanceMethod yX5_carryOutRow, Cond.selects RX5 yX5_carryOutRow yX5_carryOutRow, Cond.code yX5_carryOutRow cX5_carryOutRow 3 (some .int), Cond.methodLink RX5 344 yX5_carriesOutOrder, Cond.instanceMethod yX5_carriesOutOrder, Cond.selects RX5 yX5_carriesOutOrder yX5_carriesOutOrder, Cond.code yX5_carriesOutOrder cX5_carriesOutOrder 4 (some .boolean), Cond.fieldLink RX5 347 "TravelPurses$OrderReader" "wallet" "I", Cond.fieldLink RX5 348 "TravelPurses$OrderReader" "first" "I", Cond.fieldLink RX5 351 "TravelPurses$OrderReader" "amount" "I", Cond.fieldLink RX5 352 "TravelPurses$OrderReader" "sign" "I", Cond.fieldLink RX5 355 "TravelPurses$OrderReader" "second" "I", Cond.methodLink RL 165 yX6_run, Cond.instanceMethod yX6_run, Cond.selects RX6 yX6_run yX6_run, Cond.code yX6_run cX6_run 3 (some .int), Cond.methodLink RX6 188 yX6_carries, Cond.instanceMethod yX6_carries]
def wsL_law0_r30 : List Cond := [Cond.selects RX6 yX6_carries yX6_carries, Cond.code yX6_carries cX6_carries 9 (some .boolean), Cond.methodLink RL 166 yL_undo, Cond.static yL_undo, Cond.codeWith yL_undo cL_undo 3 (some .int) [(0, 8, 11, 17)], Cond.methodLink RL 63 yX5_undo, Cond.instanceMethod yX5_undo, Cond.selects RX5 yX5_undo yX5_undo, Cond.code yX5_undo cX5_undo 1 (some .int), Cond.methodLink RL 168 yX6_undo, Cond.instanceMethod yX6_undo, Cond.selects RX6 yX6_undo yX6_undo, Cond.code yX6_undo cX6_undo 2 (some .int), Cond.methodLink RL 169 yL_purse, Cond.static yL_purse, Cond.codeWith yL_purse cL_purse 6 (some .int) [(0, 12, 15, 13), (0, 12, 19, 15)], Cond.methodLink RL 66 yX5_purse, Cond.instanceMethod yX5_purse, Cond.selects RX5 yX5_purse yX5_purse, Cond.code yX5_purse cX5_purse 5 (some .int), Cond.fieldLink RX5 232 "TravelPurses$Purse" "debt" "I", Cond.methodLink RX5 226 yX0_keptIn, Cond.methodLink RX5 229 yX0_freeOf, Cond.methodLink RX5 235 yX0_rateOf]
def wsL_law0_r31 : List Cond := [Cond.methodLink RX5 238 yX0_isLocked, Cond.methodLink RX5 242 yX0_creditIn, Cond.instanceMethod yX0_creditIn, Cond.selects RX0 yX0_creditIn yX0_creditIn, Cond.code yX0_creditIn cX0_creditIn 4 (some .int), Cond.methodLink RX0 180 yX3_isOutOf, Cond.instanceMethod yX3_isOutOf, Cond.selects RX3 yX3_isOutOf yX3_isOutOf, Cond.code yX3_isOutOf cX3_isOutOf 2 (some .boolean), Cond.fieldLink RX3 13 "TravelPurses$Purse" "wallet" "I", Cond.fieldLink RX3 19 "TravelPurses$Purse" "currency" "I", Cond.methodLink RX5 245 yX0_paidFrom, Cond.instanceMethod yX0_paidFrom, Cond.selects RX0 yX0_paidFrom yX0_paidFrom, Cond.code yX0_paidFrom cX0_paidFrom 4 (some .int), Cond.methodLink RL 171 yX6_purse, Cond.instanceMethod yX6_purse, Cond.selects RX6 yX6_purse yX6_purse, Cond.code yX6_purse cX6_purse 4 (some .int), Cond.methodLink RX6 194 yX6_purseNow, Cond.instanceMethod yX6_purseNow, Cond.selects RX6 yX6_purseNow yX6_purseNow, Cond.code yX6_purseNow cX6_purseNow 4 (some .int), Cond.methodLink RX6 191 yX6_creditIn]
def wsL_law0_r32 : List Cond := [Cond.instanceMethod yX6_creditIn, Cond.selects RX6 yX6_creditIn yX6_creditIn, Cond.code yX6_creditIn cX6_creditIn 6 (some .int), Cond.methodLink RL 172 yL_held, Cond.static yL_held, Cond.codeWith yL_held cL_held 5 (some .int) [(0, 10, 13, 13), (0, 10, 17, 15)], Cond.methodLink RL 69 yX5_held, Cond.instanceMethod yX5_held, Cond.selects RX5 yX5_held yX5_held, Cond.code yX5_held cX5_held 4 (some .int), Cond.fieldLink RX5 250 "TravelPurses$Hold" "amount" "I", Cond.fieldLink RX5 251 "TravelPurses$Hold" "day" "I", Cond.methodLink RL 174 yX6_held, Cond.instanceMethod yX6_held, Cond.selects RX6 yX6_held yX6_held, Cond.code yX6_held cX6_held 3 (some .int), Cond.methodLink RL 175 yL_payment, Cond.static yL_payment, Cond.codeWith yL_payment cL_payment 5 (some .int) [(0, 10, 13, 13), (0, 10, 17, 15)], Cond.methodLink RL 72 yX5_payment, Cond.instanceMethod yX5_payment, Cond.selects RX5 yX5_payment yX5_payment, Cond.code yX5_payment cX5_payment 4 (some .int), Cond.fieldLink RX5 252 "TravelPurses$Payment" "day" "I"]
def wsL_law0_r33 : List Cond := [Cond.methodLink RL 177 yX6_payment, Cond.instanceMethod yX6_payment, Cond.selects RX6 yX6_payment yX6_payment, Cond.code yX6_payment cX6_payment 3 (some .int), Cond.methodLink RX6 197 yX6_paymentNow, Cond.instanceMethod yX6_paymentNow, Cond.selects RX6 yX6_paymentNow yX6_paymentNow, Cond.code yX6_paymentNow cX6_paymentNow 3 (some .int), Cond.methodLink RL 178 yL_count, Cond.static yL_count, Cond.codeWith yL_count cL_count 4 (some .int) [(0, 9, 12, 15)], Cond.methodLink RL 75 yX5_count, Cond.instanceMethod yX5_count, Cond.selects RX5 yX5_count yX5_count, Cond.code yX5_count cX5_count 2 (some .int), Cond.fieldLink RX5 259 "TravelPurses$Books" "loaded" "I", Cond.fieldLink RX5 262 "TravelPurses$Books" "paidOut" "I", Cond.fieldLink RX5 265 "TravelPurses$Books" "exchanges" "I", Cond.fieldLink RX5 268 "TravelPurses$Books" "homeSpread" "I", Cond.fieldLink RX5 271 "TravelPurses$Books" "otherSpread" "I", Cond.fieldLink RX5 274 "TravelPurses$Books" "debtPaid" "I", Cond.methodLink RX5 256 yX0_disputedPayments, Cond.instanceMethod yX0_disputedPayments, Cond.selects RX0 yX0_disputedPayments yX0_disputedPayments]
def wsL_law0_r34 : List Cond := [Cond.code yX0_disputedPayments cX0_disputedPayments 3 (some .int), Cond.methodLink RL 180 yX6_count, Cond.instanceMethod yX6_count, Cond.selects RX6 yX6_count yX6_count, Cond.code yX6_count cX6_count 2 (some .int), Cond.methodLink RX6 203 yX6_counted, Cond.instanceMethod yX6_counted, Cond.selects RX6 yX6_counted yX6_counted, Cond.code yX6_counted cX6_counted 2 (some .int), Cond.methodLink RX6 200 yX6_disputed, Cond.instanceMethod yX6_disputed, Cond.selects RX6 yX6_disputed yX6_disputed, Cond.code yX6_disputed cX6_disputed 3 (some .int), Cond.methodLink RL 181 yL_setting, Cond.static yL_setting, Cond.codeWith yL_setting cL_setting 4 (some .int) [(0, 9, 12, 13)], Cond.methodLink RL 78 yX5_setting, Cond.instanceMethod yX5_setting, Cond.selects RX5 yX5_setting yX5_setting, Cond.code yX5_setting cX5_setting 2 (some .int), Cond.methodLink RL 183 yX6_setting, Cond.instanceMethod yX6_setting, Cond.selects RX6 yX6_setting yX6_setting, Cond.code yX6_setting cX6_setting 2 (some .int)]
def wsL_law0_r35 : List Cond := [Cond.methodLink RL 184 yL_ifExchanged, Cond.static yL_ifExchanged, Cond.codeWith yL_ifExchanged cL_ifExchanged 7 (some .int) [(0, 14, 17, 13), (0, 14, 21, 15)], Cond.methodLink RL 81 yX5_ifExchanged, Cond.instanceMethod yX5_ifExchanged, Cond.selects RX5 yX5_ifExchanged yX5_ifExchanged, Cond.code yX5_ifExchanged cX5_ifExchanged 7 (some .int), Cond.methodLink RX5 279 yX0_isPair, Cond.methodLink RX5 283 yX0_netOf, Cond.instanceMethod yX0_netOf, Cond.selects RX0 yX0_netOf yX0_netOf, Cond.code yX0_netOf cX0_netOf 6 (some .int), Cond.methodLink RL 186 yX6_ifExchanged, Cond.instanceMethod yX6_ifExchanged, Cond.selects RX6 yX6_ifExchanged yX6_ifExchanged, Cond.code yX6_ifExchanged cX6_ifExchanged 5 (some .int), Cond.methodLink RX6 209 yX6_exchangedThen, Cond.instanceMethod yX6_exchangedThen, Cond.selects RX6 yX6_exchangedThen yX6_exchangedThen, Cond.code yX6_exchangedThen cX6_exchangedThen 5 (some .int), Cond.methodLink RX6 206 yX6_brings, Cond.instanceMethod yX6_brings, Cond.selects RX6 yX6_brings yX6_brings, Cond.code yX6_brings cX6_brings 6 (some .int)]
def wsL_law0_r36 : List Cond := [Cond.methodLink RL 187 yL_needed, Cond.static yL_needed, Cond.codeWith yL_needed cL_needed 6 (some .int) [(0, 12, 15, 13), (0, 12, 19, 15)], Cond.methodLink RL 84 yX5_needed, Cond.instanceMethod yX5_needed, Cond.selects RX5 yX5_needed yX5_needed, Cond.code yX5_needed cX5_needed 8 (some .int), Cond.constant RX5 288 (65536), Cond.methodLink RL 189 yX6_needed, Cond.instanceMethod yX6_needed, Cond.selects RX6 yX6_needed yX6_needed, Cond.code yX6_needed cX6_needed 4 (some .int), Cond.methodLink RX6 213 yX6_neededFor, Cond.instanceMethod yX6_neededFor, Cond.selects RX6 yX6_neededFor yX6_neededFor, Cond.code yX6_neededFor cX6_neededFor 7 (some .int), Cond.constant RX6 212 (200000), Cond.methodLink RL 190 yL_room, Cond.static yL_room, Cond.codeWith yL_room cL_room 5 (some .int) [(0, 10, 13, 13)], Cond.methodLink RL 87 yX5_room, Cond.instanceMethod yX5_room, Cond.selects RX5 yX5_room yX5_room, Cond.code yX5_room cX5_room 7 (some .int)]
def wsL_law0_r37 : List Cond := [Cond.methodLink RX5 290 yX0_withTip, Cond.methodLink RL 192 yX6_room, Cond.instanceMethod yX6_room, Cond.selects RX6 yX6_room yX6_room, Cond.code yX6_room cX6_room 3 (some .int), Cond.methodLink RX6 216 yX6_roomOf, Cond.instanceMethod yX6_roomOf, Cond.selects RX6 yX6_roomOf yX6_roomOf, Cond.code yX6_roomOf cX6_roomOf 7 (some .int), Cond.methodLink RL 193 yL_whyNot, Cond.static yL_whyNot, Cond.codeWith yL_whyNot cL_whyNot 8 (some .int) [(0, 16, 19, 13), (0, 16, 23, 15)], Cond.methodLink RL 90 yX5_whyNot, Cond.instanceMethod yX5_whyNot, Cond.selects RX5 yX5_whyNot yX5_whyNot, Cond.code yX5_whyNot cX5_whyNot 8 (some .int), Cond.methodLink RL 196 yX6_whyNot, Cond.instanceMethod yX6_whyNot, Cond.selects RX6 yX6_whyNot yX6_whyNot, Cond.code yX6_whyNot cX6_whyNot 6 (some .int), Cond.methodLink RL 197 yL_ifClosed, Cond.static yL_ifClosed, Cond.codeWith yL_ifClosed cL_ifClosed 4 (some .int) [(0, 9, 12, 13)], Cond.methodLink RL 94 yX5_ifClosed]
def wsL_law0_r38 : List Cond := [Cond.instanceMethod yX5_ifClosed, Cond.selects RX5 yX5_ifClosed yX5_ifClosed, Cond.code yX5_ifClosed cX5_ifClosed 6 (some .int), Cond.methodLink RL 199 yX6_ifClosed, Cond.instanceMethod yX6_ifClosed, Cond.selects RX6 yX6_ifClosed yX6_ifClosed, Cond.code yX6_ifClosed cX6_ifClosed 2 (some .int), Cond.methodLink RX6 219 yX6_closedThen, Cond.instanceMethod yX6_closedThen, Cond.selects RX6 yX6_closedThen yX6_closedThen, Cond.code yX6_closedThen cX6_closedThen 5 (some .int), Cond.methodLink RL 200 yL_heldShare, Cond.static yL_heldShare, Cond.codeWith yL_heldShare cL_heldShare 5 (some .int) [(0, 9, 12, 13)], Cond.methodLink RL 97 yX5_heldShare, Cond.instanceMethod yX5_heldShare, Cond.selects RX5 yX5_heldShare yX5_heldShare, Cond.code yX5_heldShare cX5_heldShare 4 (some .double), Cond.methodLink RL 203 yX6_heldShare, Cond.instanceMethod yX6_heldShare, Cond.selects RX6 yX6_heldShare yX6_heldShare, Cond.code yX6_heldShare cX6_heldShare 3 (some .double), Cond.methodLink RX6 222 yX6_share, Cond.instanceMethod yX6_share]
def wsL_law0_r39 : List Cond := [Cond.selects RX6 yX6_share yX6_share, Cond.code yX6_share cX6_share 4 (some .double), Cond.methodLink RL 204 yX5_digest, Cond.instanceMethod yX5_digest, Cond.selects RX5 yX5_digest yX5_digest, Cond.code yX5_digest cX5_digest 4 (some .long), Cond.constantLong RX5 295 (2551), Cond.methodLink RX5 297 yX5_count, Cond.methodLink RX5 300 yX5_mix, Cond.static yX5_mix, Cond.code yX5_mix cX5_mix 4 (some .long), Cond.constantLong RX5 358 (31), Cond.methodLink RX5 304 yX5_setting, Cond.methodLink RX5 307 yX5_mixWallet, Cond.instanceMethod yX5_mixWallet, Cond.selects RX5 yX5_mixWallet yX5_mixWallet, Cond.code yX5_mixWallet cX5_mixWallet 8 (some .long), Cond.methodLink RX5 360 yX5_purse, Cond.methodLink RX5 364 yX5_room, Cond.methodLink RX5 368 yX5_heldShare, Cond.methodLink RX5 372 yX5_bitsOfShare, Cond.static yX5_bitsOfShare, Cond.code yX5_bitsOfShare cX5_bitsOfShare 8 (some .long), Cond.constantLong RX5 392 (1023)]
def wsL_law0_r40 : List Cond := [Cond.constantDouble RX5 394 (4611686018427387904), Cond.constantDouble RX5 396 (4841369599423283200), Cond.methodLink RX5 376 yX5_ifExchanged, Cond.methodLink RX5 380 yX5_needed, Cond.methodLink RX5 383 yX5_ifClosed, Cond.methodLink RX5 311 yX5_mixHolds, Cond.instanceMethod yX5_mixHolds, Cond.selects RX5 yX5_mixHolds yX5_mixHolds, Cond.code yX5_mixHolds cX5_mixHolds 7 (some .long), Cond.methodLink RX5 386 yX5_held, Cond.methodLink RX5 315 yX5_mixPayments, Cond.instanceMethod yX5_mixPayments, Cond.selects RX5 yX5_mixPayments yX5_mixPayments, Cond.code yX5_mixPayments cX5_mixPayments 7 (some .long), Cond.methodLink RX5 389 yX5_payment, Cond.methodLink RX5 318 yX5_mixBuffer, Cond.instanceMethod yX5_mixBuffer, Cond.selects RX5 yX5_mixBuffer yX5_mixBuffer, Cond.code yX5_mixBuffer cX5_mixBuffer 6 (some .long), Cond.methodLink RL 208 yX6_digest, Cond.instanceMethod yX6_digest, Cond.selects RX6 yX6_digest yX6_digest, Cond.code yX6_digest cX6_digest 2 (some .long), Cond.constantLong RX6 242 (2551)]
def wsL_law0_r41 : List Cond := [Cond.fieldLink RX6 228 "TravelPursesModel" "hash" "J", Cond.methodLink RX6 232 yX6_mix, Cond.instanceMethod yX6_mix, Cond.selects RX6 yX6_mix yX6_mix, Cond.code yX6_mix cX6_mix 3 none, Cond.constantLong RX6 226 (31), Cond.methodLink RX6 244 yX6_mixWallet, Cond.instanceMethod yX6_mixWallet, Cond.selects RX6 yX6_mixWallet yX6_mixWallet, Cond.code yX6_mixWallet cX6_mixWallet 4 none, Cond.methodLink RX6 236 yJxe99ae_doubleToLongBits_ccdee, Cond.static yJxe99ae_doubleToLongBits_ccdee, Cond.initialized RJxe99ae, Cond.code yJxe99ae_doubleToLongBits_ccdee cJxe99ae_doubleToLongBits_ccdee 2 (some .long), Cond.methodLink RJxe99ae 134 ⟨"java/lang/Double", "doubleToRawLongBits", "(D)J"⟩, Cond.native ⟨"java/lang/Double", "doubleToRawLongBits", "(D)J"⟩, Cond.static ⟨"java/lang/Double", "doubleToRawLongBits", "(D)J"⟩, Cond.initialized "java/lang/Double", Cond.constantLong RJxe99ae 137 (9221120237041090560), Cond.methodLink RJxe99ae 122 yJxe99ae_isNaN_b9ae7, Cond.static yJxe99ae_isNaN_b9ae7, Cond.code yJxe99ae_isNaN_b9ae7 cJxe99ae_isNaN_b9ae7 2 (some .boolean)]
def wsL_law0 : List Cond := (wsL_law0_r1 ++ (wsL_law0_r2 ++ (wsL_law0_r3 ++ (wsL_law0_r4 ++ (wsL_law0_r5 ++ (wsL_law0_r6 ++ (wsL_law0_r7 ++ (wsL_law0_r8 ++ (wsL_law0_r9 ++ (wsL_law0_r10 ++ (wsL_law0_r11 ++ (wsL_law0_r12 ++ (wsL_law0_r13 ++ (wsL_law0_r14 ++ (wsL_law0_r15 ++ (wsL_law0_r16 ++ (wsL_law0_r17 ++ (wsL_law0_r18 ++ (wsL_law0_r19 ++ (wsL_law0_r20 ++ (wsL_law0_r21 ++ (wsL_law0_r22 ++ (wsL_law0_r23 ++ (wsL_law0_r24 ++ (wsL_law0_r25 ++ (wsL_law0_r26 ++ (wsL_law0_r27 ++ (wsL_law0_r28 ++ (wsL_law0_r29 ++ (wsL_law0_r30 ++ (wsL_law0_r31 ++ (wsL_law0_r32 ++ (wsL_law0_r33 ++ (wsL_law0_r34 ++ (wsL_law0_r35 ++ (wsL_law0_r36 ++ (wsL_law0_r37 ++ (wsL_law0_r38 ++ (wsL_law0_r39 ++ (wsL_law0_r40 ++ wsL_law0_r41)))))))))))))))))))))))))))))))))))))))) ++ wsX50 ++ wsX60 ++ wsX00 ++ wsX20 ++ wsX40 ++ wsX10 ++ wsX30 ++ ([] : List Cond)
def wsL_law : List Cond := wsL_law0 ++ (vx_atS RX5 47 "java/lang/IllegalStateException" ["java/lang/RuntimeException", "java/lang/Exception"]).filter goodWord ++ (vx_atS RX5 67 "java/lang/IndexOutOfBoundsException" ["java/lang/RuntimeException", "java/lang/Exception"]).filter goodWord ++ (vx_atS RX5 72 "java/lang/IllegalArgumentException" ["java/lang/RuntimeException", "java/lang/Exception"]).filter goodWord
set_option maxRecDepth 20000 in
theorem wsL_law_in0 : ∀ w ∈ wsL_law0, w ∈ lw_tbl := fun w h => (goodIn_p wsL_law0 [87, 90, 95, 117, 157, 188, 278, 902, 623, 479, 543, 627, 648, 652, 656, 663, 667, 671, 675, 679, 682, 945, 948, 951, 954, 959, 963, 966, 971, 975, 979, 941, 689, 983, 698, 570, 987, 990, 993, 996, 705, 709, 548, 492, 484, 488, 716, 556, 497, 501, 562, 1000, 1004, 1007, 1011, 1015, 1019, 1023, 1027, 1031, 1036, 1040, 1044, 723, 727, 525, 733, 1048, 1052, 1056, 1060, 740, 591, 746, 750, 1064, 1068, 1072, 757, 1076, 764, 604, 609, 1080, 1084, 1088, 1092, 773, 778, 1096, 1100, 785, 575, 790, 1104, 1108, 1112, 1116, 1120, 1124, 797, 803, 1128, 1132, 811, 1136, 1139, 1142, 821, 1146, 329, 1150, 333, 337, 341, 345, 349, 353, 357, 362, 1154, 1158, 1162, 1166, 1170, 830, 837, 841, 1174, 1178, 848, 1182, 475, 506, 510, 514, 1186, 1190, 1194, 587, 1198, 600, 1202, 1206, 371, 375, 1210, 1214, 1218, 451, 1222, 539, 552, 1226, 1230, 1234, 566, 1238, 1242, 519, 1247, 1251, 888, 1255, 579, 1259, 1263, 529, 1267, 1271, 366, 446, 471, 532, 583, 596, 613, 1275, 1280, 1285, 1288, 1291] (by decide +kernel) (by decide +kernel) w h).1
theorem wsL_law_x0 : ∀ w ∈ (vx_atS RX5 47 "java/lang/IllegalStateException" ["java/lang/RuntimeException", "java/lang/Exception"]).filter goodWord, w ∈ lw_tbl := by decide +kernel
theorem wsL_law_x1 : ∀ w ∈ (vx_atS RX5 67 "java/lang/IndexOutOfBoundsException" ["java/lang/RuntimeException", "java/lang/Exception"]).filter goodWord, w ∈ lw_tbl := by decide +kernel
theorem wsL_law_x2 : ∀ w ∈ (vx_atS RX5 72 "java/lang/IllegalArgumentException" ["java/lang/RuntimeException", "java/lang/Exception"]).filter goodWord, w ∈ lw_tbl := by decide +kernel
theorem wsL_law_in : ∀ w ∈ wsL_law, w ∈ lw_tbl := fun w h => (List.mem_append.mp h).elim (fun h => (List.mem_append.mp h).elim (fun h => (List.mem_append.mp h).elim (fun h => wsL_law_in0 w h) (fun h => wsL_law_x0 w h)) (fun h => wsL_law_x1 w h)) (fun h => wsL_law_x2 w h)
theorem inlX0 : ∀ w ∈ wsX00, w ∈ wsL_law := fun _ h => List.mem_append_left _ (List.mem_append_left _ (List.mem_append_left _ (List.mem_append_left _ (List.mem_append_left _ (List.mem_append_left _ (List.mem_append_left _ (List.mem_append_left _ (List.mem_append_right _ h))))))))
theorem inX0 : ∀ w ∈ wsX00, w ∈ lw_tbl := fun w h => wsL_law_in w (inlX0 w h)
theorem inlX1 : ∀ w ∈ wsX10, w ∈ wsL_law := fun _ h => List.mem_append_left _ (List.mem_append_left _ (List.mem_append_left _ (List.mem_append_left _ (List.mem_append_left _ (List.mem_append_right _ h)))))
theorem inX1 : ∀ w ∈ wsX10, w ∈ lw_tbl := fun w h => wsL_law_in w (inlX1 w h)
theorem inlX2 : ∀ w ∈ wsX20, w ∈ wsL_law := fun _ h => List.mem_append_left _ (List.mem_append_left _ (List.mem_append_left _ (List.mem_append_left _ (List.mem_append_left _ (List.mem_append_left _ (List.mem_append_left _ (List.mem_append_right _ h)))))))
theorem inX2 : ∀ w ∈ wsX20, w ∈ lw_tbl := fun w h => wsL_law_in w (inlX2 w h)
theorem inlX3 : ∀ w ∈ wsX30, w ∈ wsL_law := fun _ h => List.mem_append_left _ (List.mem_append_left _ (List.mem_append_left _ (List.mem_append_left _ (List.mem_append_right _ h))))
theorem inX3 : ∀ w ∈ wsX30, w ∈ lw_tbl := fun w h => wsL_law_in w (inlX3 w h)
theorem inlX4 : ∀ w ∈ wsX40, w ∈ wsL_law := fun _ h => List.mem_append_left _ (List.mem_append_left _ (List.mem_append_left _ (List.mem_append_left _ (List.mem_append_left _ (List.mem_append_left _ (List.mem_append_right _ h))))))
theorem inX4 : ∀ w ∈ wsX40, w ∈ lw_tbl := fun w h => wsL_law_in w (inlX4 w h)
theorem inlX5 : ∀ w ∈ wsX50, w ∈ wsL_law := fun _ h => List.mem_append_left _ (List.mem_append_left _ (List.mem_append_left _ (List.mem_append_left _ (List.mem_append_left _ (List.mem_append_left _ (List.mem_append_left _ (List.mem_append_left _ (List.mem_append_left _ (List.mem_append_left _ (List.mem_append_right _ h))))))))))
theorem inX5 : ∀ w ∈ wsX50, w ∈ lw_tbl := fun w h => wsL_law_in w (inlX5 w h)
theorem inlX6 : ∀ w ∈ wsX60, w ∈ wsL_law := fun _ h => List.mem_append_left _ (List.mem_append_left _ (List.mem_append_left _ (List.mem_append_left _ (List.mem_append_left _ (List.mem_append_left _ (List.mem_append_left _ (List.mem_append_left _ (List.mem_append_left _ (List.mem_append_right _ h)))))))))
theorem inX6 : ∀ w ∈ wsX60, w ∈ lw_tbl := fun w h => wsL_law_in w (inlX6 w h)
theorem inJx8e188 : ∀ w ∈ wsJx8e1880, w ∈ lw_tbl := by decide +kernel
theorem inJxe99ae : ∀ w ∈ wsJxe99ae0, w ∈ lw_tbl := by decide +kernel
theorem inJ9 : ∀ w ∈ wsJ90, w ∈ lw_tbl := by decide +kernel
theorem inJ0 : ∀ w ∈ wsJ00, w ∈ lw_tbl := by decide +kernel
theorem inJ10 : ∀ w ∈ wsJ100, w ∈ lw_tbl := by decide +kernel
abbrev vwCl : List vw_C := [(RX0, TX0, 14), (RX1, TX1, 5), (RX2, TX2, 7), (RX3, TX3, 5), (RX4, TX4, 6), (RX5, TX5, 6), (RX6, TX6, 11)]
end
section
theorem dX0_init_0 : decode cX0_init 0 = .ok (.aload_n 0, 1) := by decide +kernel
theorem dX0_init_1 : decode cX0_init 1 = .ok (.invokespecial 3, 3) := by decide +kernel
theorem dX0_init_4 : decode cX0_init 4 = .ok (.aload_n 0, 1) := by decide +kernel
theorem dX0_init_5 : decode cX0_init 5 = .ok (.getstatic 9, 3) := by decide +kernel
theorem dX0_init_8 : decode cX0_init 8 = .ok (.invokevirtual 13, 3) := by decide +kernel
theorem dX0_init_11 : decode cX0_init 11 = .ok (.checkcast 14, 3) := by decide +kernel
theorem dX0_init_14 : decode cX0_init 14 = .ok (.putfield 18, 3) := by decide +kernel
theorem dX0_init_17 : decode cX0_init 17 = .ok (.aload_n 0, 1) := by decide +kernel
theorem dX0_init_18 : decode cX0_init 18 = .ok (.getstatic 23, 3) := by decide +kernel
theorem dX0_init_21 : decode cX0_init 21 = .ok (.invokevirtual 13, 3) := by decide +kernel
theorem dX0_init_24 : decode cX0_init 24 = .ok (.checkcast 14, 3) := by decide +kernel
theorem dX0_init_27 : decode cX0_init 27 = .ok (.putfield 26, 3) := by decide +kernel
theorem dX0_init_30 : decode cX0_init 30 = .ok (.aload_n 0, 1) := by decide +kernel
theorem dX0_init_31 : decode cX0_init 31 = .ok (.bipush 16, 2) := by decide +kernel
theorem dX0_init_33 : decode cX0_init 33 = .ok (.anewarray 29, 3) := by decide +kernel
theorem dX0_init_36 : decode cX0_init 36 = .ok (.putfield 31, 3) := by decide +kernel
theorem dX0_init_39 : decode cX0_init 39 = .ok (.aload_n 0, 1) := by decide +kernel
theorem dX0_init_40 : decode cX0_init 40 = .ok (.bipush 8, 2) := by decide +kernel
theorem dX0_init_42 : decode cX0_init 42 = .ok (.anewarray 35, 3) := by decide +kernel
theorem dX0_init_45 : decode cX0_init 45 = .ok (.putfield 37, 3) := by decide +kernel
theorem dX0_init_48 : decode cX0_init 48 = .ok (.aload_n 0, 1) := by decide +kernel
theorem dX0_init_49 : decode cX0_init 49 = .ok (.bipush 12, 2) := by decide +kernel
theorem dX0_init_51 : decode cX0_init 51 = .ok (.anewarray 41, 3) := by decide +kernel
theorem dX0_init_54 : decode cX0_init 54 = .ok (.putfield 43, 3) := by decide +kernel
theorem dX0_init_57 : decode cX0_init 57 = .ok (.iconst 0, 1) := by decide +kernel
theorem dX0_init_58 : decode cX0_init 58 = .ok (.istore_n 1, 1) := by decide +kernel
theorem dX0_init_59 : decode cX0_init 59 = .ok (.iload_n 1, 1) := by decide +kernel
theorem dX0_init_60 : decode cX0_init 60 = .ok (.aload_n 0, 1) := by decide +kernel
theorem dX0_init_61 : decode cX0_init 61 = .ok (.getfield 31, 3) := by decide +kernel
theorem dX0_init_64 : decode cX0_init 64 = .ok (.arraylength, 1) := by decide +kernel
theorem dX0_init_65 : decode cX0_init 65 = .ok (.if_icmp .ge 28, 3) := by decide +kernel
theorem dX0_init_68 : decode cX0_init 68 = .ok (.aload_n 0, 1) := by decide +kernel
theorem dX0_init_69 : decode cX0_init 69 = .ok (.getfield 31, 3) := by decide +kernel
theorem dX0_init_72 : decode cX0_init 72 = .ok (.iload_n 1, 1) := by decide +kernel
theorem dX0_init_73 : decode cX0_init 73 = .ok (.new 29, 3) := by decide +kernel
theorem dX0_init_76 : decode cX0_init 76 = .ok (.dup, 1) := by decide +kernel
theorem dX0_init_77 : decode cX0_init 77 = .ok (.iload_n 1, 1) := by decide +kernel
theorem dX0_init_78 : decode cX0_init 78 = .ok (.iconst 4, 1) := by decide +kernel
theorem dX0_init_79 : decode cX0_init 79 = .ok (.idiv, 1) := by decide +kernel
theorem dX0_init_80 : decode cX0_init 80 = .ok (.iload_n 1, 1) := by decide +kernel
theorem dX0_init_81 : decode cX0_init 81 = .ok (.iconst 4, 1) := by decide +kernel
theorem dX0_init_82 : decode cX0_init 82 = .ok (.irem, 1) := by decide +kernel
theorem dX0_init_83 : decode cX0_init 83 = .ok (.invokespecial 47, 3) := by decide +kernel
theorem dX0_init_86 : decode cX0_init 86 = .ok (.aastore, 1) := by decide +kernel
theorem dX0_init_87 : decode cX0_init 87 = .ok (.iinc 1 1, 3) := by decide +kernel
theorem dX0_init_90 : decode cX0_init 90 = .ok (.goto (-31), 3) := by decide +kernel
theorem dX0_init_93 : decode cX0_init 93 = .ok (.iconst 0, 1) := by decide +kernel
theorem dX0_init_94 : decode cX0_init 94 = .ok (.istore_n 1, 1) := by decide +kernel
theorem dX0_init_95 : decode cX0_init 95 = .ok (.iload_n 1, 1) := by decide +kernel
theorem dX0_init_96 : decode cX0_init 96 = .ok (.aload_n 0, 1) := by decide +kernel
theorem dX0_init_97 : decode cX0_init 97 = .ok (.getfield 37, 3) := by decide +kernel
theorem dX0_init_100 : decode cX0_init 100 = .ok (.arraylength, 1) := by decide +kernel
theorem dX0_init_101 : decode cX0_init 101 = .ok (.if_icmp .ge 22, 3) := by decide +kernel
theorem dX0_init_104 : decode cX0_init 104 = .ok (.aload_n 0, 1) := by decide +kernel
theorem dX0_init_105 : decode cX0_init 105 = .ok (.getfield 37, 3) := by decide +kernel
theorem dX0_init_108 : decode cX0_init 108 = .ok (.iload_n 1, 1) := by decide +kernel
theorem dX0_init_109 : decode cX0_init 109 = .ok (.new 35, 3) := by decide +kernel
theorem dX0_init_112 : decode cX0_init 112 = .ok (.dup, 1) := by decide +kernel
theorem dX0_init_113 : decode cX0_init 113 = .ok (.invokespecial 50, 3) := by decide +kernel
theorem dX0_init_116 : decode cX0_init 116 = .ok (.aastore, 1) := by decide +kernel
theorem dX0_init_117 : decode cX0_init 117 = .ok (.iinc 1 1, 3) := by decide +kernel
theorem dX0_init_120 : decode cX0_init 120 = .ok (.goto (-25), 3) := by decide +kernel
theorem dX0_init_123 : decode cX0_init 123 = .ok (.iconst 0, 1) := by decide +kernel
theorem dX0_init_124 : decode cX0_init 124 = .ok (.istore_n 1, 1) := by decide +kernel
theorem dX0_init_125 : decode cX0_init 125 = .ok (.iload_n 1, 1) := by decide +kernel
theorem dX0_init_126 : decode cX0_init 126 = .ok (.aload_n 0, 1) := by decide +kernel
theorem dX0_init_127 : decode cX0_init 127 = .ok (.getfield 43, 3) := by decide +kernel
theorem dX0_init_130 : decode cX0_init 130 = .ok (.arraylength, 1) := by decide +kernel
theorem dX0_init_131 : decode cX0_init 131 = .ok (.if_icmp .ge 22, 3) := by decide +kernel
theorem dX0_init_134 : decode cX0_init 134 = .ok (.aload_n 0, 1) := by decide +kernel
theorem dX0_init_135 : decode cX0_init 135 = .ok (.getfield 43, 3) := by decide +kernel
theorem dX0_init_138 : decode cX0_init 138 = .ok (.iload_n 1, 1) := by decide +kernel
theorem dX0_init_139 : decode cX0_init 139 = .ok (.new 41, 3) := by decide +kernel
theorem dX0_init_142 : decode cX0_init 142 = .ok (.dup, 1) := by decide +kernel
theorem dX0_init_143 : decode cX0_init 143 = .ok (.invokespecial 51, 3) := by decide +kernel
theorem dX0_init_146 : decode cX0_init 146 = .ok (.aastore, 1) := by decide +kernel
theorem dX0_init_147 : decode cX0_init 147 = .ok (.iinc 1 1, 3) := by decide +kernel
theorem dX0_init_150 : decode cX0_init 150 = .ok (.goto (-25), 3) := by decide +kernel
theorem dX0_init_153 : decode cX0_init 153 = .ok (.return_, 1) := by decide +kernel
theorem dX0_copyFrom_0 : decode cX0_copyFrom 0 = .ok (.aload_n 0, 1) := by decide +kernel
theorem dX0_copyFrom_1 : decode cX0_copyFrom 1 = .ok (.aload_n 1, 1) := by decide +kernel
theorem dX0_copyFrom_2 : decode cX0_copyFrom 2 = .ok (.getfield 52, 3) := by decide +kernel
theorem dX0_copyFrom_5 : decode cX0_copyFrom 5 = .ok (.putfield 52, 3) := by decide +kernel
theorem dX0_copyFrom_8 : decode cX0_copyFrom 8 = .ok (.aload_n 1, 1) := by decide +kernel
theorem dX0_copyFrom_9 : decode cX0_copyFrom 9 = .ok (.getfield 18, 3) := by decide +kernel
theorem dX0_copyFrom_12 : decode cX0_copyFrom 12 = .ok (.iconst 0, 1) := by decide +kernel
theorem dX0_copyFrom_13 : decode cX0_copyFrom 13 = .ok (.aload_n 0, 1) := by decide +kernel
theorem dX0_copyFrom_14 : decode cX0_copyFrom 14 = .ok (.getfield 18, 3) := by decide +kernel
theorem dX0_copyFrom_17 : decode cX0_copyFrom 17 = .ok (.iconst 0, 1) := by decide +kernel
theorem dX0_copyFrom_18 : decode cX0_copyFrom 18 = .ok (.aload_n 0, 1) := by decide +kernel
theorem dX0_copyFrom_19 : decode cX0_copyFrom 19 = .ok (.getfield 18, 3) := by decide +kernel
theorem dX0_copyFrom_22 : decode cX0_copyFrom 22 = .ok (.arraylength, 1) := by decide +kernel
theorem dX0_copyFrom_23 : decode cX0_copyFrom 23 = .ok (.invokestatic 56, 3) := by decide +kernel
theorem dX0_copyFrom_26 : decode cX0_copyFrom 26 = .ok (.aload_n 1, 1) := by decide +kernel
theorem dX0_copyFrom_27 : decode cX0_copyFrom 27 = .ok (.getfield 26, 3) := by decide +kernel
theorem dX0_copyFrom_30 : decode cX0_copyFrom 30 = .ok (.iconst 0, 1) := by decide +kernel
theorem dX0_copyFrom_31 : decode cX0_copyFrom 31 = .ok (.aload_n 0, 1) := by decide +kernel
theorem dX0_copyFrom_32 : decode cX0_copyFrom 32 = .ok (.getfield 26, 3) := by decide +kernel
theorem dX0_copyFrom_35 : decode cX0_copyFrom 35 = .ok (.iconst 0, 1) := by decide +kernel
theorem dX0_copyFrom_36 : decode cX0_copyFrom 36 = .ok (.aload_n 0, 1) := by decide +kernel
theorem dX0_copyFrom_37 : decode cX0_copyFrom 37 = .ok (.getfield 26, 3) := by decide +kernel
theorem dX0_copyFrom_40 : decode cX0_copyFrom 40 = .ok (.arraylength, 1) := by decide +kernel
theorem dX0_copyFrom_41 : decode cX0_copyFrom 41 = .ok (.invokestatic 56, 3) := by decide +kernel
theorem dX0_copyFrom_44 : decode cX0_copyFrom 44 = .ok (.iconst 0, 1) := by decide +kernel
theorem dX0_copyFrom_45 : decode cX0_copyFrom 45 = .ok (.istore_n 2, 1) := by decide +kernel
theorem dX0_copyFrom_46 : decode cX0_copyFrom 46 = .ok (.iload_n 2, 1) := by decide +kernel
theorem dX0_copyFrom_47 : decode cX0_copyFrom 47 = .ok (.aload_n 0, 1) := by decide +kernel
theorem dX0_copyFrom_48 : decode cX0_copyFrom 48 = .ok (.getfield 31, 3) := by decide +kernel
theorem dX0_copyFrom_51 : decode cX0_copyFrom 51 = .ok (.arraylength, 1) := by decide +kernel
theorem dX0_copyFrom_52 : decode cX0_copyFrom 52 = .ok (.if_icmp .ge 24, 3) := by decide +kernel
theorem dX0_copyFrom_55 : decode cX0_copyFrom 55 = .ok (.aload_n 0, 1) := by decide +kernel
theorem dX0_copyFrom_56 : decode cX0_copyFrom 56 = .ok (.getfield 31, 3) := by decide +kernel
theorem dX0_copyFrom_59 : decode cX0_copyFrom 59 = .ok (.iload_n 2, 1) := by decide +kernel
theorem dX0_copyFrom_60 : decode cX0_copyFrom 60 = .ok (.aaload, 1) := by decide +kernel
theorem dX0_copyFrom_61 : decode cX0_copyFrom 61 = .ok (.aload_n 1, 1) := by decide +kernel
theorem dX0_copyFrom_62 : decode cX0_copyFrom 62 = .ok (.getfield 31, 3) := by decide +kernel
theorem dX0_copyFrom_65 : decode cX0_copyFrom 65 = .ok (.iload_n 2, 1) := by decide +kernel
theorem dX0_copyFrom_66 : decode cX0_copyFrom 66 = .ok (.aaload, 1) := by decide +kernel
theorem dX0_copyFrom_67 : decode cX0_copyFrom 67 = .ok (.invokevirtual 62, 3) := by decide +kernel
theorem dX0_copyFrom_70 : decode cX0_copyFrom 70 = .ok (.iinc 2 1, 3) := by decide +kernel
theorem dX0_copyFrom_73 : decode cX0_copyFrom 73 = .ok (.goto (-27), 3) := by decide +kernel
theorem dX0_copyFrom_76 : decode cX0_copyFrom 76 = .ok (.aload_n 0, 1) := by decide +kernel
theorem dX0_copyFrom_77 : decode cX0_copyFrom 77 = .ok (.aload_n 1, 1) := by decide +kernel
theorem dX0_copyFrom_78 : decode cX0_copyFrom 78 = .ok (.getfield 66, 3) := by decide +kernel
theorem dX0_copyFrom_81 : decode cX0_copyFrom 81 = .ok (.putfield 66, 3) := by decide +kernel
theorem dX0_copyFrom_84 : decode cX0_copyFrom 84 = .ok (.iconst 0, 1) := by decide +kernel
theorem dX0_copyFrom_85 : decode cX0_copyFrom 85 = .ok (.istore_n 2, 1) := by decide +kernel
theorem dX0_copyFrom_86 : decode cX0_copyFrom 86 = .ok (.iload_n 2, 1) := by decide +kernel
theorem dX0_copyFrom_87 : decode cX0_copyFrom 87 = .ok (.aload_n 0, 1) := by decide +kernel
theorem dX0_copyFrom_88 : decode cX0_copyFrom 88 = .ok (.getfield 66, 3) := by decide +kernel
theorem dX0_copyFrom_91 : decode cX0_copyFrom 91 = .ok (.if_icmp .ge 24, 3) := by decide +kernel
theorem dX0_copyFrom_94 : decode cX0_copyFrom 94 = .ok (.aload_n 0, 1) := by decide +kernel
theorem dX0_copyFrom_95 : decode cX0_copyFrom 95 = .ok (.getfield 37, 3) := by decide +kernel
theorem dX0_copyFrom_98 : decode cX0_copyFrom 98 = .ok (.iload_n 2, 1) := by decide +kernel
theorem dX0_copyFrom_99 : decode cX0_copyFrom 99 = .ok (.aaload, 1) := by decide +kernel
theorem dX0_copyFrom_100 : decode cX0_copyFrom 100 = .ok (.aload_n 1, 1) := by decide +kernel
theorem dX0_copyFrom_101 : decode cX0_copyFrom 101 = .ok (.getfield 37, 3) := by decide +kernel
theorem dX0_copyFrom_104 : decode cX0_copyFrom 104 = .ok (.iload_n 2, 1) := by decide +kernel
theorem dX0_copyFrom_105 : decode cX0_copyFrom 105 = .ok (.aaload, 1) := by decide +kernel
theorem dX0_copyFrom_106 : decode cX0_copyFrom 106 = .ok (.invokevirtual 69, 3) := by decide +kernel
theorem dX0_copyFrom_109 : decode cX0_copyFrom 109 = .ok (.iinc 2 1, 3) := by decide +kernel
theorem dX0_copyFrom_112 : decode cX0_copyFrom 112 = .ok (.goto (-26), 3) := by decide +kernel
theorem dX0_copyFrom_115 : decode cX0_copyFrom 115 = .ok (.aload_n 0, 1) := by decide +kernel
theorem dX0_copyFrom_116 : decode cX0_copyFrom 116 = .ok (.aload_n 1, 1) := by decide +kernel
theorem dX0_copyFrom_117 : decode cX0_copyFrom 117 = .ok (.getfield 72, 3) := by decide +kernel
theorem dX0_copyFrom_120 : decode cX0_copyFrom 120 = .ok (.putfield 72, 3) := by decide +kernel
theorem dX0_copyFrom_123 : decode cX0_copyFrom 123 = .ok (.iconst 0, 1) := by decide +kernel
theorem dX0_copyFrom_124 : decode cX0_copyFrom 124 = .ok (.istore_n 2, 1) := by decide +kernel
theorem dX0_copyFrom_125 : decode cX0_copyFrom 125 = .ok (.iload_n 2, 1) := by decide +kernel
theorem dX0_copyFrom_126 : decode cX0_copyFrom 126 = .ok (.aload_n 0, 1) := by decide +kernel
theorem dX0_copyFrom_127 : decode cX0_copyFrom 127 = .ok (.getfield 72, 3) := by decide +kernel
theorem dX0_copyFrom_130 : decode cX0_copyFrom 130 = .ok (.if_icmp .ge 24, 3) := by decide +kernel
theorem dX0_copyFrom_133 : decode cX0_copyFrom 133 = .ok (.aload_n 0, 1) := by decide +kernel
theorem dX0_copyFrom_134 : decode cX0_copyFrom 134 = .ok (.getfield 43, 3) := by decide +kernel
theorem dX0_copyFrom_137 : decode cX0_copyFrom 137 = .ok (.iload_n 2, 1) := by decide +kernel
theorem dX0_copyFrom_138 : decode cX0_copyFrom 138 = .ok (.aaload, 1) := by decide +kernel
theorem dX0_copyFrom_139 : decode cX0_copyFrom 139 = .ok (.aload_n 1, 1) := by decide +kernel
theorem dX0_copyFrom_140 : decode cX0_copyFrom 140 = .ok (.getfield 43, 3) := by decide +kernel
theorem dX0_copyFrom_143 : decode cX0_copyFrom 143 = .ok (.iload_n 2, 1) := by decide +kernel
theorem dX0_copyFrom_144 : decode cX0_copyFrom 144 = .ok (.aaload, 1) := by decide +kernel
theorem dX0_copyFrom_145 : decode cX0_copyFrom 145 = .ok (.invokevirtual 75, 3) := by decide +kernel
theorem dX0_copyFrom_148 : decode cX0_copyFrom 148 = .ok (.iinc 2 1, 3) := by decide +kernel
theorem dX0_copyFrom_151 : decode cX0_copyFrom 151 = .ok (.goto (-26), 3) := by decide +kernel
theorem dX0_copyFrom_154 : decode cX0_copyFrom 154 = .ok (.aload_n 0, 1) := by decide +kernel
theorem dX0_copyFrom_155 : decode cX0_copyFrom 155 = .ok (.aload_n 1, 1) := by decide +kernel
theorem dX0_copyFrom_156 : decode cX0_copyFrom 156 = .ok (.getfield 78, 3) := by decide +kernel
theorem dX0_copyFrom_159 : decode cX0_copyFrom 159 = .ok (.putfield 78, 3) := by decide +kernel
theorem dX0_copyFrom_162 : decode cX0_copyFrom 162 = .ok (.aload_n 0, 1) := by decide +kernel
theorem dX0_copyFrom_163 : decode cX0_copyFrom 163 = .ok (.aload_n 1, 1) := by decide +kernel
theorem dX0_copyFrom_164 : decode cX0_copyFrom 164 = .ok (.getfield 81, 3) := by decide +kernel
theorem dX0_copyFrom_167 : decode cX0_copyFrom 167 = .ok (.putfield 81, 3) := by decide +kernel
theorem dX0_copyFrom_170 : decode cX0_copyFrom 170 = .ok (.aload_n 0, 1) := by decide +kernel
theorem dX0_copyFrom_171 : decode cX0_copyFrom 171 = .ok (.aload_n 1, 1) := by decide +kernel
theorem dX0_copyFrom_172 : decode cX0_copyFrom 172 = .ok (.getfield 84, 3) := by decide +kernel
theorem dX0_copyFrom_175 : decode cX0_copyFrom 175 = .ok (.putfield 84, 3) := by decide +kernel
theorem dX0_copyFrom_178 : decode cX0_copyFrom 178 = .ok (.aload_n 0, 1) := by decide +kernel
theorem dX0_copyFrom_179 : decode cX0_copyFrom 179 = .ok (.aload_n 1, 1) := by decide +kernel
theorem dX0_copyFrom_180 : decode cX0_copyFrom 180 = .ok (.getfield 87, 3) := by decide +kernel
theorem dX0_copyFrom_183 : decode cX0_copyFrom 183 = .ok (.putfield 87, 3) := by decide +kernel
theorem dX0_copyFrom_186 : decode cX0_copyFrom 186 = .ok (.aload_n 0, 1) := by decide +kernel
theorem dX0_copyFrom_187 : decode cX0_copyFrom 187 = .ok (.aload_n 1, 1) := by decide +kernel
theorem dX0_copyFrom_188 : decode cX0_copyFrom 188 = .ok (.getfield 90, 3) := by decide +kernel
theorem dX0_copyFrom_191 : decode cX0_copyFrom 191 = .ok (.putfield 90, 3) := by decide +kernel
theorem dX0_copyFrom_194 : decode cX0_copyFrom 194 = .ok (.aload_n 0, 1) := by decide +kernel
theorem dX0_copyFrom_195 : decode cX0_copyFrom 195 = .ok (.aload_n 1, 1) := by decide +kernel
theorem dX0_copyFrom_196 : decode cX0_copyFrom 196 = .ok (.getfield 93, 3) := by decide +kernel
theorem dX0_copyFrom_199 : decode cX0_copyFrom 199 = .ok (.putfield 93, 3) := by decide +kernel
theorem dX0_copyFrom_202 : decode cX0_copyFrom 202 = .ok (.return_, 1) := by decide +kernel
theorem dX0_takeIn_0 : decode cX0_takeIn 0 = .ok (.aload_n 1, 1) := by decide +kernel
theorem dX0_takeIn_1 : decode cX0_takeIn 1 = .ok (.getfield 96, 3) := by decide +kernel
theorem dX0_takeIn_4 : decode cX0_takeIn 4 = .ok (.iload_n 2, 1) := by decide +kernel
theorem dX0_takeIn_5 : decode cX0_takeIn 5 = .ok (.invokestatic 99, 3) := by decide +kernel
theorem dX0_takeIn_8 : decode cX0_takeIn 8 = .ok (.istore_n 3, 1) := by decide +kernel
theorem dX0_takeIn_9 : decode cX0_takeIn 9 = .ok (.aload_n 1, 1) := by decide +kernel
theorem dX0_takeIn_10 : decode cX0_takeIn 10 = .ok (.dup, 1) := by decide +kernel
theorem dX0_takeIn_11 : decode cX0_takeIn 11 = .ok (.getfield 96, 3) := by decide +kernel
theorem dX0_takeIn_14 : decode cX0_takeIn 14 = .ok (.iload_n 3, 1) := by decide +kernel
theorem dX0_takeIn_15 : decode cX0_takeIn 15 = .ok (.isub, 1) := by decide +kernel
theorem dX0_takeIn_16 : decode cX0_takeIn 16 = .ok (.putfield 96, 3) := by decide +kernel
theorem dX0_takeIn_19 : decode cX0_takeIn 19 = .ok (.aload_n 0, 1) := by decide +kernel
theorem dX0_takeIn_20 : decode cX0_takeIn 20 = .ok (.dup, 1) := by decide +kernel
theorem dX0_takeIn_21 : decode cX0_takeIn 21 = .ok (.getfield 93, 3) := by decide +kernel
theorem dX0_takeIn_24 : decode cX0_takeIn 24 = .ok (.iload_n 3, 1) := by decide +kernel
theorem dX0_takeIn_25 : decode cX0_takeIn 25 = .ok (.iadd, 1) := by decide +kernel
theorem dX0_takeIn_26 : decode cX0_takeIn 26 = .ok (.putfield 93, 3) := by decide +kernel
theorem dX0_takeIn_29 : decode cX0_takeIn 29 = .ok (.aload_n 1, 1) := by decide +kernel
theorem dX0_takeIn_30 : decode cX0_takeIn 30 = .ok (.dup, 1) := by decide +kernel
theorem dX0_takeIn_31 : decode cX0_takeIn 31 = .ok (.getfield 105, 3) := by decide +kernel
theorem dX0_takeIn_34 : decode cX0_takeIn 34 = .ok (.iload_n 2, 1) := by decide +kernel
theorem dX0_takeIn_35 : decode cX0_takeIn 35 = .ok (.iload_n 3, 1) := by decide +kernel
theorem dX0_takeIn_36 : decode cX0_takeIn 36 = .ok (.isub, 1) := by decide +kernel
theorem dX0_takeIn_37 : decode cX0_takeIn 37 = .ok (.iadd, 1) := by decide +kernel
theorem dX0_takeIn_38 : decode cX0_takeIn 38 = .ok (.putfield 105, 3) := by decide +kernel
theorem dX0_takeIn_41 : decode cX0_takeIn 41 = .ok (.return_, 1) := by decide +kernel
theorem dX0_takeBack_0 : decode cX0_takeBack 0 = .ok (.aload_n 0, 1) := by decide +kernel
theorem dX0_takeBack_1 : decode cX0_takeBack 1 = .ok (.aload_n 1, 1) := by decide +kernel
theorem dX0_takeBack_2 : decode cX0_takeBack 2 = .ok (.invokevirtual 108, 3) := by decide +kernel
theorem dX0_takeBack_5 : decode cX0_takeBack 5 = .ok (.iload_n 2, 1) := by decide +kernel
theorem dX0_takeBack_6 : decode cX0_takeBack 6 = .ok (.invokestatic 99, 3) := by decide +kernel
theorem dX0_takeBack_9 : decode cX0_takeBack 9 = .ok (.istore_n 3, 1) := by decide +kernel
theorem dX0_takeBack_10 : decode cX0_takeBack 10 = .ok (.aload_n 1, 1) := by decide +kernel
theorem dX0_takeBack_11 : decode cX0_takeBack 11 = .ok (.dup, 1) := by decide +kernel
theorem dX0_takeBack_12 : decode cX0_takeBack 12 = .ok (.getfield 105, 3) := by decide +kernel
theorem dX0_takeBack_15 : decode cX0_takeBack 15 = .ok (.iload_n 3, 1) := by decide +kernel
theorem dX0_takeBack_16 : decode cX0_takeBack 16 = .ok (.isub, 1) := by decide +kernel
theorem dX0_takeBack_17 : decode cX0_takeBack 17 = .ok (.putfield 105, 3) := by decide +kernel
theorem dX0_takeBack_20 : decode cX0_takeBack 20 = .ok (.aload_n 1, 1) := by decide +kernel
theorem dX0_takeBack_21 : decode cX0_takeBack 21 = .ok (.dup, 1) := by decide +kernel
theorem dX0_takeBack_22 : decode cX0_takeBack 22 = .ok (.getfield 96, 3) := by decide +kernel
theorem dX0_takeBack_25 : decode cX0_takeBack 25 = .ok (.iload_n 2, 1) := by decide +kernel
theorem dX0_takeBack_26 : decode cX0_takeBack 26 = .ok (.iload_n 3, 1) := by decide +kernel
theorem dX0_takeBack_27 : decode cX0_takeBack 27 = .ok (.isub, 1) := by decide +kernel
theorem dX0_takeBack_28 : decode cX0_takeBack 28 = .ok (.iadd, 1) := by decide +kernel
theorem dX0_takeBack_29 : decode cX0_takeBack 29 = .ok (.putfield 96, 3) := by decide +kernel
theorem dX0_takeBack_32 : decode cX0_takeBack 32 = .ok (.iload_n 2, 1) := by decide +kernel
theorem dX0_takeBack_33 : decode cX0_takeBack 33 = .ok (.iload_n 3, 1) := by decide +kernel
theorem dX0_takeBack_34 : decode cX0_takeBack 34 = .ok (.isub, 1) := by decide +kernel
theorem dX0_takeBack_35 : decode cX0_takeBack 35 = .ok (.ireturn, 1) := by decide +kernel
theorem dX0_mayLoad_0 : decode cX0_mayLoad 0 = .ok (.aload_n 1, 1) := by decide +kernel
theorem dX0_mayLoad_1 : decode cX0_mayLoad 1 = .ok (.getfield 105, 3) := by decide +kernel
theorem dX0_mayLoad_4 : decode cX0_mayLoad 4 = .ok (.ldc 112, 2) := by decide +kernel
theorem dX0_mayLoad_6 : decode cX0_mayLoad 6 = .ok (.iload_n 2, 1) := by decide +kernel
theorem dX0_mayLoad_7 : decode cX0_mayLoad 7 = .ok (.isub, 1) := by decide +kernel
theorem dX0_mayLoad_8 : decode cX0_mayLoad 8 = .ok (.if_icmp .gt 7, 3) := by decide +kernel
theorem dX0_mayLoad_11 : decode cX0_mayLoad 11 = .ok (.iconst 1, 1) := by decide +kernel
theorem dX0_mayLoad_12 : decode cX0_mayLoad 12 = .ok (.goto 4, 3) := by decide +kernel
theorem dX0_mayLoad_15 : decode cX0_mayLoad 15 = .ok (.iconst 0, 1) := by decide +kernel
theorem dX0_mayLoad_16 : decode cX0_mayLoad 16 = .ok (.ireturn, 1) := by decide +kernel
theorem dX0_addLoad_0 : decode cX0_addLoad 0 = .ok (.aload_n 0, 1) := by decide +kernel
theorem dX0_addLoad_1 : decode cX0_addLoad 1 = .ok (.dup, 1) := by decide +kernel
theorem dX0_addLoad_2 : decode cX0_addLoad 2 = .ok (.getfield 78, 3) := by decide +kernel
theorem dX0_addLoad_5 : decode cX0_addLoad 5 = .ok (.iload_n 2, 1) := by decide +kernel
theorem dX0_addLoad_6 : decode cX0_addLoad 6 = .ok (.iadd, 1) := by decide +kernel
theorem dX0_addLoad_7 : decode cX0_addLoad 7 = .ok (.putfield 78, 3) := by decide +kernel
theorem dX0_addLoad_10 : decode cX0_addLoad 10 = .ok (.aload_n 0, 1) := by decide +kernel
theorem dX0_addLoad_11 : decode cX0_addLoad 11 = .ok (.aload_n 1, 1) := by decide +kernel
theorem dX0_addLoad_12 : decode cX0_addLoad 12 = .ok (.iload_n 2, 1) := by decide +kernel
theorem dX0_addLoad_13 : decode cX0_addLoad 13 = .ok (.invokevirtual 113, 3) := by decide +kernel
theorem dX0_addLoad_16 : decode cX0_addLoad 16 = .ok (.return_, 1) := by decide +kernel
theorem dX0_payOut_0 : decode cX0_payOut 0 = .ok (.aload_n 1, 1) := by decide +kernel
theorem dX0_payOut_1 : decode cX0_payOut 1 = .ok (.getfield 105, 3) := by decide +kernel
theorem dX0_payOut_4 : decode cX0_payOut 4 = .ok (.istore_n 2, 1) := by decide +kernel
theorem dX0_payOut_5 : decode cX0_payOut 5 = .ok (.aload_n 1, 1) := by decide +kernel
theorem dX0_payOut_6 : decode cX0_payOut 6 = .ok (.iconst 0, 1) := by decide +kernel
theorem dX0_payOut_7 : decode cX0_payOut 7 = .ok (.putfield 105, 3) := by decide +kernel
theorem dX0_payOut_10 : decode cX0_payOut 10 = .ok (.aload_n 0, 1) := by decide +kernel
theorem dX0_payOut_11 : decode cX0_payOut 11 = .ok (.dup, 1) := by decide +kernel
theorem dX0_payOut_12 : decode cX0_payOut 12 = .ok (.getfield 81, 3) := by decide +kernel
theorem dX0_payOut_15 : decode cX0_payOut 15 = .ok (.iload_n 2, 1) := by decide +kernel
theorem dX0_payOut_16 : decode cX0_payOut 16 = .ok (.iadd, 1) := by decide +kernel
theorem dX0_payOut_17 : decode cX0_payOut 17 = .ok (.putfield 81, 3) := by decide +kernel
theorem dX0_payOut_20 : decode cX0_payOut 20 = .ok (.iload_n 2, 1) := by decide +kernel
theorem dX0_payOut_21 : decode cX0_payOut 21 = .ok (.ireturn, 1) := by decide +kernel
theorem dX0_freeOf_0 : decode cX0_freeOf 0 = .ok (.aload_n 1, 1) := by decide +kernel
theorem dX0_freeOf_1 : decode cX0_freeOf 1 = .ok (.getfield 105, 3) := by decide +kernel
theorem dX0_freeOf_4 : decode cX0_freeOf 4 = .ok (.aload_n 0, 1) := by decide +kernel
theorem dX0_freeOf_5 : decode cX0_freeOf 5 = .ok (.aload_n 1, 1) := by decide +kernel
theorem dX0_freeOf_6 : decode cX0_freeOf 6 = .ok (.invokevirtual 117, 3) := by decide +kernel
theorem dX0_freeOf_9 : decode cX0_freeOf 9 = .ok (.isub, 1) := by decide +kernel
theorem dX0_freeOf_10 : decode cX0_freeOf 10 = .ok (.ireturn, 1) := by decide +kernel
theorem dX0_keptIn_0 : decode cX0_keptIn 0 = .ok (.iconst 0, 1) := by decide +kernel
theorem dX0_keptIn_1 : decode cX0_keptIn 1 = .ok (.istore_n 2, 1) := by decide +kernel
theorem dX0_keptIn_2 : decode cX0_keptIn 2 = .ok (.iconst 0, 1) := by decide +kernel
theorem dX0_keptIn_3 : decode cX0_keptIn 3 = .ok (.istore_n 3, 1) := by decide +kernel
theorem dX0_keptIn_4 : decode cX0_keptIn 4 = .ok (.iload_n 3, 1) := by decide +kernel
theorem dX0_keptIn_5 : decode cX0_keptIn 5 = .ok (.aload_n 0, 1) := by decide +kernel
theorem dX0_keptIn_6 : decode cX0_keptIn 6 = .ok (.getfield 66, 3) := by decide +kernel
theorem dX0_keptIn_9 : decode cX0_keptIn 9 = .ok (.if_icmp .ge 34, 3) := by decide +kernel
theorem dX0_keptIn_12 : decode cX0_keptIn 12 = .ok (.aload_n 0, 1) := by decide +kernel
theorem dX0_keptIn_13 : decode cX0_keptIn 13 = .ok (.getfield 37, 3) := by decide +kernel
theorem dX0_keptIn_16 : decode cX0_keptIn 16 = .ok (.iload_n 3, 1) := by decide +kernel
theorem dX0_keptIn_17 : decode cX0_keptIn 17 = .ok (.aaload, 1) := by decide +kernel
theorem dX0_keptIn_18 : decode cX0_keptIn 18 = .ok (.aload_n 1, 1) := by decide +kernel
theorem dX0_keptIn_19 : decode cX0_keptIn 19 = .ok (.invokevirtual 120, 3) := by decide +kernel
theorem dX0_keptIn_22 : decode cX0_keptIn 22 = .ok (.ifCond .eq 15, 3) := by decide +kernel
theorem dX0_keptIn_25 : decode cX0_keptIn 25 = .ok (.iload_n 2, 1) := by decide +kernel
theorem dX0_keptIn_26 : decode cX0_keptIn 26 = .ok (.aload_n 0, 1) := by decide +kernel
theorem dX0_keptIn_27 : decode cX0_keptIn 27 = .ok (.getfield 37, 3) := by decide +kernel
theorem dX0_keptIn_30 : decode cX0_keptIn 30 = .ok (.iload_n 3, 1) := by decide +kernel
theorem dX0_keptIn_31 : decode cX0_keptIn 31 = .ok (.aaload, 1) := by decide +kernel
theorem dX0_keptIn_32 : decode cX0_keptIn 32 = .ok (.getfield 124, 3) := by decide +kernel
theorem dX0_keptIn_35 : decode cX0_keptIn 35 = .ok (.iadd, 1) := by decide +kernel
theorem dX0_keptIn_36 : decode cX0_keptIn 36 = .ok (.istore_n 2, 1) := by decide +kernel
theorem dX0_keptIn_37 : decode cX0_keptIn 37 = .ok (.iinc 3 1, 3) := by decide +kernel
theorem dX0_keptIn_40 : decode cX0_keptIn 40 = .ok (.goto (-36), 3) := by decide +kernel
theorem dX0_keptIn_43 : decode cX0_keptIn 43 = .ok (.iload_n 2, 1) := by decide +kernel
theorem dX0_keptIn_44 : decode cX0_keptIn 44 = .ok (.ireturn, 1) := by decide +kernel
theorem dX0_isLocked_0 : decode cX0_isLocked 0 = .ok (.aload_n 1, 1) := by decide +kernel
theorem dX0_isLocked_1 : decode cX0_isLocked 1 = .ok (.getfield 127, 3) := by decide +kernel
theorem dX0_isLocked_4 : decode cX0_isLocked 4 = .ok (.aload_n 0, 1) := by decide +kernel
theorem dX0_isLocked_5 : decode cX0_isLocked 5 = .ok (.getfield 52, 3) := by decide +kernel
theorem dX0_isLocked_8 : decode cX0_isLocked 8 = .ok (.if_icmp .lt 7, 3) := by decide +kernel
theorem dX0_isLocked_11 : decode cX0_isLocked 11 = .ok (.iconst 1, 1) := by decide +kernel
theorem dX0_isLocked_12 : decode cX0_isLocked 12 = .ok (.goto 4, 3) := by decide +kernel
theorem dX0_isLocked_15 : decode cX0_isLocked 15 = .ok (.iconst 0, 1) := by decide +kernel
theorem dX0_isLocked_16 : decode cX0_isLocked 16 = .ok (.ireturn, 1) := by decide +kernel
theorem dX0_rateOf_0 : decode cX0_rateOf 0 = .ok (.aload_n 0, 1) := by decide +kernel
theorem dX0_rateOf_1 : decode cX0_rateOf 1 = .ok (.aload_n 1, 1) := by decide +kernel
theorem dX0_rateOf_2 : decode cX0_rateOf 2 = .ok (.invokevirtual 130, 3) := by decide +kernel
theorem dX0_rateOf_5 : decode cX0_rateOf 5 = .ok (.ifCond .eq 10, 3) := by decide +kernel
theorem dX0_rateOf_8 : decode cX0_rateOf 8 = .ok (.aload_n 1, 1) := by decide +kernel
theorem dX0_rateOf_9 : decode cX0_rateOf 9 = .ok (.getfield 133, 3) := by decide +kernel
theorem dX0_rateOf_12 : decode cX0_rateOf 12 = .ok (.goto 12, 3) := by decide +kernel
theorem dX0_rateOf_15 : decode cX0_rateOf 15 = .ok (.aload_n 0, 1) := by decide +kernel
theorem dX0_rateOf_16 : decode cX0_rateOf 16 = .ok (.getfield 26, 3) := by decide +kernel
theorem dX0_rateOf_19 : decode cX0_rateOf 19 = .ok (.aload_n 1, 1) := by decide +kernel
theorem dX0_rateOf_20 : decode cX0_rateOf 20 = .ok (.getfield 136, 3) := by decide +kernel
theorem dX0_rateOf_23 : decode cX0_rateOf 23 = .ok (.iaload, 1) := by decide +kernel
theorem dX0_rateOf_24 : decode cX0_rateOf 24 = .ok (.ireturn, 1) := by decide +kernel
theorem dX0_isPair_0 : decode cX0_isPair 0 = .ok (.aload_n 1, 1) := by decide +kernel
theorem dX0_isPair_1 : decode cX0_isPair 1 = .ok (.getfield 136, 3) := by decide +kernel
theorem dX0_isPair_4 : decode cX0_isPair 4 = .ok (.aload_n 2, 1) := by decide +kernel
theorem dX0_isPair_5 : decode cX0_isPair 5 = .ok (.getfield 136, 3) := by decide +kernel
theorem dX0_isPair_8 : decode cX0_isPair 8 = .ok (.if_icmp .eq 21, 3) := by decide +kernel
theorem dX0_isPair_11 : decode cX0_isPair 11 = .ok (.aload_n 1, 1) := by decide +kernel
theorem dX0_isPair_12 : decode cX0_isPair 12 = .ok (.getfield 136, 3) := by decide +kernel
theorem dX0_isPair_15 : decode cX0_isPair 15 = .ok (.ifCond .eq 10, 3) := by decide +kernel
theorem dX0_isPair_18 : decode cX0_isPair 18 = .ok (.aload_n 2, 1) := by decide +kernel
theorem dX0_isPair_19 : decode cX0_isPair 19 = .ok (.getfield 136, 3) := by decide +kernel
theorem dX0_isPair_22 : decode cX0_isPair 22 = .ok (.ifCond .ne 7, 3) := by decide +kernel
theorem dX0_isPair_25 : decode cX0_isPair 25 = .ok (.iconst 1, 1) := by decide +kernel
theorem dX0_isPair_26 : decode cX0_isPair 26 = .ok (.goto 4, 3) := by decide +kernel
theorem dX0_isPair_29 : decode cX0_isPair 29 = .ok (.iconst 0, 1) := by decide +kernel
theorem dX0_isPair_30 : decode cX0_isPair 30 = .ok (.ireturn, 1) := by decide +kernel
theorem dX0_grossOf_0 : decode cX0_grossOf 0 = .ok (.aload_n 2, 1) := by decide +kernel
theorem dX0_grossOf_1 : decode cX0_grossOf 1 = .ok (.getfield 136, 3) := by decide +kernel
theorem dX0_grossOf_4 : decode cX0_grossOf 4 = .ok (.ifCond .ne 17, 3) := by decide +kernel
theorem dX0_grossOf_7 : decode cX0_grossOf 7 = .ok (.iload_n 3, 1) := by decide +kernel
theorem dX0_grossOf_8 : decode cX0_grossOf 8 = .ok (.i2l, 1) := by decide +kernel
theorem dX0_grossOf_9 : decode cX0_grossOf 9 = .ok (.aload_n 0, 1) := by decide +kernel
theorem dX0_grossOf_10 : decode cX0_grossOf 10 = .ok (.aload_n 1, 1) := by decide +kernel
theorem dX0_grossOf_11 : decode cX0_grossOf 11 = .ok (.invokevirtual 139, 3) := by decide +kernel
theorem dX0_grossOf_14 : decode cX0_grossOf 14 = .ok (.i2l, 1) := by decide +kernel
theorem dX0_grossOf_15 : decode cX0_grossOf 15 = .ok (.lmul, 1) := by decide +kernel
theorem dX0_grossOf_16 : decode cX0_grossOf 16 = .ok (.ldc2_w 142, 3) := by decide +kernel
theorem dX0_grossOf_19 : decode cX0_grossOf 19 = .ok (.ldiv, 1) := by decide +kernel
theorem dX0_grossOf_20 : decode cX0_grossOf 20 = .ok (.lreturn, 1) := by decide +kernel
theorem dX0_grossOf_21 : decode cX0_grossOf 21 = .ok (.aload_n 0, 1) := by decide +kernel
theorem dX0_grossOf_22 : decode cX0_grossOf 22 = .ok (.aload_n 2, 1) := by decide +kernel
theorem dX0_grossOf_23 : decode cX0_grossOf 23 = .ok (.invokevirtual 139, 3) := by decide +kernel
theorem dX0_grossOf_26 : decode cX0_grossOf 26 = .ok (.istore 4, 2) := by decide +kernel
theorem dX0_grossOf_28 : decode cX0_grossOf 28 = .ok (.iload 4, 2) := by decide +kernel
theorem dX0_grossOf_30 : decode cX0_grossOf 30 = .ok (.ifCond .le 16, 3) := by decide +kernel
theorem dX0_grossOf_33 : decode cX0_grossOf 33 = .ok (.iload_n 3, 1) := by decide +kernel
theorem dX0_grossOf_34 : decode cX0_grossOf 34 = .ok (.i2l, 1) := by decide +kernel
theorem dX0_grossOf_35 : decode cX0_grossOf 35 = .ok (.ldc2_w 142, 3) := by decide +kernel
theorem dX0_grossOf_38 : decode cX0_grossOf 38 = .ok (.lmul, 1) := by decide +kernel
theorem dX0_grossOf_39 : decode cX0_grossOf 39 = .ok (.iload 4, 2) := by decide +kernel
theorem dX0_grossOf_41 : decode cX0_grossOf 41 = .ok (.i2l, 1) := by decide +kernel
theorem dX0_grossOf_42 : decode cX0_grossOf 42 = .ok (.ldiv, 1) := by decide +kernel
theorem dX0_grossOf_43 : decode cX0_grossOf 43 = .ok (.goto 4, 3) := by decide +kernel
theorem dX0_grossOf_46 : decode cX0_grossOf 46 = .ok (.lconst 0, 1) := by decide +kernel
theorem dX0_grossOf_47 : decode cX0_grossOf 47 = .ok (.lreturn, 1) := by decide +kernel
theorem dX0_spreadOf_0 : decode cX0_spreadOf 0 = .ok (.lload_n 1, 1) := by decide +kernel
theorem dX0_spreadOf_1 : decode cX0_spreadOf 1 = .ok (.aload_n 0, 1) := by decide +kernel
theorem dX0_spreadOf_2 : decode cX0_spreadOf 2 = .ok (.getfield 18, 3) := by decide +kernel
theorem dX0_spreadOf_5 : decode cX0_spreadOf 5 = .ok (.iconst 1, 1) := by decide +kernel
theorem dX0_spreadOf_6 : decode cX0_spreadOf 6 = .ok (.iaload, 1) := by decide +kernel
theorem dX0_spreadOf_7 : decode cX0_spreadOf 7 = .ok (.i2l, 1) := by decide +kernel
theorem dX0_spreadOf_8 : decode cX0_spreadOf 8 = .ok (.lmul, 1) := by decide +kernel
theorem dX0_spreadOf_9 : decode cX0_spreadOf 9 = .ok (.ldc2_w 142, 3) := by decide +kernel
theorem dX0_spreadOf_12 : decode cX0_spreadOf 12 = .ok (.ldiv, 1) := by decide +kernel
theorem dX0_spreadOf_13 : decode cX0_spreadOf 13 = .ok (.l2i, 1) := by decide +kernel
theorem dX0_spreadOf_14 : decode cX0_spreadOf 14 = .ok (.ireturn, 1) := by decide +kernel
theorem dX0_netOf_0 : decode cX0_netOf 0 = .ok (.aload_n 0, 1) := by decide +kernel
theorem dX0_netOf_1 : decode cX0_netOf 1 = .ok (.aload_n 1, 1) := by decide +kernel
theorem dX0_netOf_2 : decode cX0_netOf 2 = .ok (.aload_n 2, 1) := by decide +kernel
theorem dX0_netOf_3 : decode cX0_netOf 3 = .ok (.iload_n 3, 1) := by decide +kernel
theorem dX0_netOf_4 : decode cX0_netOf 4 = .ok (.invokevirtual 144, 3) := by decide +kernel
theorem dX0_netOf_7 : decode cX0_netOf 7 = .ok (.lstore 4, 2) := by decide +kernel
theorem dX0_netOf_9 : decode cX0_netOf 9 = .ok (.lload 4, 2) := by decide +kernel
theorem dX0_netOf_11 : decode cX0_netOf 11 = .ok (.l2i, 1) := by decide +kernel
theorem dX0_netOf_12 : decode cX0_netOf 12 = .ok (.aload_n 0, 1) := by decide +kernel
theorem dX0_netOf_13 : decode cX0_netOf 13 = .ok (.lload 4, 2) := by decide +kernel
theorem dX0_netOf_15 : decode cX0_netOf 15 = .ok (.invokevirtual 148, 3) := by decide +kernel
theorem dX0_netOf_18 : decode cX0_netOf 18 = .ok (.isub, 1) := by decide +kernel
theorem dX0_netOf_19 : decode cX0_netOf 19 = .ok (.ireturn, 1) := by decide +kernel
theorem dX0_convert_0 : decode cX0_convert 0 = .ok (.aload_n 0, 1) := by decide +kernel
theorem dX0_convert_1 : decode cX0_convert 1 = .ok (.aload_n 1, 1) := by decide +kernel
theorem dX0_convert_2 : decode cX0_convert 2 = .ok (.aload_n 2, 1) := by decide +kernel
theorem dX0_convert_3 : decode cX0_convert 3 = .ok (.iload_n 3, 1) := by decide +kernel
theorem dX0_convert_4 : decode cX0_convert 4 = .ok (.invokevirtual 144, 3) := by decide +kernel
theorem dX0_convert_7 : decode cX0_convert 7 = .ok (.lstore 4, 2) := by decide +kernel
theorem dX0_convert_9 : decode cX0_convert 9 = .ok (.aload_n 0, 1) := by decide +kernel
theorem dX0_convert_10 : decode cX0_convert 10 = .ok (.lload 4, 2) := by decide +kernel
theorem dX0_convert_12 : decode cX0_convert 12 = .ok (.invokevirtual 148, 3) := by decide +kernel
theorem dX0_convert_15 : decode cX0_convert 15 = .ok (.istore 6, 2) := by decide +kernel
theorem dX0_convert_17 : decode cX0_convert 17 = .ok (.lload 4, 2) := by decide +kernel
theorem dX0_convert_19 : decode cX0_convert 19 = .ok (.l2i, 1) := by decide +kernel
theorem dX0_convert_20 : decode cX0_convert 20 = .ok (.iload 6, 2) := by decide +kernel
theorem dX0_convert_22 : decode cX0_convert 22 = .ok (.isub, 1) := by decide +kernel
theorem dX0_convert_23 : decode cX0_convert 23 = .ok (.istore 7, 2) := by decide +kernel
theorem dX0_convert_25 : decode cX0_convert 25 = .ok (.aload_n 0, 1) := by decide +kernel
theorem dX0_convert_26 : decode cX0_convert 26 = .ok (.dup, 1) := by decide +kernel
theorem dX0_convert_27 : decode cX0_convert 27 = .ok (.getfield 84, 3) := by decide +kernel
theorem dX0_convert_30 : decode cX0_convert 30 = .ok (.iconst 1, 1) := by decide +kernel
theorem dX0_convert_31 : decode cX0_convert 31 = .ok (.iadd, 1) := by decide +kernel
theorem dX0_convert_32 : decode cX0_convert 32 = .ok (.putfield 84, 3) := by decide +kernel
theorem dX0_convert_35 : decode cX0_convert 35 = .ok (.aload_n 2, 1) := by decide +kernel
theorem dX0_convert_36 : decode cX0_convert 36 = .ok (.getfield 136, 3) := by decide +kernel
theorem dX0_convert_39 : decode cX0_convert 39 = .ok (.ifCond .ne 17, 3) := by decide +kernel
theorem dX0_convert_42 : decode cX0_convert 42 = .ok (.aload_n 0, 1) := by decide +kernel
theorem dX0_convert_43 : decode cX0_convert 43 = .ok (.dup, 1) := by decide +kernel
theorem dX0_convert_44 : decode cX0_convert 44 = .ok (.getfield 87, 3) := by decide +kernel
theorem dX0_convert_47 : decode cX0_convert 47 = .ok (.iload 6, 2) := by decide +kernel
theorem dX0_convert_49 : decode cX0_convert 49 = .ok (.iadd, 1) := by decide +kernel
theorem dX0_convert_50 : decode cX0_convert 50 = .ok (.putfield 87, 3) := by decide +kernel
theorem dX0_convert_53 : decode cX0_convert 53 = .ok (.goto 14, 3) := by decide +kernel
theorem dX0_convert_56 : decode cX0_convert 56 = .ok (.aload_n 0, 1) := by decide +kernel
theorem dX0_convert_57 : decode cX0_convert 57 = .ok (.dup, 1) := by decide +kernel
theorem dX0_convert_58 : decode cX0_convert 58 = .ok (.getfield 90, 3) := by decide +kernel
theorem dX0_convert_61 : decode cX0_convert 61 = .ok (.iload 6, 2) := by decide +kernel
theorem dX0_convert_63 : decode cX0_convert 63 = .ok (.iadd, 1) := by decide +kernel
theorem dX0_convert_64 : decode cX0_convert 64 = .ok (.putfield 90, 3) := by decide +kernel
theorem dX0_convert_67 : decode cX0_convert 67 = .ok (.aload_n 1, 1) := by decide +kernel
theorem dX0_convert_68 : decode cX0_convert 68 = .ok (.dup, 1) := by decide +kernel
theorem dX0_convert_69 : decode cX0_convert 69 = .ok (.getfield 105, 3) := by decide +kernel
theorem dX0_convert_72 : decode cX0_convert 72 = .ok (.iload_n 3, 1) := by decide +kernel
theorem dX0_convert_73 : decode cX0_convert 73 = .ok (.isub, 1) := by decide +kernel
theorem dX0_convert_74 : decode cX0_convert 74 = .ok (.putfield 105, 3) := by decide +kernel
theorem dX0_convert_77 : decode cX0_convert 77 = .ok (.aload_n 0, 1) := by decide +kernel
theorem dX0_convert_78 : decode cX0_convert 78 = .ok (.aload_n 2, 1) := by decide +kernel
theorem dX0_convert_79 : decode cX0_convert 79 = .ok (.iload 7, 2) := by decide +kernel
theorem dX0_convert_81 : decode cX0_convert 81 = .ok (.invokevirtual 113, 3) := by decide +kernel
theorem dX0_convert_84 : decode cX0_convert 84 = .ok (.iload 7, 2) := by decide +kernel
theorem dX0_convert_86 : decode cX0_convert 86 = .ok (.ireturn, 1) := by decide +kernel
theorem dX0_exchangeReason_0 : decode cX0_exchangeReason 0 = .ok (.aload_n 0, 1) := by decide +kernel
theorem dX0_exchangeReason_1 : decode cX0_exchangeReason 1 = .ok (.aload_n 1, 1) := by decide +kernel
theorem dX0_exchangeReason_2 : decode cX0_exchangeReason 2 = .ok (.aload_n 2, 1) := by decide +kernel
theorem dX0_exchangeReason_3 : decode cX0_exchangeReason 3 = .ok (.invokevirtual 152, 3) := by decide +kernel
theorem dX0_exchangeReason_6 : decode cX0_exchangeReason 6 = .ok (.ifCond .ne 5, 3) := by decide +kernel
theorem dX0_exchangeReason_9 : decode cX0_exchangeReason 9 = .ok (.iconst 1, 1) := by decide +kernel
theorem dX0_exchangeReason_10 : decode cX0_exchangeReason 10 = .ok (.ireturn, 1) := by decide +kernel
theorem dX0_exchangeReason_11 : decode cX0_exchangeReason 11 = .ok (.aload_n 0, 1) := by decide +kernel
theorem dX0_exchangeReason_12 : decode cX0_exchangeReason 12 = .ok (.aload_n 1, 1) := by decide +kernel
theorem dX0_exchangeReason_13 : decode cX0_exchangeReason 13 = .ok (.invokevirtual 108, 3) := by decide +kernel
theorem dX0_exchangeReason_16 : decode cX0_exchangeReason 16 = .ok (.iload_n 3, 1) := by decide +kernel
theorem dX0_exchangeReason_17 : decode cX0_exchangeReason 17 = .ok (.if_icmp .ge 7, 3) := by decide +kernel
theorem dX0_exchangeReason_20 : decode cX0_exchangeReason 20 = .ok (.iconst 2, 1) := by decide +kernel
theorem dX0_exchangeReason_21 : decode cX0_exchangeReason 21 = .ok (.goto 4, 3) := by decide +kernel
theorem dX0_exchangeReason_24 : decode cX0_exchangeReason 24 = .ok (.iconst 0, 1) := by decide +kernel
theorem dX0_exchangeReason_25 : decode cX0_exchangeReason 25 = .ok (.ireturn, 1) := by decide +kernel
theorem dX0_holdReason_0 : decode cX0_holdReason 0 = .ok (.aload_n 0, 1) := by decide +kernel
theorem dX0_holdReason_1 : decode cX0_holdReason 1 = .ok (.aload_n 1, 1) := by decide +kernel
theorem dX0_holdReason_2 : decode cX0_holdReason 2 = .ok (.invokevirtual 108, 3) := by decide +kernel
theorem dX0_holdReason_5 : decode cX0_holdReason 5 = .ok (.aload_n 0, 1) := by decide +kernel
theorem dX0_holdReason_6 : decode cX0_holdReason 6 = .ok (.iload_n 2, 1) := by decide +kernel
theorem dX0_holdReason_7 : decode cX0_holdReason 7 = .ok (.invokevirtual 156, 3) := by decide +kernel
theorem dX0_holdReason_10 : decode cX0_holdReason 10 = .ok (.if_icmp .ge 5, 3) := by decide +kernel
theorem dX0_holdReason_13 : decode cX0_holdReason 13 = .ok (.iconst 2, 1) := by decide +kernel
theorem dX0_holdReason_14 : decode cX0_holdReason 14 = .ok (.ireturn, 1) := by decide +kernel
theorem dX0_holdReason_15 : decode cX0_holdReason 15 = .ok (.aload_n 0, 1) := by decide +kernel
theorem dX0_holdReason_16 : decode cX0_holdReason 16 = .ok (.getfield 66, 3) := by decide +kernel
theorem dX0_holdReason_19 : decode cX0_holdReason 19 = .ok (.bipush 8, 2) := by decide +kernel
theorem dX0_holdReason_21 : decode cX0_holdReason 21 = .ok (.if_icmp .lt 7, 3) := by decide +kernel
theorem dX0_holdReason_24 : decode cX0_holdReason 24 = .ok (.iconst 3, 1) := by decide +kernel
theorem dX0_holdReason_25 : decode cX0_holdReason 25 = .ok (.goto 4, 3) := by decide +kernel
theorem dX0_holdReason_28 : decode cX0_holdReason 28 = .ok (.iconst 0, 1) := by decide +kernel
theorem dX0_holdReason_29 : decode cX0_holdReason 29 = .ok (.ireturn, 1) := by decide +kernel
theorem dX0_closingReason_0 : decode cX0_closingReason 0 = .ok (.iconst 0, 1) := by decide +kernel
theorem dX0_closingReason_1 : decode cX0_closingReason 1 = .ok (.istore_n 2, 1) := by decide +kernel
theorem dX0_closingReason_2 : decode cX0_closingReason 2 = .ok (.iload_n 2, 1) := by decide +kernel
theorem dX0_closingReason_3 : decode cX0_closingReason 3 = .ok (.aload_n 0, 1) := by decide +kernel
theorem dX0_closingReason_4 : decode cX0_closingReason 4 = .ok (.getfield 66, 3) := by decide +kernel
theorem dX0_closingReason_7 : decode cX0_closingReason 7 = .ok (.if_icmp .ge 24, 3) := by decide +kernel
theorem dX0_closingReason_10 : decode cX0_closingReason 10 = .ok (.aload_n 0, 1) := by decide +kernel
theorem dX0_closingReason_11 : decode cX0_closingReason 11 = .ok (.getfield 37, 3) := by decide +kernel
theorem dX0_closingReason_14 : decode cX0_closingReason 14 = .ok (.iload_n 2, 1) := by decide +kernel
theorem dX0_closingReason_15 : decode cX0_closingReason 15 = .ok (.aaload, 1) := by decide +kernel
theorem dX0_closingReason_16 : decode cX0_closingReason 16 = .ok (.getfield 160, 3) := by decide +kernel
theorem dX0_closingReason_19 : decode cX0_closingReason 19 = .ok (.iload_n 1, 1) := by decide +kernel
theorem dX0_closingReason_20 : decode cX0_closingReason 20 = .ok (.if_icmp .ne 5, 3) := by decide +kernel
theorem dX0_closingReason_23 : decode cX0_closingReason 23 = .ok (.iconst 4, 1) := by decide +kernel
theorem dX0_closingReason_24 : decode cX0_closingReason 24 = .ok (.ireturn, 1) := by decide +kernel
theorem dX0_closingReason_25 : decode cX0_closingReason 25 = .ok (.iinc 2 1, 3) := by decide +kernel
theorem dX0_closingReason_28 : decode cX0_closingReason 28 = .ok (.goto (-26), 3) := by decide +kernel
theorem dX0_closingReason_31 : decode cX0_closingReason 31 = .ok (.iconst 0, 1) := by decide +kernel
theorem dX0_closingReason_32 : decode cX0_closingReason 32 = .ok (.istore_n 2, 1) := by decide +kernel
theorem dX0_closingReason_33 : decode cX0_closingReason 33 = .ok (.iload_n 2, 1) := by decide +kernel
theorem dX0_closingReason_34 : decode cX0_closingReason 34 = .ok (.aload_n 0, 1) := by decide +kernel
theorem dX0_closingReason_35 : decode cX0_closingReason 35 = .ok (.getfield 72, 3) := by decide +kernel
theorem dX0_closingReason_38 : decode cX0_closingReason 38 = .ok (.if_icmp .ge 37, 3) := by decide +kernel
theorem dX0_closingReason_41 : decode cX0_closingReason 41 = .ok (.aload_n 0, 1) := by decide +kernel
theorem dX0_closingReason_42 : decode cX0_closingReason 42 = .ok (.getfield 43, 3) := by decide +kernel
theorem dX0_closingReason_45 : decode cX0_closingReason 45 = .ok (.iload_n 2, 1) := by decide +kernel
theorem dX0_closingReason_46 : decode cX0_closingReason 46 = .ok (.aaload, 1) := by decide +kernel
theorem dX0_closingReason_47 : decode cX0_closingReason 47 = .ok (.getfield 163, 3) := by decide +kernel
theorem dX0_closingReason_50 : decode cX0_closingReason 50 = .ok (.iload_n 1, 1) := by decide +kernel
theorem dX0_closingReason_51 : decode cX0_closingReason 51 = .ok (.if_icmp .ne 18, 3) := by decide +kernel
theorem dX0_closingReason_54 : decode cX0_closingReason 54 = .ok (.aload_n 0, 1) := by decide +kernel
theorem dX0_closingReason_55 : decode cX0_closingReason 55 = .ok (.getfield 43, 3) := by decide +kernel
theorem dX0_closingReason_58 : decode cX0_closingReason 58 = .ok (.iload_n 2, 1) := by decide +kernel
theorem dX0_closingReason_59 : decode cX0_closingReason 59 = .ok (.aaload, 1) := by decide +kernel
theorem dX0_closingReason_60 : decode cX0_closingReason 60 = .ok (.getfield 164, 3) := by decide +kernel
theorem dX0_closingReason_63 : decode cX0_closingReason 63 = .ok (.iconst 1, 1) := by decide +kernel
theorem dX0_closingReason_64 : decode cX0_closingReason 64 = .ok (.if_icmp .ne 5, 3) := by decide +kernel
theorem dX0_closingReason_67 : decode cX0_closingReason 67 = .ok (.iconst 5, 1) := by decide +kernel
theorem dX0_closingReason_68 : decode cX0_closingReason 68 = .ok (.ireturn, 1) := by decide +kernel
theorem dX0_closingReason_69 : decode cX0_closingReason 69 = .ok (.iinc 2 1, 3) := by decide +kernel
theorem dX0_closingReason_72 : decode cX0_closingReason 72 = .ok (.goto (-39), 3) := by decide +kernel
theorem dX0_closingReason_75 : decode cX0_closingReason 75 = .ok (.iconst 0, 1) := by decide +kernel
theorem dX0_closingReason_76 : decode cX0_closingReason 76 = .ok (.istore_n 2, 1) := by decide +kernel
theorem dX0_closingReason_77 : decode cX0_closingReason 77 = .ok (.iload_n 2, 1) := by decide +kernel
theorem dX0_closingReason_78 : decode cX0_closingReason 78 = .ok (.aload_n 0, 1) := by decide +kernel
theorem dX0_closingReason_79 : decode cX0_closingReason 79 = .ok (.getfield 31, 3) := by decide +kernel
theorem dX0_closingReason_82 : decode cX0_closingReason 82 = .ok (.arraylength, 1) := by decide +kernel
theorem dX0_closingReason_83 : decode cX0_closingReason 83 = .ok (.if_icmp .ge 37, 3) := by decide +kernel
theorem dX0_closingReason_86 : decode cX0_closingReason 86 = .ok (.aload_n 0, 1) := by decide +kernel
theorem dX0_closingReason_87 : decode cX0_closingReason 87 = .ok (.getfield 31, 3) := by decide +kernel
theorem dX0_closingReason_90 : decode cX0_closingReason 90 = .ok (.iload_n 2, 1) := by decide +kernel
theorem dX0_closingReason_91 : decode cX0_closingReason 91 = .ok (.aaload, 1) := by decide +kernel
theorem dX0_closingReason_92 : decode cX0_closingReason 92 = .ok (.getfield 167, 3) := by decide +kernel
theorem dX0_closingReason_95 : decode cX0_closingReason 95 = .ok (.iload_n 1, 1) := by decide +kernel
theorem dX0_closingReason_96 : decode cX0_closingReason 96 = .ok (.if_icmp .ne 18, 3) := by decide +kernel
theorem dX0_closingReason_99 : decode cX0_closingReason 99 = .ok (.aload_n 0, 1) := by decide +kernel
theorem dX0_closingReason_100 : decode cX0_closingReason 100 = .ok (.getfield 31, 3) := by decide +kernel
theorem dX0_closingReason_103 : decode cX0_closingReason 103 = .ok (.iload_n 2, 1) := by decide +kernel
theorem dX0_closingReason_104 : decode cX0_closingReason 104 = .ok (.aaload, 1) := by decide +kernel
theorem dX0_closingReason_105 : decode cX0_closingReason 105 = .ok (.getfield 96, 3) := by decide +kernel
theorem dX0_closingReason_108 : decode cX0_closingReason 108 = .ok (.ifCond .le 6, 3) := by decide +kernel
theorem dX0_closingReason_111 : decode cX0_closingReason 111 = .ok (.bipush 6, 2) := by decide +kernel
theorem dX0_closingReason_113 : decode cX0_closingReason 113 = .ok (.ireturn, 1) := by decide +kernel
theorem dX0_closingReason_114 : decode cX0_closingReason 114 = .ok (.iinc 2 1, 3) := by decide +kernel
theorem dX0_closingReason_117 : decode cX0_closingReason 117 = .ok (.goto (-40), 3) := by decide +kernel
theorem dX0_closingReason_120 : decode cX0_closingReason 120 = .ok (.iconst 0, 1) := by decide +kernel
theorem dX0_closingReason_121 : decode cX0_closingReason 121 = .ok (.ireturn, 1) := by decide +kernel
theorem dX0_withTip_0 : decode cX0_withTip 0 = .ok (.iload_n 1, 1) := by decide +kernel
theorem dX0_withTip_1 : decode cX0_withTip 1 = .ok (.iload_n 1, 1) := by decide +kernel
theorem dX0_withTip_2 : decode cX0_withTip 2 = .ok (.aload_n 0, 1) := by decide +kernel
theorem dX0_withTip_3 : decode cX0_withTip 3 = .ok (.getfield 18, 3) := by decide +kernel
theorem dX0_withTip_6 : decode cX0_withTip 6 = .ok (.iconst 2, 1) := by decide +kernel
theorem dX0_withTip_7 : decode cX0_withTip 7 = .ok (.iaload, 1) := by decide +kernel
theorem dX0_withTip_8 : decode cX0_withTip 8 = .ok (.imul, 1) := by decide +kernel
theorem dX0_withTip_9 : decode cX0_withTip 9 = .ok (.bipush 100, 2) := by decide +kernel
theorem dX0_withTip_11 : decode cX0_withTip 11 = .ok (.idiv, 1) := by decide +kernel
theorem dX0_withTip_12 : decode cX0_withTip 12 = .ok (.iadd, 1) := by decide +kernel
theorem dX0_withTip_13 : decode cX0_withTip 13 = .ok (.ireturn, 1) := by decide +kernel
theorem dX0_addHold_0 : decode cX0_addHold 0 = .ok (.aload_n 0, 1) := by decide +kernel
theorem dX0_addHold_1 : decode cX0_addHold 1 = .ok (.getfield 66, 3) := by decide +kernel
theorem dX0_addHold_4 : decode cX0_addHold 4 = .ok (.aload_n 0, 1) := by decide +kernel
theorem dX0_addHold_5 : decode cX0_addHold 5 = .ok (.getfield 37, 3) := by decide +kernel
theorem dX0_addHold_8 : decode cX0_addHold 8 = .ok (.arraylength, 1) := by decide +kernel
theorem dX0_addHold_9 : decode cX0_addHold 9 = .ok (.if_icmp .lt 5, 3) := by decide +kernel
theorem dX0_addHold_12 : decode cX0_addHold 12 = .ok (.iconst (-1), 1) := by decide +kernel
theorem dX0_addHold_13 : decode cX0_addHold 13 = .ok (.ireturn, 1) := by decide +kernel
theorem dX0_addHold_14 : decode cX0_addHold 14 = .ok (.aload_n 0, 1) := by decide +kernel
theorem dX0_addHold_15 : decode cX0_addHold 15 = .ok (.getfield 37, 3) := by decide +kernel
theorem dX0_addHold_18 : decode cX0_addHold 18 = .ok (.aload_n 0, 1) := by decide +kernel
theorem dX0_addHold_19 : decode cX0_addHold 19 = .ok (.getfield 66, 3) := by decide +kernel
theorem dX0_addHold_22 : decode cX0_addHold 22 = .ok (.aaload, 1) := by decide +kernel
theorem dX0_addHold_23 : decode cX0_addHold 23 = .ok (.astore_n 3, 1) := by decide +kernel
theorem dX0_addHold_24 : decode cX0_addHold 24 = .ok (.aload_n 3, 1) := by decide +kernel
theorem dX0_addHold_25 : decode cX0_addHold 25 = .ok (.aload_n 1, 1) := by decide +kernel
theorem dX0_addHold_26 : decode cX0_addHold 26 = .ok (.getfield 167, 3) := by decide +kernel
theorem dX0_addHold_29 : decode cX0_addHold 29 = .ok (.putfield 160, 3) := by decide +kernel
theorem dX0_addHold_32 : decode cX0_addHold 32 = .ok (.aload_n 3, 1) := by decide +kernel
theorem dX0_addHold_33 : decode cX0_addHold 33 = .ok (.aload_n 1, 1) := by decide +kernel
theorem dX0_addHold_34 : decode cX0_addHold 34 = .ok (.getfield 136, 3) := by decide +kernel
theorem dX0_addHold_37 : decode cX0_addHold 37 = .ok (.putfield 168, 3) := by decide +kernel
theorem dX0_addHold_40 : decode cX0_addHold 40 = .ok (.aload_n 3, 1) := by decide +kernel
theorem dX0_addHold_41 : decode cX0_addHold 41 = .ok (.iload_n 2, 1) := by decide +kernel
theorem dX0_addHold_42 : decode cX0_addHold 42 = .ok (.putfield 169, 3) := by decide +kernel
theorem dX0_addHold_45 : decode cX0_addHold 45 = .ok (.aload_n 3, 1) := by decide +kernel
theorem dX0_addHold_46 : decode cX0_addHold 46 = .ok (.aload_n 0, 1) := by decide +kernel
theorem dX0_addHold_47 : decode cX0_addHold 47 = .ok (.iload_n 2, 1) := by decide +kernel
theorem dX0_addHold_48 : decode cX0_addHold 48 = .ok (.invokevirtual 156, 3) := by decide +kernel
theorem dX0_addHold_51 : decode cX0_addHold 51 = .ok (.putfield 124, 3) := by decide +kernel
theorem dX0_addHold_54 : decode cX0_addHold 54 = .ok (.aload_n 3, 1) := by decide +kernel
theorem dX0_addHold_55 : decode cX0_addHold 55 = .ok (.aload_n 0, 1) := by decide +kernel
theorem dX0_addHold_56 : decode cX0_addHold 56 = .ok (.getfield 52, 3) := by decide +kernel
theorem dX0_addHold_59 : decode cX0_addHold 59 = .ok (.putfield 172, 3) := by decide +kernel
theorem dX0_addHold_62 : decode cX0_addHold 62 = .ok (.aload_n 0, 1) := by decide +kernel
theorem dX0_addHold_63 : decode cX0_addHold 63 = .ok (.dup, 1) := by decide +kernel
theorem dX0_addHold_64 : decode cX0_addHold 64 = .ok (.getfield 66, 3) := by decide +kernel
theorem dX0_addHold_67 : decode cX0_addHold 67 = .ok (.iconst 1, 1) := by decide +kernel
theorem dX0_addHold_68 : decode cX0_addHold 68 = .ok (.iadd, 1) := by decide +kernel
theorem dX0_addHold_69 : decode cX0_addHold 69 = .ok (.putfield 66, 3) := by decide +kernel
theorem dX0_addHold_72 : decode cX0_addHold 72 = .ok (.aload_n 0, 1) := by decide +kernel
theorem dX0_addHold_73 : decode cX0_addHold 73 = .ok (.getfield 66, 3) := by decide +kernel
theorem dX0_addHold_76 : decode cX0_addHold 76 = .ok (.iconst 1, 1) := by decide +kernel
theorem dX0_addHold_77 : decode cX0_addHold 77 = .ok (.isub, 1) := by decide +kernel
theorem dX0_addHold_78 : decode cX0_addHold 78 = .ok (.ireturn, 1) := by decide +kernel
theorem dX0_dropHold_0 : decode cX0_dropHold 0 = .ok (.iload_n 1, 1) := by decide +kernel
theorem dX0_dropHold_1 : decode cX0_dropHold 1 = .ok (.ifCond .lt 23, 3) := by decide +kernel
theorem dX0_dropHold_4 : decode cX0_dropHold 4 = .ok (.iload_n 1, 1) := by decide +kernel
theorem dX0_dropHold_5 : decode cX0_dropHold 5 = .ok (.aload_n 0, 1) := by decide +kernel
theorem dX0_dropHold_6 : decode cX0_dropHold 6 = .ok (.getfield 66, 3) := by decide +kernel
theorem dX0_dropHold_9 : decode cX0_dropHold 9 = .ok (.if_icmp .ge 15, 3) := by decide +kernel
theorem dX0_dropHold_12 : decode cX0_dropHold 12 = .ok (.aload_n 0, 1) := by decide +kernel
theorem dX0_dropHold_13 : decode cX0_dropHold 13 = .ok (.getfield 66, 3) := by decide +kernel
theorem dX0_dropHold_16 : decode cX0_dropHold 16 = .ok (.aload_n 0, 1) := by decide +kernel
theorem dX0_dropHold_17 : decode cX0_dropHold 17 = .ok (.getfield 37, 3) := by decide +kernel
theorem dX0_dropHold_20 : decode cX0_dropHold 20 = .ok (.arraylength, 1) := by decide +kernel
theorem dX0_dropHold_21 : decode cX0_dropHold 21 = .ok (.if_icmp .le 4, 3) := by decide +kernel
theorem dX0_dropHold_24 : decode cX0_dropHold 24 = .ok (.return_, 1) := by decide +kernel
theorem dX0_dropHold_25 : decode cX0_dropHold 25 = .ok (.aload_n 0, 1) := by decide +kernel
theorem dX0_dropHold_26 : decode cX0_dropHold 26 = .ok (.getfield 37, 3) := by decide +kernel
theorem dX0_dropHold_29 : decode cX0_dropHold 29 = .ok (.iload_n 1, 1) := by decide +kernel
theorem dX0_dropHold_30 : decode cX0_dropHold 30 = .ok (.aaload, 1) := by decide +kernel
theorem dX0_dropHold_31 : decode cX0_dropHold 31 = .ok (.astore_n 2, 1) := by decide +kernel
theorem dX0_dropHold_32 : decode cX0_dropHold 32 = .ok (.iload_n 1, 1) := by decide +kernel
theorem dX0_dropHold_33 : decode cX0_dropHold 33 = .ok (.iconst 1, 1) := by decide +kernel
theorem dX0_dropHold_34 : decode cX0_dropHold 34 = .ok (.iadd, 1) := by decide +kernel
theorem dX0_dropHold_35 : decode cX0_dropHold 35 = .ok (.istore_n 3, 1) := by decide +kernel
theorem dX0_dropHold_36 : decode cX0_dropHold 36 = .ok (.iload_n 3, 1) := by decide +kernel
theorem dX0_dropHold_37 : decode cX0_dropHold 37 = .ok (.aload_n 0, 1) := by decide +kernel
theorem dX0_dropHold_38 : decode cX0_dropHold 38 = .ok (.getfield 66, 3) := by decide +kernel
theorem dX0_dropHold_41 : decode cX0_dropHold 41 = .ok (.if_icmp .ge 23, 3) := by decide +kernel
theorem dX0_dropHold_44 : decode cX0_dropHold 44 = .ok (.aload_n 0, 1) := by decide +kernel
theorem dX0_dropHold_45 : decode cX0_dropHold 45 = .ok (.getfield 37, 3) := by decide +kernel
theorem dX0_dropHold_48 : decode cX0_dropHold 48 = .ok (.iload_n 3, 1) := by decide +kernel
theorem dX0_dropHold_49 : decode cX0_dropHold 49 = .ok (.iconst 1, 1) := by decide +kernel
theorem dX0_dropHold_50 : decode cX0_dropHold 50 = .ok (.isub, 1) := by decide +kernel
theorem dX0_dropHold_51 : decode cX0_dropHold 51 = .ok (.aload_n 0, 1) := by decide +kernel
theorem dX0_dropHold_52 : decode cX0_dropHold 52 = .ok (.getfield 37, 3) := by decide +kernel
theorem dX0_dropHold_55 : decode cX0_dropHold 55 = .ok (.iload_n 3, 1) := by decide +kernel
theorem dX0_dropHold_56 : decode cX0_dropHold 56 = .ok (.aaload, 1) := by decide +kernel
theorem dX0_dropHold_57 : decode cX0_dropHold 57 = .ok (.aastore, 1) := by decide +kernel
theorem dX0_dropHold_58 : decode cX0_dropHold 58 = .ok (.iinc 3 1, 3) := by decide +kernel
theorem dX0_dropHold_61 : decode cX0_dropHold 61 = .ok (.goto (-25), 3) := by decide +kernel
theorem dX0_dropHold_64 : decode cX0_dropHold 64 = .ok (.aload_n 0, 1) := by decide +kernel
theorem dX0_dropHold_65 : decode cX0_dropHold 65 = .ok (.getfield 37, 3) := by decide +kernel
theorem dX0_dropHold_68 : decode cX0_dropHold 68 = .ok (.aload_n 0, 1) := by decide +kernel
theorem dX0_dropHold_69 : decode cX0_dropHold 69 = .ok (.getfield 66, 3) := by decide +kernel
theorem dX0_dropHold_72 : decode cX0_dropHold 72 = .ok (.iconst 1, 1) := by decide +kernel
theorem dX0_dropHold_73 : decode cX0_dropHold 73 = .ok (.isub, 1) := by decide +kernel
theorem dX0_dropHold_74 : decode cX0_dropHold 74 = .ok (.aload_n 2, 1) := by decide +kernel
theorem dX0_dropHold_75 : decode cX0_dropHold 75 = .ok (.aastore, 1) := by decide +kernel
theorem dX0_dropHold_76 : decode cX0_dropHold 76 = .ok (.aload_n 0, 1) := by decide +kernel
theorem dX0_dropHold_77 : decode cX0_dropHold 77 = .ok (.dup, 1) := by decide +kernel
theorem dX0_dropHold_78 : decode cX0_dropHold 78 = .ok (.getfield 66, 3) := by decide +kernel
theorem dX0_dropHold_81 : decode cX0_dropHold 81 = .ok (.iconst 1, 1) := by decide +kernel
theorem dX0_dropHold_82 : decode cX0_dropHold 82 = .ok (.isub, 1) := by decide +kernel
theorem dX0_dropHold_83 : decode cX0_dropHold 83 = .ok (.putfield 66, 3) := by decide +kernel
theorem dX0_dropHold_86 : decode cX0_dropHold 86 = .ok (.return_, 1) := by decide +kernel
theorem dX0_dropOldHolds_0 : decode cX0_dropOldHolds 0 = .ok (.iconst 0, 1) := by decide +kernel
theorem dX0_dropOldHolds_1 : decode cX0_dropOldHolds 1 = .ok (.istore_n 1, 1) := by decide +kernel
theorem dX0_dropOldHolds_2 : decode cX0_dropOldHolds 2 = .ok (.aload_n 0, 1) := by decide +kernel
theorem dX0_dropOldHolds_3 : decode cX0_dropOldHolds 3 = .ok (.getfield 66, 3) := by decide +kernel
theorem dX0_dropOldHolds_6 : decode cX0_dropOldHolds 6 = .ok (.iconst 1, 1) := by decide +kernel
theorem dX0_dropOldHolds_7 : decode cX0_dropOldHolds 7 = .ok (.isub, 1) := by decide +kernel
theorem dX0_dropOldHolds_8 : decode cX0_dropOldHolds 8 = .ok (.istore_n 2, 1) := by decide +kernel
theorem dX0_dropOldHolds_9 : decode cX0_dropOldHolds 9 = .ok (.iload_n 2, 1) := by decide +kernel
theorem dX0_dropOldHolds_10 : decode cX0_dropOldHolds 10 = .ok (.ifCond .lt 40, 3) := by decide +kernel
theorem dX0_dropOldHolds_13 : decode cX0_dropOldHolds 13 = .ok (.aload_n 0, 1) := by decide +kernel
theorem dX0_dropOldHolds_14 : decode cX0_dropOldHolds 14 = .ok (.getfield 52, 3) := by decide +kernel
theorem dX0_dropOldHolds_17 : decode cX0_dropOldHolds 17 = .ok (.aload_n 0, 1) := by decide +kernel
theorem dX0_dropOldHolds_18 : decode cX0_dropOldHolds 18 = .ok (.getfield 37, 3) := by decide +kernel
theorem dX0_dropOldHolds_21 : decode cX0_dropOldHolds 21 = .ok (.iload_n 2, 1) := by decide +kernel
theorem dX0_dropOldHolds_22 : decode cX0_dropOldHolds 22 = .ok (.aaload, 1) := by decide +kernel
theorem dX0_dropOldHolds_23 : decode cX0_dropOldHolds 23 = .ok (.getfield 172, 3) := by decide +kernel
theorem dX0_dropOldHolds_26 : decode cX0_dropOldHolds 26 = .ok (.isub, 1) := by decide +kernel
theorem dX0_dropOldHolds_27 : decode cX0_dropOldHolds 27 = .ok (.aload_n 0, 1) := by decide +kernel
theorem dX0_dropOldHolds_28 : decode cX0_dropOldHolds 28 = .ok (.getfield 18, 3) := by decide +kernel
theorem dX0_dropOldHolds_31 : decode cX0_dropOldHolds 31 = .ok (.iconst 3, 1) := by decide +kernel
theorem dX0_dropOldHolds_32 : decode cX0_dropOldHolds 32 = .ok (.iaload, 1) := by decide +kernel
theorem dX0_dropOldHolds_33 : decode cX0_dropOldHolds 33 = .ok (.if_icmp .le 11, 3) := by decide +kernel
theorem dX0_dropOldHolds_36 : decode cX0_dropOldHolds 36 = .ok (.aload_n 0, 1) := by decide +kernel
theorem dX0_dropOldHolds_37 : decode cX0_dropOldHolds 37 = .ok (.iload_n 2, 1) := by decide +kernel
end
section
theorem dX0_dropOldHolds_38 : decode cX0_dropOldHolds 38 = .ok (.invokevirtual 173, 3) := by decide +kernel
theorem dX0_dropOldHolds_41 : decode cX0_dropOldHolds 41 = .ok (.iinc 1 1, 3) := by decide +kernel
theorem dX0_dropOldHolds_44 : decode cX0_dropOldHolds 44 = .ok (.iinc 2 (-1), 3) := by decide +kernel
theorem dX0_dropOldHolds_47 : decode cX0_dropOldHolds 47 = .ok (.goto (-38), 3) := by decide +kernel
theorem dX0_dropOldHolds_50 : decode cX0_dropOldHolds 50 = .ok (.iload_n 1, 1) := by decide +kernel
theorem dX0_dropOldHolds_51 : decode cX0_dropOldHolds 51 = .ok (.ireturn, 1) := by decide +kernel
theorem dX0_addPayment_0 : decode cX0_addPayment 0 = .ok (.aload_n 0, 1) := by decide +kernel
theorem dX0_addPayment_1 : decode cX0_addPayment 1 = .ok (.getfield 72, 3) := by decide +kernel
theorem dX0_addPayment_4 : decode cX0_addPayment 4 = .ok (.aload_n 0, 1) := by decide +kernel
theorem dX0_addPayment_5 : decode cX0_addPayment 5 = .ok (.getfield 43, 3) := by decide +kernel
theorem dX0_addPayment_8 : decode cX0_addPayment 8 = .ok (.arraylength, 1) := by decide +kernel
theorem dX0_addPayment_9 : decode cX0_addPayment 9 = .ok (.if_icmp .lt 5, 3) := by decide +kernel
theorem dX0_addPayment_12 : decode cX0_addPayment 12 = .ok (.iconst (-1), 1) := by decide +kernel
theorem dX0_addPayment_13 : decode cX0_addPayment 13 = .ok (.ireturn, 1) := by decide +kernel
theorem dX0_addPayment_14 : decode cX0_addPayment 14 = .ok (.aload_n 0, 1) := by decide +kernel
theorem dX0_addPayment_15 : decode cX0_addPayment 15 = .ok (.getfield 43, 3) := by decide +kernel
theorem dX0_addPayment_18 : decode cX0_addPayment 18 = .ok (.aload_n 0, 1) := by decide +kernel
theorem dX0_addPayment_19 : decode cX0_addPayment 19 = .ok (.getfield 72, 3) := by decide +kernel
theorem dX0_addPayment_22 : decode cX0_addPayment 22 = .ok (.aaload, 1) := by decide +kernel
theorem dX0_addPayment_23 : decode cX0_addPayment 23 = .ok (.astore_n 3, 1) := by decide +kernel
theorem dX0_addPayment_24 : decode cX0_addPayment 24 = .ok (.aload_n 3, 1) := by decide +kernel
theorem dX0_addPayment_25 : decode cX0_addPayment 25 = .ok (.aload_n 1, 1) := by decide +kernel
theorem dX0_addPayment_26 : decode cX0_addPayment 26 = .ok (.getfield 167, 3) := by decide +kernel
theorem dX0_addPayment_29 : decode cX0_addPayment 29 = .ok (.putfield 163, 3) := by decide +kernel
theorem dX0_addPayment_32 : decode cX0_addPayment 32 = .ok (.aload_n 3, 1) := by decide +kernel
theorem dX0_addPayment_33 : decode cX0_addPayment 33 = .ok (.aload_n 1, 1) := by decide +kernel
theorem dX0_addPayment_34 : decode cX0_addPayment 34 = .ok (.getfield 136, 3) := by decide +kernel
theorem dX0_addPayment_37 : decode cX0_addPayment 37 = .ok (.putfield 177, 3) := by decide +kernel
theorem dX0_addPayment_40 : decode cX0_addPayment 40 = .ok (.aload_n 3, 1) := by decide +kernel
theorem dX0_addPayment_41 : decode cX0_addPayment 41 = .ok (.iload_n 2, 1) := by decide +kernel
theorem dX0_addPayment_42 : decode cX0_addPayment 42 = .ok (.putfield 178, 3) := by decide +kernel
theorem dX0_addPayment_45 : decode cX0_addPayment 45 = .ok (.aload_n 3, 1) := by decide +kernel
theorem dX0_addPayment_46 : decode cX0_addPayment 46 = .ok (.aload_n 0, 1) := by decide +kernel
theorem dX0_addPayment_47 : decode cX0_addPayment 47 = .ok (.getfield 52, 3) := by decide +kernel
theorem dX0_addPayment_50 : decode cX0_addPayment 50 = .ok (.putfield 179, 3) := by decide +kernel
theorem dX0_addPayment_53 : decode cX0_addPayment 53 = .ok (.aload_n 3, 1) := by decide +kernel
theorem dX0_addPayment_54 : decode cX0_addPayment 54 = .ok (.iconst 0, 1) := by decide +kernel
theorem dX0_addPayment_55 : decode cX0_addPayment 55 = .ok (.putfield 164, 3) := by decide +kernel
theorem dX0_addPayment_58 : decode cX0_addPayment 58 = .ok (.aload_n 0, 1) := by decide +kernel
theorem dX0_addPayment_59 : decode cX0_addPayment 59 = .ok (.dup, 1) := by decide +kernel
theorem dX0_addPayment_60 : decode cX0_addPayment 60 = .ok (.getfield 72, 3) := by decide +kernel
theorem dX0_addPayment_63 : decode cX0_addPayment 63 = .ok (.iconst 1, 1) := by decide +kernel
theorem dX0_addPayment_64 : decode cX0_addPayment 64 = .ok (.iadd, 1) := by decide +kernel
theorem dX0_addPayment_65 : decode cX0_addPayment 65 = .ok (.putfield 72, 3) := by decide +kernel
theorem dX0_addPayment_68 : decode cX0_addPayment 68 = .ok (.aload_n 0, 1) := by decide +kernel
theorem dX0_addPayment_69 : decode cX0_addPayment 69 = .ok (.getfield 72, 3) := by decide +kernel
theorem dX0_addPayment_72 : decode cX0_addPayment 72 = .ok (.iconst 1, 1) := by decide +kernel
theorem dX0_addPayment_73 : decode cX0_addPayment 73 = .ok (.isub, 1) := by decide +kernel
theorem dX0_addPayment_74 : decode cX0_addPayment 74 = .ok (.ireturn, 1) := by decide +kernel
theorem dX0_mayDispute_0 : decode cX0_mayDispute 0 = .ok (.aload_n 1, 1) := by decide +kernel
theorem dX0_mayDispute_1 : decode cX0_mayDispute 1 = .ok (.getfield 164, 3) := by decide +kernel
theorem dX0_mayDispute_4 : decode cX0_mayDispute 4 = .ok (.ifCond .ne 21, 3) := by decide +kernel
theorem dX0_mayDispute_7 : decode cX0_mayDispute 7 = .ok (.aload_n 0, 1) := by decide +kernel
theorem dX0_mayDispute_8 : decode cX0_mayDispute 8 = .ok (.getfield 52, 3) := by decide +kernel
theorem dX0_mayDispute_11 : decode cX0_mayDispute 11 = .ok (.aload_n 1, 1) := by decide +kernel
theorem dX0_mayDispute_12 : decode cX0_mayDispute 12 = .ok (.getfield 179, 3) := by decide +kernel
theorem dX0_mayDispute_15 : decode cX0_mayDispute 15 = .ok (.isub, 1) := by decide +kernel
theorem dX0_mayDispute_16 : decode cX0_mayDispute 16 = .ok (.bipush 30, 2) := by decide +kernel
theorem dX0_mayDispute_18 : decode cX0_mayDispute 18 = .ok (.if_icmp .gt 7, 3) := by decide +kernel
theorem dX0_mayDispute_21 : decode cX0_mayDispute 21 = .ok (.iconst 1, 1) := by decide +kernel
theorem dX0_mayDispute_22 : decode cX0_mayDispute 22 = .ok (.goto 4, 3) := by decide +kernel
theorem dX0_mayDispute_25 : decode cX0_mayDispute 25 = .ok (.iconst 0, 1) := by decide +kernel
theorem dX0_mayDispute_26 : decode cX0_mayDispute 26 = .ok (.ireturn, 1) := by decide +kernel
theorem dX0_disputedPayments_0 : decode cX0_disputedPayments 0 = .ok (.iconst 0, 1) := by decide +kernel
theorem dX0_disputedPayments_1 : decode cX0_disputedPayments 1 = .ok (.istore_n 1, 1) := by decide +kernel
theorem dX0_disputedPayments_2 : decode cX0_disputedPayments 2 = .ok (.iconst 0, 1) := by decide +kernel
theorem dX0_disputedPayments_3 : decode cX0_disputedPayments 3 = .ok (.istore_n 2, 1) := by decide +kernel
theorem dX0_disputedPayments_4 : decode cX0_disputedPayments 4 = .ok (.iload_n 2, 1) := by decide +kernel
theorem dX0_disputedPayments_5 : decode cX0_disputedPayments 5 = .ok (.aload_n 0, 1) := by decide +kernel
theorem dX0_disputedPayments_6 : decode cX0_disputedPayments 6 = .ok (.getfield 72, 3) := by decide +kernel
theorem dX0_disputedPayments_9 : decode cX0_disputedPayments 9 = .ok (.if_icmp .ge 25, 3) := by decide +kernel
theorem dX0_disputedPayments_12 : decode cX0_disputedPayments 12 = .ok (.aload_n 0, 1) := by decide +kernel
theorem dX0_disputedPayments_13 : decode cX0_disputedPayments 13 = .ok (.getfield 43, 3) := by decide +kernel
theorem dX0_disputedPayments_16 : decode cX0_disputedPayments 16 = .ok (.iload_n 2, 1) := by decide +kernel
theorem dX0_disputedPayments_17 : decode cX0_disputedPayments 17 = .ok (.aaload, 1) := by decide +kernel
theorem dX0_disputedPayments_18 : decode cX0_disputedPayments 18 = .ok (.getfield 164, 3) := by decide +kernel
theorem dX0_disputedPayments_21 : decode cX0_disputedPayments 21 = .ok (.iconst 1, 1) := by decide +kernel
theorem dX0_disputedPayments_22 : decode cX0_disputedPayments 22 = .ok (.if_icmp .ne 6, 3) := by decide +kernel
theorem dX0_disputedPayments_25 : decode cX0_disputedPayments 25 = .ok (.iinc 1 1, 3) := by decide +kernel
theorem dX0_disputedPayments_28 : decode cX0_disputedPayments 28 = .ok (.iinc 2 1, 3) := by decide +kernel
theorem dX0_disputedPayments_31 : decode cX0_disputedPayments 31 = .ok (.goto (-27), 3) := by decide +kernel
theorem dX0_disputedPayments_34 : decode cX0_disputedPayments 34 = .ok (.iload_n 1, 1) := by decide +kernel
theorem dX0_disputedPayments_35 : decode cX0_disputedPayments 35 = .ok (.ireturn, 1) := by decide +kernel
theorem dX0_creditIn_0 : decode cX0_creditIn 0 = .ok (.iconst 0, 1) := by decide +kernel
theorem dX0_creditIn_1 : decode cX0_creditIn 1 = .ok (.istore_n 2, 1) := by decide +kernel
theorem dX0_creditIn_2 : decode cX0_creditIn 2 = .ok (.iconst 0, 1) := by decide +kernel
theorem dX0_creditIn_3 : decode cX0_creditIn 3 = .ok (.istore_n 3, 1) := by decide +kernel
theorem dX0_creditIn_4 : decode cX0_creditIn 4 = .ok (.iload_n 3, 1) := by decide +kernel
theorem dX0_creditIn_5 : decode cX0_creditIn 5 = .ok (.aload_n 0, 1) := by decide +kernel
theorem dX0_creditIn_6 : decode cX0_creditIn 6 = .ok (.getfield 72, 3) := by decide +kernel
theorem dX0_creditIn_9 : decode cX0_creditIn 9 = .ok (.if_icmp .ge 47, 3) := by decide +kernel
theorem dX0_creditIn_12 : decode cX0_creditIn 12 = .ok (.aload_n 0, 1) := by decide +kernel
theorem dX0_creditIn_13 : decode cX0_creditIn 13 = .ok (.getfield 43, 3) := by decide +kernel
theorem dX0_creditIn_16 : decode cX0_creditIn 16 = .ok (.iload_n 3, 1) := by decide +kernel
theorem dX0_creditIn_17 : decode cX0_creditIn 17 = .ok (.aaload, 1) := by decide +kernel
theorem dX0_creditIn_18 : decode cX0_creditIn 18 = .ok (.aload_n 1, 1) := by decide +kernel
theorem dX0_creditIn_19 : decode cX0_creditIn 19 = .ok (.invokevirtual 180, 3) := by decide +kernel
theorem dX0_creditIn_22 : decode cX0_creditIn 22 = .ok (.ifCond .eq 28, 3) := by decide +kernel
theorem dX0_creditIn_25 : decode cX0_creditIn 25 = .ok (.aload_n 0, 1) := by decide +kernel
theorem dX0_creditIn_26 : decode cX0_creditIn 26 = .ok (.getfield 43, 3) := by decide +kernel
theorem dX0_creditIn_29 : decode cX0_creditIn 29 = .ok (.iload_n 3, 1) := by decide +kernel
theorem dX0_creditIn_30 : decode cX0_creditIn 30 = .ok (.aaload, 1) := by decide +kernel
theorem dX0_creditIn_31 : decode cX0_creditIn 31 = .ok (.getfield 164, 3) := by decide +kernel
theorem dX0_creditIn_34 : decode cX0_creditIn 34 = .ok (.iconst 1, 1) := by decide +kernel
theorem dX0_creditIn_35 : decode cX0_creditIn 35 = .ok (.if_icmp .ne 15, 3) := by decide +kernel
theorem dX0_creditIn_38 : decode cX0_creditIn 38 = .ok (.iload_n 2, 1) := by decide +kernel
theorem dX0_creditIn_39 : decode cX0_creditIn 39 = .ok (.aload_n 0, 1) := by decide +kernel
theorem dX0_creditIn_40 : decode cX0_creditIn 40 = .ok (.getfield 43, 3) := by decide +kernel
theorem dX0_creditIn_43 : decode cX0_creditIn 43 = .ok (.iload_n 3, 1) := by decide +kernel
theorem dX0_creditIn_44 : decode cX0_creditIn 44 = .ok (.aaload, 1) := by decide +kernel
theorem dX0_creditIn_45 : decode cX0_creditIn 45 = .ok (.getfield 178, 3) := by decide +kernel
theorem dX0_creditIn_48 : decode cX0_creditIn 48 = .ok (.iadd, 1) := by decide +kernel
theorem dX0_creditIn_49 : decode cX0_creditIn 49 = .ok (.istore_n 2, 1) := by decide +kernel
theorem dX0_creditIn_50 : decode cX0_creditIn 50 = .ok (.iinc 3 1, 3) := by decide +kernel
theorem dX0_creditIn_53 : decode cX0_creditIn 53 = .ok (.goto (-49), 3) := by decide +kernel
theorem dX0_creditIn_56 : decode cX0_creditIn 56 = .ok (.iload_n 2, 1) := by decide +kernel
theorem dX0_creditIn_57 : decode cX0_creditIn 57 = .ok (.ireturn, 1) := by decide +kernel
theorem dX0_paidFrom_0 : decode cX0_paidFrom 0 = .ok (.iconst 0, 1) := by decide +kernel
theorem dX0_paidFrom_1 : decode cX0_paidFrom 1 = .ok (.istore_n 2, 1) := by decide +kernel
theorem dX0_paidFrom_2 : decode cX0_paidFrom 2 = .ok (.iconst 0, 1) := by decide +kernel
theorem dX0_paidFrom_3 : decode cX0_paidFrom 3 = .ok (.istore_n 3, 1) := by decide +kernel
theorem dX0_paidFrom_4 : decode cX0_paidFrom 4 = .ok (.iload_n 3, 1) := by decide +kernel
theorem dX0_paidFrom_5 : decode cX0_paidFrom 5 = .ok (.aload_n 0, 1) := by decide +kernel
theorem dX0_paidFrom_6 : decode cX0_paidFrom 6 = .ok (.getfield 72, 3) := by decide +kernel
theorem dX0_paidFrom_9 : decode cX0_paidFrom 9 = .ok (.if_icmp .ge 34, 3) := by decide +kernel
theorem dX0_paidFrom_12 : decode cX0_paidFrom 12 = .ok (.aload_n 0, 1) := by decide +kernel
theorem dX0_paidFrom_13 : decode cX0_paidFrom 13 = .ok (.getfield 43, 3) := by decide +kernel
theorem dX0_paidFrom_16 : decode cX0_paidFrom 16 = .ok (.iload_n 3, 1) := by decide +kernel
theorem dX0_paidFrom_17 : decode cX0_paidFrom 17 = .ok (.aaload, 1) := by decide +kernel
theorem dX0_paidFrom_18 : decode cX0_paidFrom 18 = .ok (.aload_n 1, 1) := by decide +kernel
theorem dX0_paidFrom_19 : decode cX0_paidFrom 19 = .ok (.invokevirtual 180, 3) := by decide +kernel
theorem dX0_paidFrom_22 : decode cX0_paidFrom 22 = .ok (.ifCond .eq 15, 3) := by decide +kernel
theorem dX0_paidFrom_25 : decode cX0_paidFrom 25 = .ok (.iload_n 2, 1) := by decide +kernel
theorem dX0_paidFrom_26 : decode cX0_paidFrom 26 = .ok (.aload_n 0, 1) := by decide +kernel
theorem dX0_paidFrom_27 : decode cX0_paidFrom 27 = .ok (.getfield 43, 3) := by decide +kernel
theorem dX0_paidFrom_30 : decode cX0_paidFrom 30 = .ok (.iload_n 3, 1) := by decide +kernel
theorem dX0_paidFrom_31 : decode cX0_paidFrom 31 = .ok (.aaload, 1) := by decide +kernel
theorem dX0_paidFrom_32 : decode cX0_paidFrom 32 = .ok (.getfield 178, 3) := by decide +kernel
theorem dX0_paidFrom_35 : decode cX0_paidFrom 35 = .ok (.iadd, 1) := by decide +kernel
theorem dX0_paidFrom_36 : decode cX0_paidFrom 36 = .ok (.istore_n 2, 1) := by decide +kernel
theorem dX0_paidFrom_37 : decode cX0_paidFrom 37 = .ok (.iinc 3 1, 3) := by decide +kernel
theorem dX0_paidFrom_40 : decode cX0_paidFrom 40 = .ok (.goto (-36), 3) := by decide +kernel
theorem dX0_paidFrom_43 : decode cX0_paidFrom 43 = .ok (.iload_n 2, 1) := by decide +kernel
theorem dX0_paidFrom_44 : decode cX0_paidFrom 44 = .ok (.ireturn, 1) := by decide +kernel
theorem dX1_init_0 : decode cX1_init 0 = .ok (.aload_n 0, 1) := by decide +kernel
theorem dX1_init_1 : decode cX1_init 1 = .ok (.invokespecial 1, 3) := by decide +kernel
theorem dX1_init_4 : decode cX1_init 4 = .ok (.return_, 1) := by decide +kernel
theorem dX1_isIn_0 : decode cX1_isIn 0 = .ok (.aload_n 0, 1) := by decide +kernel
theorem dX1_isIn_1 : decode cX1_isIn 1 = .ok (.getfield 7, 3) := by decide +kernel
theorem dX1_isIn_4 : decode cX1_isIn 4 = .ok (.aload_n 1, 1) := by decide +kernel
theorem dX1_isIn_5 : decode cX1_isIn 5 = .ok (.getfield 13, 3) := by decide +kernel
theorem dX1_isIn_8 : decode cX1_isIn 8 = .ok (.if_icmp .ne 18, 3) := by decide +kernel
theorem dX1_isIn_11 : decode cX1_isIn 11 = .ok (.aload_n 0, 1) := by decide +kernel
theorem dX1_isIn_12 : decode cX1_isIn 12 = .ok (.getfield 16, 3) := by decide +kernel
theorem dX1_isIn_15 : decode cX1_isIn 15 = .ok (.aload_n 1, 1) := by decide +kernel
theorem dX1_isIn_16 : decode cX1_isIn 16 = .ok (.getfield 19, 3) := by decide +kernel
theorem dX1_isIn_19 : decode cX1_isIn 19 = .ok (.if_icmp .ne 7, 3) := by decide +kernel
theorem dX1_isIn_22 : decode cX1_isIn 22 = .ok (.iconst 1, 1) := by decide +kernel
theorem dX1_isIn_23 : decode cX1_isIn 23 = .ok (.goto 4, 3) := by decide +kernel
theorem dX1_isIn_26 : decode cX1_isIn 26 = .ok (.iconst 0, 1) := by decide +kernel
theorem dX1_isIn_27 : decode cX1_isIn 27 = .ok (.ireturn, 1) := by decide +kernel
theorem dX1_copyFrom_0 : decode cX1_copyFrom 0 = .ok (.aload_n 0, 1) := by decide +kernel
theorem dX1_copyFrom_1 : decode cX1_copyFrom 1 = .ok (.aload_n 1, 1) := by decide +kernel
theorem dX1_copyFrom_2 : decode cX1_copyFrom 2 = .ok (.getfield 7, 3) := by decide +kernel
theorem dX1_copyFrom_5 : decode cX1_copyFrom 5 = .ok (.putfield 7, 3) := by decide +kernel
theorem dX1_copyFrom_8 : decode cX1_copyFrom 8 = .ok (.aload_n 0, 1) := by decide +kernel
theorem dX1_copyFrom_9 : decode cX1_copyFrom 9 = .ok (.aload_n 1, 1) := by decide +kernel
theorem dX1_copyFrom_10 : decode cX1_copyFrom 10 = .ok (.getfield 16, 3) := by decide +kernel
theorem dX1_copyFrom_13 : decode cX1_copyFrom 13 = .ok (.putfield 16, 3) := by decide +kernel
theorem dX1_copyFrom_16 : decode cX1_copyFrom 16 = .ok (.aload_n 0, 1) := by decide +kernel
theorem dX1_copyFrom_17 : decode cX1_copyFrom 17 = .ok (.aload_n 1, 1) := by decide +kernel
theorem dX1_copyFrom_18 : decode cX1_copyFrom 18 = .ok (.getfield 20, 3) := by decide +kernel
theorem dX1_copyFrom_21 : decode cX1_copyFrom 21 = .ok (.putfield 20, 3) := by decide +kernel
theorem dX1_copyFrom_24 : decode cX1_copyFrom 24 = .ok (.aload_n 0, 1) := by decide +kernel
theorem dX1_copyFrom_25 : decode cX1_copyFrom 25 = .ok (.aload_n 1, 1) := by decide +kernel
theorem dX1_copyFrom_26 : decode cX1_copyFrom 26 = .ok (.getfield 23, 3) := by decide +kernel
theorem dX1_copyFrom_29 : decode cX1_copyFrom 29 = .ok (.putfield 23, 3) := by decide +kernel
theorem dX1_copyFrom_32 : decode cX1_copyFrom 32 = .ok (.aload_n 0, 1) := by decide +kernel
theorem dX1_copyFrom_33 : decode cX1_copyFrom 33 = .ok (.aload_n 1, 1) := by decide +kernel
theorem dX1_copyFrom_34 : decode cX1_copyFrom 34 = .ok (.getfield 26, 3) := by decide +kernel
theorem dX1_copyFrom_37 : decode cX1_copyFrom 37 = .ok (.putfield 26, 3) := by decide +kernel
theorem dX1_copyFrom_40 : decode cX1_copyFrom 40 = .ok (.return_, 1) := by decide +kernel
theorem dX2_init_0 : decode cX2_init 0 = .ok (.aload_n 0, 1) := by decide +kernel
theorem dX2_init_1 : decode cX2_init 1 = .ok (.invokespecial 3, 3) := by decide +kernel
theorem dX2_init_4 : decode cX2_init 4 = .ok (.return_, 1) := by decide +kernel
theorem dX2_startOrder_0 : decode cX2_startOrder 0 = .ok (.aload_n 0, 1) := by decide +kernel
theorem dX2_startOrder_1 : decode cX2_startOrder 1 = .ok (.iconst 0, 1) := by decide +kernel
theorem dX2_startOrder_2 : decode cX2_startOrder 2 = .ok (.putfield 9, 3) := by decide +kernel
theorem dX2_startOrder_5 : decode cX2_startOrder 5 = .ok (.aload_n 0, 1) := by decide +kernel
theorem dX2_startOrder_6 : decode cX2_startOrder 6 = .ok (.iconst 0, 1) := by decide +kernel
theorem dX2_startOrder_7 : decode cX2_startOrder 7 = .ok (.putfield 15, 3) := by decide +kernel
theorem dX2_startOrder_10 : decode cX2_startOrder 10 = .ok (.aload_n 0, 1) := by decide +kernel
theorem dX2_startOrder_11 : decode cX2_startOrder 11 = .ok (.iconst 0, 1) := by decide +kernel
theorem dX2_startOrder_12 : decode cX2_startOrder 12 = .ok (.putfield 18, 3) := by decide +kernel
theorem dX2_startOrder_15 : decode cX2_startOrder 15 = .ok (.aload_n 0, 1) := by decide +kernel
theorem dX2_startOrder_16 : decode cX2_startOrder 16 = .ok (.iconst 0, 1) := by decide +kernel
theorem dX2_startOrder_17 : decode cX2_startOrder 17 = .ok (.putfield 21, 3) := by decide +kernel
theorem dX2_startOrder_20 : decode cX2_startOrder 20 = .ok (.aload_n 0, 1) := by decide +kernel
theorem dX2_startOrder_21 : decode cX2_startOrder 21 = .ok (.iconst 0, 1) := by decide +kernel
theorem dX2_startOrder_22 : decode cX2_startOrder 22 = .ok (.putfield 24, 3) := by decide +kernel
theorem dX2_startOrder_25 : decode cX2_startOrder 25 = .ok (.aload_n 0, 1) := by decide +kernel
theorem dX2_startOrder_26 : decode cX2_startOrder 26 = .ok (.iconst 0, 1) := by decide +kernel
theorem dX2_startOrder_27 : decode cX2_startOrder 27 = .ok (.putfield 27, 3) := by decide +kernel
theorem dX2_startOrder_30 : decode cX2_startOrder 30 = .ok (.aload_n 0, 1) := by decide +kernel
theorem dX2_startOrder_31 : decode cX2_startOrder 31 = .ok (.iconst 0, 1) := by decide +kernel
theorem dX2_startOrder_32 : decode cX2_startOrder 32 = .ok (.putfield 30, 3) := by decide +kernel
theorem dX2_startOrder_35 : decode cX2_startOrder 35 = .ok (.return_, 1) := by decide +kernel
theorem dX2_isOrderWhole_0 : decode cX2_isOrderWhole 0 = .ok (.aload_n 0, 1) := by decide +kernel
theorem dX2_isOrderWhole_1 : decode cX2_isOrderWhole 1 = .ok (.getfield 24, 3) := by decide +kernel
theorem dX2_isOrderWhole_4 : decode cX2_isOrderWhole 4 = .ok (.ifCond .le 7, 3) := by decide +kernel
theorem dX2_isOrderWhole_7 : decode cX2_isOrderWhole 7 = .ok (.iconst 1, 1) := by decide +kernel
theorem dX2_isOrderWhole_8 : decode cX2_isOrderWhole 8 = .ok (.goto 4, 3) := by decide +kernel
theorem dX2_isOrderWhole_11 : decode cX2_isOrderWhole 11 = .ok (.iconst 0, 1) := by decide +kernel
theorem dX2_isOrderWhole_12 : decode cX2_isOrderWhole 12 = .ok (.ireturn, 1) := by decide +kernel
theorem dX2_reads_0 : decode cX2_reads 0 = .ok (.aload_n 0, 1) := by decide +kernel
theorem dX2_reads_1 : decode cX2_reads 1 = .ok (.getfield 9, 3) := by decide +kernel
theorem dX2_reads_4 : decode cX2_reads 4 = .ok (.ifCond .ne 9, 3) := by decide +kernel
theorem dX2_reads_7 : decode cX2_reads 7 = .ok (.aload_n 0, 1) := by decide +kernel
theorem dX2_reads_8 : decode cX2_reads 8 = .ok (.iload_n 1, 1) := by decide +kernel
theorem dX2_reads_9 : decode cX2_reads 9 = .ok (.invokevirtual 34, 3) := by decide +kernel
theorem dX2_reads_12 : decode cX2_reads 12 = .ok (.ireturn, 1) := by decide +kernel
theorem dX2_reads_13 : decode cX2_reads 13 = .ok (.aload_n 0, 1) := by decide +kernel
theorem dX2_reads_14 : decode cX2_reads 14 = .ok (.getfield 27, 3) := by decide +kernel
theorem dX2_reads_17 : decode cX2_reads 17 = .ok (.aload_n 0, 1) := by decide +kernel
theorem dX2_reads_18 : decode cX2_reads 18 = .ok (.invokevirtual 38, 3) := by decide +kernel
theorem dX2_reads_21 : decode cX2_reads 21 = .ok (.if_icmp .ge 9, 3) := by decide +kernel
theorem dX2_reads_24 : decode cX2_reads 24 = .ok (.aload_n 0, 1) := by decide +kernel
theorem dX2_reads_25 : decode cX2_reads 25 = .ok (.iload_n 1, 1) := by decide +kernel
theorem dX2_reads_26 : decode cX2_reads 26 = .ok (.invokevirtual 42, 3) := by decide +kernel
theorem dX2_reads_29 : decode cX2_reads 29 = .ok (.ireturn, 1) := by decide +kernel
theorem dX2_reads_30 : decode cX2_reads 30 = .ok (.aload_n 0, 1) := by decide +kernel
theorem dX2_reads_31 : decode cX2_reads 31 = .ok (.getfield 30, 3) := by decide +kernel
theorem dX2_reads_34 : decode cX2_reads 34 = .ok (.ifCond .ne 37, 3) := by decide +kernel
theorem dX2_reads_37 : decode cX2_reads 37 = .ok (.aload_n 0, 1) := by decide +kernel
theorem dX2_reads_38 : decode cX2_reads 38 = .ok (.iload_n 1, 1) := by decide +kernel
theorem dX2_reads_39 : decode cX2_reads 39 = .ok (.aload_n 0, 1) := by decide +kernel
theorem dX2_reads_40 : decode cX2_reads 40 = .ok (.getfield 9, 3) := by decide +kernel
theorem dX2_reads_43 : decode cX2_reads 43 = .ok (.bipush 108, 2) := by decide +kernel
theorem dX2_reads_45 : decode cX2_reads 45 = .ok (.if_icmp .ne 8, 3) := by decide +kernel
theorem dX2_reads_48 : decode cX2_reads 48 = .ok (.bipush 43, 2) := by decide +kernel
theorem dX2_reads_50 : decode cX2_reads 50 = .ok (.goto 5, 3) := by decide +kernel
theorem dX2_reads_53 : decode cX2_reads 53 = .ok (.bipush 58, 2) := by decide +kernel
theorem dX2_reads_55 : decode cX2_reads 55 = .ok (.if_icmp .ne 7, 3) := by decide +kernel
theorem dX2_reads_58 : decode cX2_reads 58 = .ok (.iconst 1, 1) := by decide +kernel
theorem dX2_reads_59 : decode cX2_reads 59 = .ok (.goto 4, 3) := by decide +kernel
theorem dX2_reads_62 : decode cX2_reads 62 = .ok (.iconst 0, 1) := by decide +kernel
theorem dX2_reads_63 : decode cX2_reads 63 = .ok (.putfield 30, 3) := by decide +kernel
theorem dX2_reads_66 : decode cX2_reads 66 = .ok (.aload_n 0, 1) := by decide +kernel
theorem dX2_reads_67 : decode cX2_reads 67 = .ok (.getfield 30, 3) := by decide +kernel
theorem dX2_reads_70 : decode cX2_reads 70 = .ok (.ireturn, 1) := by decide +kernel
theorem dX2_reads_71 : decode cX2_reads 71 = .ok (.iload_n 1, 1) := by decide +kernel
theorem dX2_reads_72 : decode cX2_reads 72 = .ok (.bipush 59, 2) := by decide +kernel
theorem dX2_reads_74 : decode cX2_reads 74 = .ok (.if_icmp .ne 16, 3) := by decide +kernel
theorem dX2_reads_77 : decode cX2_reads 77 = .ok (.aload_n 0, 1) := by decide +kernel
theorem dX2_reads_78 : decode cX2_reads 78 = .ok (.invokevirtual 45, 3) := by decide +kernel
theorem dX2_reads_81 : decode cX2_reads 81 = .ok (.ifCond .eq 9, 3) := by decide +kernel
theorem dX2_reads_84 : decode cX2_reads 84 = .ok (.aload_n 0, 1) := by decide +kernel
theorem dX2_reads_85 : decode cX2_reads 85 = .ok (.invokevirtual 49, 3) := by decide +kernel
theorem dX2_reads_88 : decode cX2_reads 88 = .ok (.iconst 1, 1) := by decide +kernel
theorem dX2_reads_89 : decode cX2_reads 89 = .ok (.ireturn, 1) := by decide +kernel
theorem dX2_reads_90 : decode cX2_reads 90 = .ok (.aload_n 0, 1) := by decide +kernel
theorem dX2_reads_91 : decode cX2_reads 91 = .ok (.iload_n 1, 1) := by decide +kernel
theorem dX2_reads_92 : decode cX2_reads 92 = .ok (.invokevirtual 52, 3) := by decide +kernel
theorem dX2_reads_95 : decode cX2_reads 95 = .ok (.ireturn, 1) := by decide +kernel
theorem dX2_readsSign_0 : decode cX2_readsSign 0 = .ok (.iload_n 1, 1) := by decide +kernel
theorem dX2_readsSign_1 : decode cX2_readsSign 1 = .ok (.bipush 108, 2) := by decide +kernel
theorem dX2_readsSign_3 : decode cX2_readsSign 3 = .ok (.if_icmp .eq 17, 3) := by decide +kernel
theorem dX2_readsSign_6 : decode cX2_readsSign 6 = .ok (.iload_n 1, 1) := by decide +kernel
theorem dX2_readsSign_7 : decode cX2_readsSign 7 = .ok (.bipush 120, 2) := by decide +kernel
theorem dX2_readsSign_9 : decode cX2_readsSign 9 = .ok (.if_icmp .eq 11, 3) := by decide +kernel
theorem dX2_readsSign_12 : decode cX2_readsSign 12 = .ok (.iload_n 1, 1) := by decide +kernel
theorem dX2_readsSign_13 : decode cX2_readsSign 13 = .ok (.bipush 104, 2) := by decide +kernel
theorem dX2_readsSign_15 : decode cX2_readsSign 15 = .ok (.if_icmp .eq 5, 3) := by decide +kernel
theorem dX2_readsSign_18 : decode cX2_readsSign 18 = .ok (.iconst 0, 1) := by decide +kernel
theorem dX2_readsSign_19 : decode cX2_readsSign 19 = .ok (.ireturn, 1) := by decide +kernel
theorem dX2_readsSign_20 : decode cX2_readsSign 20 = .ok (.aload_n 0, 1) := by decide +kernel
theorem dX2_readsSign_21 : decode cX2_readsSign 21 = .ok (.iload_n 1, 1) := by decide +kernel
theorem dX2_readsSign_22 : decode cX2_readsSign 22 = .ok (.putfield 9, 3) := by decide +kernel
theorem dX2_readsSign_25 : decode cX2_readsSign 25 = .ok (.iconst 1, 1) := by decide +kernel
theorem dX2_readsSign_26 : decode cX2_readsSign 26 = .ok (.ireturn, 1) := by decide +kernel
theorem dX2_digitsDue_0 : decode cX2_digitsDue 0 = .ok (.aload_n 0, 1) := by decide +kernel
theorem dX2_digitsDue_1 : decode cX2_digitsDue 1 = .ok (.getfield 9, 3) := by decide +kernel
theorem dX2_digitsDue_4 : decode cX2_digitsDue 4 = .ok (.bipush 108, 2) := by decide +kernel
theorem dX2_digitsDue_6 : decode cX2_digitsDue 6 = .ok (.if_icmp .ne 5, 3) := by decide +kernel
theorem dX2_digitsDue_9 : decode cX2_digitsDue 9 = .ok (.iconst 1, 1) := by decide +kernel
theorem dX2_digitsDue_10 : decode cX2_digitsDue 10 = .ok (.ireturn, 1) := by decide +kernel
theorem dX2_digitsDue_11 : decode cX2_digitsDue 11 = .ok (.aload_n 0, 1) := by decide +kernel
theorem dX2_digitsDue_12 : decode cX2_digitsDue 12 = .ok (.getfield 9, 3) := by decide +kernel
theorem dX2_digitsDue_15 : decode cX2_digitsDue 15 = .ok (.bipush 120, 2) := by decide +kernel
theorem dX2_digitsDue_17 : decode cX2_digitsDue 17 = .ok (.if_icmp .ne 7, 3) := by decide +kernel
theorem dX2_digitsDue_20 : decode cX2_digitsDue 20 = .ok (.iconst 3, 1) := by decide +kernel
theorem dX2_digitsDue_21 : decode cX2_digitsDue 21 = .ok (.goto 4, 3) := by decide +kernel
theorem dX2_digitsDue_24 : decode cX2_digitsDue 24 = .ok (.iconst 2, 1) := by decide +kernel
theorem dX2_digitsDue_25 : decode cX2_digitsDue 25 = .ok (.ireturn, 1) := by decide +kernel
theorem dX2_readsDigit_0 : decode cX2_readsDigit 0 = .ok (.iload_n 1, 1) := by decide +kernel
theorem dX2_readsDigit_1 : decode cX2_readsDigit 1 = .ok (.bipush 48, 2) := by decide +kernel
theorem dX2_readsDigit_3 : decode cX2_readsDigit 3 = .ok (.if_icmp .lt 9, 3) := by decide +kernel
theorem dX2_readsDigit_6 : decode cX2_readsDigit 6 = .ok (.iload_n 1, 1) := by decide +kernel
theorem dX2_readsDigit_7 : decode cX2_readsDigit 7 = .ok (.bipush 51, 2) := by decide +kernel
theorem dX2_readsDigit_9 : decode cX2_readsDigit 9 = .ok (.if_icmp .le 5, 3) := by decide +kernel
theorem dX2_readsDigit_12 : decode cX2_readsDigit 12 = .ok (.iconst 0, 1) := by decide +kernel
theorem dX2_readsDigit_13 : decode cX2_readsDigit 13 = .ok (.ireturn, 1) := by decide +kernel
theorem dX2_readsDigit_14 : decode cX2_readsDigit 14 = .ok (.iload_n 1, 1) := by decide +kernel
theorem dX2_readsDigit_15 : decode cX2_readsDigit 15 = .ok (.bipush 48, 2) := by decide +kernel
theorem dX2_readsDigit_17 : decode cX2_readsDigit 17 = .ok (.isub, 1) := by decide +kernel
theorem dX2_readsDigit_18 : decode cX2_readsDigit 18 = .ok (.istore_n 2, 1) := by decide +kernel
theorem dX2_readsDigit_19 : decode cX2_readsDigit 19 = .ok (.aload_n 0, 1) := by decide +kernel
theorem dX2_readsDigit_20 : decode cX2_readsDigit 20 = .ok (.getfield 27, 3) := by decide +kernel
theorem dX2_readsDigit_23 : decode cX2_readsDigit 23 = .ok (.ifCond .ne 11, 3) := by decide +kernel
theorem dX2_readsDigit_26 : decode cX2_readsDigit 26 = .ok (.aload_n 0, 1) := by decide +kernel
theorem dX2_readsDigit_27 : decode cX2_readsDigit 27 = .ok (.iload_n 2, 1) := by decide +kernel
theorem dX2_readsDigit_28 : decode cX2_readsDigit 28 = .ok (.putfield 15, 3) := by decide +kernel
theorem dX2_readsDigit_31 : decode cX2_readsDigit 31 = .ok (.goto 24, 3) := by decide +kernel
theorem dX2_readsDigit_34 : decode cX2_readsDigit 34 = .ok (.aload_n 0, 1) := by decide +kernel
theorem dX2_readsDigit_35 : decode cX2_readsDigit 35 = .ok (.getfield 27, 3) := by decide +kernel
theorem dX2_readsDigit_38 : decode cX2_readsDigit 38 = .ok (.iconst 1, 1) := by decide +kernel
theorem dX2_readsDigit_39 : decode cX2_readsDigit 39 = .ok (.if_icmp .ne 11, 3) := by decide +kernel
theorem dX2_readsDigit_42 : decode cX2_readsDigit 42 = .ok (.aload_n 0, 1) := by decide +kernel
theorem dX2_readsDigit_43 : decode cX2_readsDigit 43 = .ok (.iload_n 2, 1) := by decide +kernel
theorem dX2_readsDigit_44 : decode cX2_readsDigit 44 = .ok (.putfield 18, 3) := by decide +kernel
theorem dX2_readsDigit_47 : decode cX2_readsDigit 47 = .ok (.goto 8, 3) := by decide +kernel
theorem dX2_readsDigit_50 : decode cX2_readsDigit 50 = .ok (.aload_n 0, 1) := by decide +kernel
theorem dX2_readsDigit_51 : decode cX2_readsDigit 51 = .ok (.iload_n 2, 1) := by decide +kernel
theorem dX2_readsDigit_52 : decode cX2_readsDigit 52 = .ok (.putfield 21, 3) := by decide +kernel
theorem dX2_readsDigit_55 : decode cX2_readsDigit 55 = .ok (.aload_n 0, 1) := by decide +kernel
theorem dX2_readsDigit_56 : decode cX2_readsDigit 56 = .ok (.dup, 1) := by decide +kernel
theorem dX2_readsDigit_57 : decode cX2_readsDigit 57 = .ok (.getfield 27, 3) := by decide +kernel
theorem dX2_readsDigit_60 : decode cX2_readsDigit 60 = .ok (.iconst 1, 1) := by decide +kernel
theorem dX2_readsDigit_61 : decode cX2_readsDigit 61 = .ok (.iadd, 1) := by decide +kernel
theorem dX2_readsDigit_62 : decode cX2_readsDigit 62 = .ok (.putfield 27, 3) := by decide +kernel
theorem dX2_readsDigit_65 : decode cX2_readsDigit 65 = .ok (.iconst 1, 1) := by decide +kernel
theorem dX2_readsDigit_66 : decode cX2_readsDigit 66 = .ok (.ireturn, 1) := by decide +kernel
theorem dX2_readsAmount_0 : decode cX2_readsAmount 0 = .ok (.aload_n 0, 1) := by decide +kernel
theorem dX2_readsAmount_1 : decode cX2_readsAmount 1 = .ok (.invokevirtual 45, 3) := by decide +kernel
theorem dX2_readsAmount_4 : decode cX2_readsAmount 4 = .ok (.ifCond .eq 8, 3) := by decide +kernel
theorem dX2_readsAmount_7 : decode cX2_readsAmount 7 = .ok (.bipush 48, 2) := by decide +kernel
theorem dX2_readsAmount_9 : decode cX2_readsAmount 9 = .ok (.goto 5, 3) := by decide +kernel
theorem dX2_readsAmount_12 : decode cX2_readsAmount 12 = .ok (.bipush 49, 2) := by decide +kernel
theorem dX2_readsAmount_14 : decode cX2_readsAmount 14 = .ok (.istore_n 2, 1) := by decide +kernel
theorem dX2_readsAmount_15 : decode cX2_readsAmount 15 = .ok (.iload_n 1, 1) := by decide +kernel
theorem dX2_readsAmount_16 : decode cX2_readsAmount 16 = .ok (.iload_n 2, 1) := by decide +kernel
theorem dX2_readsAmount_17 : decode cX2_readsAmount 17 = .ok (.if_icmp .lt 19, 3) := by decide +kernel
theorem dX2_readsAmount_20 : decode cX2_readsAmount 20 = .ok (.iload_n 1, 1) := by decide +kernel
theorem dX2_readsAmount_21 : decode cX2_readsAmount 21 = .ok (.bipush 57, 2) := by decide +kernel
theorem dX2_readsAmount_23 : decode cX2_readsAmount 23 = .ok (.if_icmp .gt 13, 3) := by decide +kernel
theorem dX2_readsAmount_26 : decode cX2_readsAmount 26 = .ok (.aload_n 0, 1) := by decide +kernel
theorem dX2_readsAmount_27 : decode cX2_readsAmount 27 = .ok (.getfield 24, 3) := by decide +kernel
theorem dX2_readsAmount_30 : decode cX2_readsAmount 30 = .ok (.sipush 9999, 3) := by decide +kernel
theorem dX2_readsAmount_33 : decode cX2_readsAmount 33 = .ok (.if_icmp .le 5, 3) := by decide +kernel
theorem dX2_readsAmount_36 : decode cX2_readsAmount 36 = .ok (.iconst 0, 1) := by decide +kernel
theorem dX2_readsAmount_37 : decode cX2_readsAmount 37 = .ok (.ireturn, 1) := by decide +kernel
theorem dX2_readsAmount_38 : decode cX2_readsAmount 38 = .ok (.aload_n 0, 1) := by decide +kernel
theorem dX2_readsAmount_39 : decode cX2_readsAmount 39 = .ok (.aload_n 0, 1) := by decide +kernel
theorem dX2_readsAmount_40 : decode cX2_readsAmount 40 = .ok (.getfield 24, 3) := by decide +kernel
theorem dX2_readsAmount_43 : decode cX2_readsAmount 43 = .ok (.bipush 10, 2) := by decide +kernel
theorem dX2_readsAmount_45 : decode cX2_readsAmount 45 = .ok (.imul, 1) := by decide +kernel
theorem dX2_readsAmount_46 : decode cX2_readsAmount 46 = .ok (.iload_n 1, 1) := by decide +kernel
theorem dX2_readsAmount_47 : decode cX2_readsAmount 47 = .ok (.bipush 48, 2) := by decide +kernel
theorem dX2_readsAmount_49 : decode cX2_readsAmount 49 = .ok (.isub, 1) := by decide +kernel
theorem dX2_readsAmount_50 : decode cX2_readsAmount 50 = .ok (.iadd, 1) := by decide +kernel
theorem dX2_readsAmount_51 : decode cX2_readsAmount 51 = .ok (.putfield 24, 3) := by decide +kernel
theorem dX2_readsAmount_54 : decode cX2_readsAmount 54 = .ok (.iconst 1, 1) := by decide +kernel
theorem dX2_readsAmount_55 : decode cX2_readsAmount 55 = .ok (.ireturn, 1) := by decide +kernel
theorem dX3_init_0 : decode cX3_init 0 = .ok (.aload_n 0, 1) := by decide +kernel
theorem dX3_init_1 : decode cX3_init 1 = .ok (.invokespecial 1, 3) := by decide +kernel
theorem dX3_init_4 : decode cX3_init 4 = .ok (.return_, 1) := by decide +kernel
theorem dX3_isOutOf_0 : decode cX3_isOutOf 0 = .ok (.aload_n 0, 1) := by decide +kernel
theorem dX3_isOutOf_1 : decode cX3_isOutOf 1 = .ok (.getfield 7, 3) := by decide +kernel
theorem dX3_isOutOf_4 : decode cX3_isOutOf 4 = .ok (.aload_n 1, 1) := by decide +kernel
theorem dX3_isOutOf_5 : decode cX3_isOutOf 5 = .ok (.getfield 13, 3) := by decide +kernel
theorem dX3_isOutOf_8 : decode cX3_isOutOf 8 = .ok (.if_icmp .ne 18, 3) := by decide +kernel
theorem dX3_isOutOf_11 : decode cX3_isOutOf 11 = .ok (.aload_n 0, 1) := by decide +kernel
theorem dX3_isOutOf_12 : decode cX3_isOutOf 12 = .ok (.getfield 16, 3) := by decide +kernel
theorem dX3_isOutOf_15 : decode cX3_isOutOf 15 = .ok (.aload_n 1, 1) := by decide +kernel
theorem dX3_isOutOf_16 : decode cX3_isOutOf 16 = .ok (.getfield 19, 3) := by decide +kernel
theorem dX3_isOutOf_19 : decode cX3_isOutOf 19 = .ok (.if_icmp .ne 7, 3) := by decide +kernel
theorem dX3_isOutOf_22 : decode cX3_isOutOf 22 = .ok (.iconst 1, 1) := by decide +kernel
theorem dX3_isOutOf_23 : decode cX3_isOutOf 23 = .ok (.goto 4, 3) := by decide +kernel
theorem dX3_isOutOf_26 : decode cX3_isOutOf 26 = .ok (.iconst 0, 1) := by decide +kernel
theorem dX3_isOutOf_27 : decode cX3_isOutOf 27 = .ok (.ireturn, 1) := by decide +kernel
theorem dX3_copyFrom_0 : decode cX3_copyFrom 0 = .ok (.aload_n 0, 1) := by decide +kernel
theorem dX3_copyFrom_1 : decode cX3_copyFrom 1 = .ok (.aload_n 1, 1) := by decide +kernel
theorem dX3_copyFrom_2 : decode cX3_copyFrom 2 = .ok (.getfield 7, 3) := by decide +kernel
theorem dX3_copyFrom_5 : decode cX3_copyFrom 5 = .ok (.putfield 7, 3) := by decide +kernel
theorem dX3_copyFrom_8 : decode cX3_copyFrom 8 = .ok (.aload_n 0, 1) := by decide +kernel
theorem dX3_copyFrom_9 : decode cX3_copyFrom 9 = .ok (.aload_n 1, 1) := by decide +kernel
theorem dX3_copyFrom_10 : decode cX3_copyFrom 10 = .ok (.getfield 16, 3) := by decide +kernel
theorem dX3_copyFrom_13 : decode cX3_copyFrom 13 = .ok (.putfield 16, 3) := by decide +kernel
theorem dX3_copyFrom_16 : decode cX3_copyFrom 16 = .ok (.aload_n 0, 1) := by decide +kernel
theorem dX3_copyFrom_17 : decode cX3_copyFrom 17 = .ok (.aload_n 1, 1) := by decide +kernel
theorem dX3_copyFrom_18 : decode cX3_copyFrom 18 = .ok (.getfield 20, 3) := by decide +kernel
theorem dX3_copyFrom_21 : decode cX3_copyFrom 21 = .ok (.putfield 20, 3) := by decide +kernel
theorem dX3_copyFrom_24 : decode cX3_copyFrom 24 = .ok (.aload_n 0, 1) := by decide +kernel
theorem dX3_copyFrom_25 : decode cX3_copyFrom 25 = .ok (.aload_n 1, 1) := by decide +kernel
theorem dX3_copyFrom_26 : decode cX3_copyFrom 26 = .ok (.getfield 23, 3) := by decide +kernel
theorem dX3_copyFrom_29 : decode cX3_copyFrom 29 = .ok (.putfield 23, 3) := by decide +kernel
theorem dX3_copyFrom_32 : decode cX3_copyFrom 32 = .ok (.aload_n 0, 1) := by decide +kernel
theorem dX3_copyFrom_33 : decode cX3_copyFrom 33 = .ok (.aload_n 1, 1) := by decide +kernel
theorem dX3_copyFrom_34 : decode cX3_copyFrom 34 = .ok (.getfield 26, 3) := by decide +kernel
theorem dX3_copyFrom_37 : decode cX3_copyFrom 37 = .ok (.putfield 26, 3) := by decide +kernel
theorem dX3_copyFrom_40 : decode cX3_copyFrom 40 = .ok (.return_, 1) := by decide +kernel
theorem dX4_init_0 : decode cX4_init 0 = .ok (.aload_n 0, 1) := by decide +kernel
theorem dX4_init_1 : decode cX4_init 1 = .ok (.invokespecial 3, 3) := by decide +kernel
theorem dX4_init_4 : decode cX4_init 4 = .ok (.aload_n 0, 1) := by decide +kernel
theorem dX4_init_5 : decode cX4_init 5 = .ok (.iload_n 1, 1) := by decide +kernel
theorem dX4_init_6 : decode cX4_init 6 = .ok (.putfield 9, 3) := by decide +kernel
theorem dX4_init_9 : decode cX4_init 9 = .ok (.aload_n 0, 1) := by decide +kernel
theorem dX4_init_10 : decode cX4_init 10 = .ok (.iload_n 2, 1) := by decide +kernel
theorem dX4_init_11 : decode cX4_init 11 = .ok (.putfield 15, 3) := by decide +kernel
theorem dX4_init_14 : decode cX4_init 14 = .ok (.aload_n 0, 1) := by decide +kernel
theorem dX4_init_15 : decode cX4_init 15 = .ok (.iconst (-1), 1) := by decide +kernel
theorem dX4_init_16 : decode cX4_init 16 = .ok (.putfield 18, 3) := by decide +kernel
theorem dX4_init_19 : decode cX4_init 19 = .ok (.return_, 1) := by decide +kernel
theorem dX4_copyFrom_0 : decode cX4_copyFrom 0 = .ok (.aload_n 0, 1) := by decide +kernel
theorem dX4_copyFrom_1 : decode cX4_copyFrom 1 = .ok (.aload_n 1, 1) := by decide +kernel
theorem dX4_copyFrom_2 : decode cX4_copyFrom 2 = .ok (.getfield 21, 3) := by decide +kernel
theorem dX4_copyFrom_5 : decode cX4_copyFrom 5 = .ok (.putfield 21, 3) := by decide +kernel
theorem dX4_copyFrom_8 : decode cX4_copyFrom 8 = .ok (.aload_n 0, 1) := by decide +kernel
theorem dX4_copyFrom_9 : decode cX4_copyFrom 9 = .ok (.aload_n 1, 1) := by decide +kernel
theorem dX4_copyFrom_10 : decode cX4_copyFrom 10 = .ok (.getfield 24, 3) := by decide +kernel
theorem dX4_copyFrom_13 : decode cX4_copyFrom 13 = .ok (.putfield 24, 3) := by decide +kernel
theorem dX4_copyFrom_16 : decode cX4_copyFrom 16 = .ok (.aload_n 0, 1) := by decide +kernel
theorem dX4_copyFrom_17 : decode cX4_copyFrom 17 = .ok (.aload_n 1, 1) := by decide +kernel
theorem dX4_copyFrom_18 : decode cX4_copyFrom 18 = .ok (.getfield 27, 3) := by decide +kernel
theorem dX4_copyFrom_21 : decode cX4_copyFrom 21 = .ok (.putfield 27, 3) := by decide +kernel
theorem dX4_copyFrom_24 : decode cX4_copyFrom 24 = .ok (.aload_n 0, 1) := by decide +kernel
theorem dX4_copyFrom_25 : decode cX4_copyFrom 25 = .ok (.aload_n 1, 1) := by decide +kernel
theorem dX4_copyFrom_26 : decode cX4_copyFrom 26 = .ok (.getfield 18, 3) := by decide +kernel
theorem dX4_copyFrom_29 : decode cX4_copyFrom 29 = .ok (.putfield 18, 3) := by decide +kernel
theorem dX4_copyFrom_32 : decode cX4_copyFrom 32 = .ok (.return_, 1) := by decide +kernel
theorem dX5_init_0 : decode cX5_init 0 = .ok (.aload_n 0, 1) := by decide +kernel
theorem dX5_init_1 : decode cX5_init 1 = .ok (.invokespecial 1, 3) := by decide +kernel
theorem dX5_init_4 : decode cX5_init 4 = .ok (.aload_n 0, 1) := by decide +kernel
theorem dX5_init_5 : decode cX5_init 5 = .ok (.new 7, 3) := by decide +kernel
theorem dX5_init_8 : decode cX5_init 8 = .ok (.dup, 1) := by decide +kernel
theorem dX5_init_9 : decode cX5_init 9 = .ok (.invokespecial 9, 3) := by decide +kernel
theorem dX5_init_12 : decode cX5_init 12 = .ok (.putfield 10, 3) := by decide +kernel
theorem dX5_init_15 : decode cX5_init 15 = .ok (.aload_n 0, 1) := by decide +kernel
theorem dX5_init_16 : decode cX5_init 16 = .ok (.bipush 6, 2) := by decide +kernel
theorem dX5_init_18 : decode cX5_init 18 = .ok (.anewarray 7, 3) := by decide +kernel
theorem dX5_init_21 : decode cX5_init 21 = .ok (.putfield 16, 3) := by decide +kernel
theorem dX5_init_24 : decode cX5_init 24 = .ok (.iconst 0, 1) := by decide +kernel
theorem dX5_init_25 : decode cX5_init 25 = .ok (.istore_n 1, 1) := by decide +kernel
theorem dX5_init_26 : decode cX5_init 26 = .ok (.iload_n 1, 1) := by decide +kernel
theorem dX5_init_27 : decode cX5_init 27 = .ok (.aload_n 0, 1) := by decide +kernel
theorem dX5_init_28 : decode cX5_init 28 = .ok (.getfield 16, 3) := by decide +kernel
theorem dX5_init_31 : decode cX5_init 31 = .ok (.arraylength, 1) := by decide +kernel
theorem dX5_init_32 : decode cX5_init 32 = .ok (.if_icmp .ge 22, 3) := by decide +kernel
theorem dX5_init_35 : decode cX5_init 35 = .ok (.aload_n 0, 1) := by decide +kernel
theorem dX5_init_36 : decode cX5_init 36 = .ok (.getfield 16, 3) := by decide +kernel
theorem dX5_init_39 : decode cX5_init 39 = .ok (.iload_n 1, 1) := by decide +kernel
theorem dX5_init_40 : decode cX5_init 40 = .ok (.new 7, 3) := by decide +kernel
theorem dX5_init_43 : decode cX5_init 43 = .ok (.dup, 1) := by decide +kernel
theorem dX5_init_44 : decode cX5_init 44 = .ok (.invokespecial 9, 3) := by decide +kernel
theorem dX5_init_47 : decode cX5_init 47 = .ok (.aastore, 1) := by decide +kernel
theorem dX5_init_48 : decode cX5_init 48 = .ok (.iinc 1 1, 3) := by decide +kernel
theorem dX5_init_51 : decode cX5_init 51 = .ok (.goto (-25), 3) := by decide +kernel
theorem dX5_init_54 : decode cX5_init 54 = .ok (.aload_n 0, 1) := by decide +kernel
theorem dX5_init_55 : decode cX5_init 55 = .ok (.bipush 60, 2) := by decide +kernel
theorem dX5_init_57 : decode cX5_init 57 = .ok (.newarray .int, 2) := by decide +kernel
theorem dX5_init_59 : decode cX5_init 59 = .ok (.putfield 20, 3) := by decide +kernel
theorem dX5_init_62 : decode cX5_init 62 = .ok (.aload_n 0, 1) := by decide +kernel
theorem dX5_init_63 : decode cX5_init 63 = .ok (.new 24, 3) := by decide +kernel
theorem dX5_init_66 : decode cX5_init 66 = .ok (.dup, 1) := by decide +kernel
theorem dX5_init_67 : decode cX5_init 67 = .ok (.invokespecial 26, 3) := by decide +kernel
theorem dX5_init_70 : decode cX5_init 70 = .ok (.putfield 27, 3) := by decide +kernel
theorem dX5_init_73 : decode cX5_init 73 = .ok (.return_, 1) := by decide +kernel
theorem dX5_load_0 : decode cX5_load 0 = .ok (.aload_n 0, 1) := by decide +kernel
theorem dX5_load_1 : decode cX5_load 1 = .ok (.iload_n 1, 1) := by decide +kernel
theorem dX5_load_2 : decode cX5_load 2 = .ok (.iconst 0, 1) := by decide +kernel
theorem dX5_load_3 : decode cX5_load 3 = .ok (.invokevirtual 31, 3) := by decide +kernel
theorem dX5_load_6 : decode cX5_load 6 = .ok (.astore_n 3, 1) := by decide +kernel
theorem dX5_load_7 : decode cX5_load 7 = .ok (.aload_n 0, 1) := by decide +kernel
theorem dX5_load_8 : decode cX5_load 8 = .ok (.iload_n 2, 1) := by decide +kernel
theorem dX5_load_9 : decode cX5_load 9 = .ok (.invokevirtual 35, 3) := by decide +kernel
theorem dX5_load_12 : decode cX5_load 12 = .ok (.aload_n 0, 1) := by decide +kernel
theorem dX5_load_13 : decode cX5_load 13 = .ok (.getfield 10, 3) := by decide +kernel
theorem dX5_load_16 : decode cX5_load 16 = .ok (.aload_n 3, 1) := by decide +kernel
theorem dX5_load_17 : decode cX5_load 17 = .ok (.iload_n 2, 1) := by decide +kernel
theorem dX5_load_18 : decode cX5_load 18 = .ok (.invokevirtual 39, 3) := by decide +kernel
theorem dX5_load_21 : decode cX5_load 21 = .ok (.ifCond .ne 13, 3) := by decide +kernel
theorem dX5_load_24 : decode cX5_load 24 = .ok (.new 43, 3) := by decide +kernel
theorem dX5_load_27 : decode cX5_load 27 = .ok (.dup, 1) := by decide +kernel
theorem dX5_load_28 : decode cX5_load 28 = .ok (.ldc 45, 2) := by decide +kernel
theorem dX5_load_30 : decode cX5_load 30 = .ok (.invokespecial 47, 3) := by decide +kernel
theorem dX5_load_33 : decode cX5_load 33 = .ok (.athrow, 1) := by decide +kernel
theorem dX5_load_34 : decode cX5_load 34 = .ok (.aload_n 0, 1) := by decide +kernel
theorem dX5_load_35 : decode cX5_load 35 = .ok (.invokevirtual 50, 3) := by decide +kernel
theorem dX5_load_38 : decode cX5_load 38 = .ok (.aload_n 0, 1) := by decide +kernel
theorem dX5_load_39 : decode cX5_load 39 = .ok (.getfield 10, 3) := by decide +kernel
theorem dX5_load_42 : decode cX5_load 42 = .ok (.aload_n 3, 1) := by decide +kernel
theorem dX5_load_43 : decode cX5_load 43 = .ok (.iload_n 2, 1) := by decide +kernel
theorem dX5_load_44 : decode cX5_load 44 = .ok (.invokevirtual 53, 3) := by decide +kernel
theorem dX5_load_47 : decode cX5_load 47 = .ok (.aload_n 3, 1) := by decide +kernel
theorem dX5_load_48 : decode cX5_load 48 = .ok (.getfield 57, 3) := by decide +kernel
theorem dX5_load_51 : decode cX5_load 51 = .ok (.ireturn, 1) := by decide +kernel
theorem dX5_quote_0 : decode cX5_quote 0 = .ok (.iload_n 1, 1) := by decide +kernel
theorem dX5_quote_1 : decode cX5_quote 1 = .ok (.ifCond .le 8, 3) := by decide +kernel
theorem dX5_quote_4 : decode cX5_quote 4 = .ok (.iload_n 1, 1) := by decide +kernel
theorem dX5_quote_5 : decode cX5_quote 5 = .ok (.iconst 4, 1) := by decide +kernel
theorem dX5_quote_6 : decode cX5_quote 6 = .ok (.if_icmp .lt 13, 3) := by decide +kernel
theorem dX5_quote_9 : decode cX5_quote 9 = .ok (.new 63, 3) := by decide +kernel
theorem dX5_quote_12 : decode cX5_quote 12 = .ok (.dup, 1) := by decide +kernel
theorem dX5_quote_13 : decode cX5_quote 13 = .ok (.ldc 65, 2) := by decide +kernel
theorem dX5_quote_15 : decode cX5_quote 15 = .ok (.invokespecial 67, 3) := by decide +kernel
theorem dX5_quote_18 : decode cX5_quote 18 = .ok (.athrow, 1) := by decide +kernel
theorem dX5_quote_19 : decode cX5_quote 19 = .ok (.iload_n 2, 1) := by decide +kernel
theorem dX5_quote_20 : decode cX5_quote 20 = .ok (.bipush 100, 2) := by decide +kernel
theorem dX5_quote_22 : decode cX5_quote 22 = .ok (.if_icmp .lt 10, 3) := by decide +kernel
theorem dX5_quote_25 : decode cX5_quote 25 = .ok (.iload_n 2, 1) := by decide +kernel
theorem dX5_quote_26 : decode cX5_quote 26 = .ok (.sipush 2000, 3) := by decide +kernel
theorem dX5_quote_29 : decode cX5_quote 29 = .ok (.if_icmp .le 13, 3) := by decide +kernel
theorem dX5_quote_32 : decode cX5_quote 32 = .ok (.new 68, 3) := by decide +kernel
theorem dX5_quote_35 : decode cX5_quote 35 = .ok (.dup, 1) := by decide +kernel
theorem dX5_quote_36 : decode cX5_quote 36 = .ok (.ldc 70, 2) := by decide +kernel
theorem dX5_quote_38 : decode cX5_quote 38 = .ok (.invokespecial 72, 3) := by decide +kernel
theorem dX5_quote_41 : decode cX5_quote 41 = .ok (.athrow, 1) := by decide +kernel
theorem dX5_quote_42 : decode cX5_quote 42 = .ok (.aload_n 0, 1) := by decide +kernel
theorem dX5_quote_43 : decode cX5_quote 43 = .ok (.invokevirtual 50, 3) := by decide +kernel
theorem dX5_quote_46 : decode cX5_quote 46 = .ok (.aload_n 0, 1) := by decide +kernel
theorem dX5_quote_47 : decode cX5_quote 47 = .ok (.getfield 10, 3) := by decide +kernel
theorem dX5_quote_50 : decode cX5_quote 50 = .ok (.getfield 73, 3) := by decide +kernel
theorem dX5_quote_53 : decode cX5_quote 53 = .ok (.iload_n 1, 1) := by decide +kernel
theorem dX5_quote_54 : decode cX5_quote 54 = .ok (.iaload, 1) := by decide +kernel
theorem dX5_quote_55 : decode cX5_quote 55 = .ok (.istore_n 3, 1) := by decide +kernel
theorem dX5_quote_56 : decode cX5_quote 56 = .ok (.aload_n 0, 1) := by decide +kernel
theorem dX5_quote_57 : decode cX5_quote 57 = .ok (.getfield 10, 3) := by decide +kernel
theorem dX5_quote_60 : decode cX5_quote 60 = .ok (.getfield 73, 3) := by decide +kernel
theorem dX5_quote_63 : decode cX5_quote 63 = .ok (.iload_n 1, 1) := by decide +kernel
theorem dX5_quote_64 : decode cX5_quote 64 = .ok (.iload_n 2, 1) := by decide +kernel
theorem dX5_quote_65 : decode cX5_quote 65 = .ok (.iastore, 1) := by decide +kernel
theorem dX5_quote_66 : decode cX5_quote 66 = .ok (.iload_n 3, 1) := by decide +kernel
theorem dX5_quote_67 : decode cX5_quote 67 = .ok (.ireturn, 1) := by decide +kernel
theorem dX5_lock_0 : decode cX5_lock 0 = .ok (.aload_n 0, 1) := by decide +kernel
theorem dX5_lock_1 : decode cX5_lock 1 = .ok (.iload_n 1, 1) := by decide +kernel
theorem dX5_lock_2 : decode cX5_lock 2 = .ok (.iload_n 2, 1) := by decide +kernel
theorem dX5_lock_3 : decode cX5_lock 3 = .ok (.invokevirtual 76, 3) := by decide +kernel
theorem dX5_lock_6 : decode cX5_lock 6 = .ok (.astore_n 3, 1) := by decide +kernel
theorem dX5_lock_7 : decode cX5_lock 7 = .ok (.aload_n 0, 1) := by decide +kernel
theorem dX5_lock_8 : decode cX5_lock 8 = .ok (.invokevirtual 50, 3) := by decide +kernel
theorem dX5_lock_11 : decode cX5_lock 11 = .ok (.aload_n 3, 1) := by decide +kernel
theorem dX5_lock_12 : decode cX5_lock 12 = .ok (.aload_n 0, 1) := by decide +kernel
theorem dX5_lock_13 : decode cX5_lock 13 = .ok (.getfield 10, 3) := by decide +kernel
theorem dX5_lock_16 : decode cX5_lock 16 = .ok (.getfield 73, 3) := by decide +kernel
theorem dX5_lock_19 : decode cX5_lock 19 = .ok (.aload_n 3, 1) := by decide +kernel
theorem dX5_lock_20 : decode cX5_lock 20 = .ok (.getfield 79, 3) := by decide +kernel
theorem dX5_lock_23 : decode cX5_lock 23 = .ok (.iaload, 1) := by decide +kernel
theorem dX5_lock_24 : decode cX5_lock 24 = .ok (.putfield 82, 3) := by decide +kernel
theorem dX5_lock_27 : decode cX5_lock 27 = .ok (.aload_n 3, 1) := by decide +kernel
theorem dX5_lock_28 : decode cX5_lock 28 = .ok (.aload_n 0, 1) := by decide +kernel
theorem dX5_lock_29 : decode cX5_lock 29 = .ok (.getfield 10, 3) := by decide +kernel
theorem dX5_lock_32 : decode cX5_lock 32 = .ok (.getfield 85, 3) := by decide +kernel
theorem dX5_lock_35 : decode cX5_lock 35 = .ok (.aload_n 0, 1) := by decide +kernel
theorem dX5_lock_36 : decode cX5_lock 36 = .ok (.getfield 10, 3) := by decide +kernel
theorem dX5_lock_39 : decode cX5_lock 39 = .ok (.getfield 88, 3) := by decide +kernel
theorem dX5_lock_42 : decode cX5_lock 42 = .ok (.iconst 0, 1) := by decide +kernel
theorem dX5_lock_43 : decode cX5_lock 43 = .ok (.iaload, 1) := by decide +kernel
theorem dX5_lock_44 : decode cX5_lock 44 = .ok (.iadd, 1) := by decide +kernel
theorem dX5_lock_45 : decode cX5_lock 45 = .ok (.putfield 91, 3) := by decide +kernel
theorem dX5_lock_48 : decode cX5_lock 48 = .ok (.aload_n 3, 1) := by decide +kernel
theorem dX5_lock_49 : decode cX5_lock 49 = .ok (.getfield 91, 3) := by decide +kernel
theorem dX5_lock_52 : decode cX5_lock 52 = .ok (.ireturn, 1) := by decide +kernel
theorem dX5_exchange_0 : decode cX5_exchange 0 = .ok (.aload_n 0, 1) := by decide +kernel
theorem dX5_exchange_1 : decode cX5_exchange 1 = .ok (.iload_n 1, 1) := by decide +kernel
theorem dX5_exchange_2 : decode cX5_exchange 2 = .ok (.iload_n 2, 1) := by decide +kernel
theorem dX5_exchange_3 : decode cX5_exchange 3 = .ok (.invokevirtual 31, 3) := by decide +kernel
theorem dX5_exchange_6 : decode cX5_exchange 6 = .ok (.astore 5, 2) := by decide +kernel
theorem dX5_exchange_8 : decode cX5_exchange 8 = .ok (.aload_n 0, 1) := by decide +kernel
theorem dX5_exchange_9 : decode cX5_exchange 9 = .ok (.iload_n 1, 1) := by decide +kernel
theorem dX5_exchange_10 : decode cX5_exchange 10 = .ok (.iload_n 3, 1) := by decide +kernel
theorem dX5_exchange_11 : decode cX5_exchange 11 = .ok (.invokevirtual 31, 3) := by decide +kernel
theorem dX5_exchange_14 : decode cX5_exchange 14 = .ok (.astore 6, 2) := by decide +kernel
theorem dX5_exchange_16 : decode cX5_exchange 16 = .ok (.aload_n 0, 1) := by decide +kernel
theorem dX5_exchange_17 : decode cX5_exchange 17 = .ok (.iload 4, 2) := by decide +kernel
theorem dX5_exchange_19 : decode cX5_exchange 19 = .ok (.invokevirtual 35, 3) := by decide +kernel
theorem dX5_exchange_22 : decode cX5_exchange 22 = .ok (.aload_n 0, 1) := by decide +kernel
theorem dX5_exchange_23 : decode cX5_exchange 23 = .ok (.getfield 10, 3) := by decide +kernel
theorem dX5_exchange_26 : decode cX5_exchange 26 = .ok (.aload 5, 2) := by decide +kernel
theorem dX5_exchange_28 : decode cX5_exchange 28 = .ok (.aload 6, 2) := by decide +kernel
theorem dX5_exchange_30 : decode cX5_exchange 30 = .ok (.iload 4, 2) := by decide +kernel
theorem dX5_exchange_32 : decode cX5_exchange 32 = .ok (.invokevirtual 94, 3) := by decide +kernel
theorem dX5_exchange_35 : decode cX5_exchange 35 = .ok (.ifCond .eq 13, 3) := by decide +kernel
theorem dX5_exchange_38 : decode cX5_exchange 38 = .ok (.new 43, 3) := by decide +kernel
theorem dX5_exchange_41 : decode cX5_exchange 41 = .ok (.dup, 1) := by decide +kernel
theorem dX5_exchange_42 : decode cX5_exchange 42 = .ok (.ldc 98, 2) := by decide +kernel
theorem dX5_exchange_44 : decode cX5_exchange 44 = .ok (.invokespecial 47, 3) := by decide +kernel
theorem dX5_exchange_47 : decode cX5_exchange 47 = .ok (.athrow, 1) := by decide +kernel
theorem dX5_exchange_48 : decode cX5_exchange 48 = .ok (.aload_n 0, 1) := by decide +kernel
theorem dX5_exchange_49 : decode cX5_exchange 49 = .ok (.invokevirtual 50, 3) := by decide +kernel
theorem dX5_exchange_52 : decode cX5_exchange 52 = .ok (.aload_n 0, 1) := by decide +kernel
theorem dX5_exchange_53 : decode cX5_exchange 53 = .ok (.getfield 10, 3) := by decide +kernel
theorem dX5_exchange_56 : decode cX5_exchange 56 = .ok (.aload 5, 2) := by decide +kernel
theorem dX5_exchange_58 : decode cX5_exchange 58 = .ok (.aload 6, 2) := by decide +kernel
theorem dX5_exchange_60 : decode cX5_exchange 60 = .ok (.iload 4, 2) := by decide +kernel
theorem dX5_exchange_62 : decode cX5_exchange 62 = .ok (.invokevirtual 100, 3) := by decide +kernel
theorem dX5_exchange_65 : decode cX5_exchange 65 = .ok (.ireturn, 1) := by decide +kernel
theorem dX5_hold_0 : decode cX5_hold 0 = .ok (.aload_n 0, 1) := by decide +kernel
theorem dX5_hold_1 : decode cX5_hold 1 = .ok (.iload_n 1, 1) := by decide +kernel
theorem dX5_hold_2 : decode cX5_hold 2 = .ok (.iload_n 2, 1) := by decide +kernel
theorem dX5_hold_3 : decode cX5_hold 3 = .ok (.invokevirtual 31, 3) := by decide +kernel
theorem dX5_hold_6 : decode cX5_hold 6 = .ok (.astore 4, 2) := by decide +kernel
theorem dX5_hold_8 : decode cX5_hold 8 = .ok (.aload_n 0, 1) := by decide +kernel
theorem dX5_hold_9 : decode cX5_hold 9 = .ok (.iload_n 3, 1) := by decide +kernel
theorem dX5_hold_10 : decode cX5_hold 10 = .ok (.invokevirtual 35, 3) := by decide +kernel
theorem dX5_hold_13 : decode cX5_hold 13 = .ok (.aload_n 0, 1) := by decide +kernel
theorem dX5_hold_14 : decode cX5_hold 14 = .ok (.getfield 10, 3) := by decide +kernel
theorem dX5_hold_17 : decode cX5_hold 17 = .ok (.aload 4, 2) := by decide +kernel
theorem dX5_hold_19 : decode cX5_hold 19 = .ok (.iload_n 3, 1) := by decide +kernel
theorem dX5_hold_20 : decode cX5_hold 20 = .ok (.invokevirtual 103, 3) := by decide +kernel
theorem dX5_hold_23 : decode cX5_hold 23 = .ok (.ifCond .eq 13, 3) := by decide +kernel
theorem dX5_hold_26 : decode cX5_hold 26 = .ok (.new 43, 3) := by decide +kernel
theorem dX5_hold_29 : decode cX5_hold 29 = .ok (.dup, 1) := by decide +kernel
theorem dX5_hold_30 : decode cX5_hold 30 = .ok (.ldc 107, 2) := by decide +kernel
theorem dX5_hold_32 : decode cX5_hold 32 = .ok (.invokespecial 47, 3) := by decide +kernel
theorem dX5_hold_35 : decode cX5_hold 35 = .ok (.athrow, 1) := by decide +kernel
theorem dX5_hold_36 : decode cX5_hold 36 = .ok (.aload_n 0, 1) := by decide +kernel
theorem dX5_hold_37 : decode cX5_hold 37 = .ok (.invokevirtual 50, 3) := by decide +kernel
theorem dX5_hold_40 : decode cX5_hold 40 = .ok (.aload_n 0, 1) := by decide +kernel
theorem dX5_hold_41 : decode cX5_hold 41 = .ok (.getfield 10, 3) := by decide +kernel
theorem dX5_hold_44 : decode cX5_hold 44 = .ok (.aload 4, 2) := by decide +kernel
theorem dX5_hold_46 : decode cX5_hold 46 = .ok (.iload_n 3, 1) := by decide +kernel
theorem dX5_hold_47 : decode cX5_hold 47 = .ok (.invokevirtual 109, 3) := by decide +kernel
theorem dX5_hold_50 : decode cX5_hold 50 = .ok (.ireturn, 1) := by decide +kernel
theorem dX5_pay_0 : decode cX5_pay 0 = .ok (.aload_n 0, 1) := by decide +kernel
theorem dX5_pay_1 : decode cX5_pay 1 = .ok (.iload_n 1, 1) := by decide +kernel
theorem dX5_pay_2 : decode cX5_pay 2 = .ok (.invokevirtual 112, 3) := by decide +kernel
theorem dX5_pay_5 : decode cX5_pay 5 = .ok (.astore_n 3, 1) := by decide +kernel
theorem dX5_pay_6 : decode cX5_pay 6 = .ok (.iload_n 2, 1) := by decide +kernel
theorem dX5_pay_7 : decode cX5_pay 7 = .ok (.iconst 1, 1) := by decide +kernel
theorem dX5_pay_8 : decode cX5_pay 8 = .ok (.if_icmp .ge 13, 3) := by decide +kernel
theorem dX5_pay_11 : decode cX5_pay 11 = .ok (.new 68, 3) := by decide +kernel
theorem dX5_pay_14 : decode cX5_pay 14 = .ok (.dup, 1) := by decide +kernel
theorem dX5_pay_15 : decode cX5_pay 15 = .ok (.ldc 116, 2) := by decide +kernel
theorem dX5_pay_17 : decode cX5_pay 17 = .ok (.invokespecial 72, 3) := by decide +kernel
theorem dX5_pay_20 : decode cX5_pay 20 = .ok (.athrow, 1) := by decide +kernel
theorem dX5_pay_21 : decode cX5_pay 21 = .ok (.iload_n 2, 1) := by decide +kernel
theorem dX5_pay_22 : decode cX5_pay 22 = .ok (.aload_n 3, 1) := by decide +kernel
theorem dX5_pay_23 : decode cX5_pay 23 = .ok (.getfield 118, 3) := by decide +kernel
theorem dX5_pay_26 : decode cX5_pay 26 = .ok (.if_icmp .gt 15, 3) := by decide +kernel
theorem dX5_pay_29 : decode cX5_pay 29 = .ok (.aload_n 0, 1) := by decide +kernel
theorem dX5_pay_30 : decode cX5_pay 30 = .ok (.getfield 10, 3) := by decide +kernel
theorem dX5_pay_33 : decode cX5_pay 33 = .ok (.getfield 123, 3) := by decide +kernel
theorem dX5_pay_36 : decode cX5_pay 36 = .ok (.bipush 12, 2) := by decide +kernel
theorem dX5_pay_38 : decode cX5_pay 38 = .ok (.if_icmp .lt 13, 3) := by decide +kernel
theorem dX5_pay_41 : decode cX5_pay 41 = .ok (.new 43, 3) := by decide +kernel
theorem dX5_pay_44 : decode cX5_pay 44 = .ok (.dup, 1) := by decide +kernel
theorem dX5_pay_45 : decode cX5_pay 45 = .ok (.ldc 126, 2) := by decide +kernel
theorem dX5_pay_47 : decode cX5_pay 47 = .ok (.invokespecial 47, 3) := by decide +kernel
theorem dX5_pay_50 : decode cX5_pay 50 = .ok (.athrow, 1) := by decide +kernel
theorem dX5_pay_51 : decode cX5_pay 51 = .ok (.aload_n 0, 1) := by decide +kernel
theorem dX5_pay_52 : decode cX5_pay 52 = .ok (.invokevirtual 50, 3) := by decide +kernel
theorem dX5_pay_55 : decode cX5_pay 55 = .ok (.aload_n 0, 1) := by decide +kernel
theorem dX5_pay_56 : decode cX5_pay 56 = .ok (.aload_n 3, 1) := by decide +kernel
theorem dX5_pay_57 : decode cX5_pay 57 = .ok (.getfield 128, 3) := by decide +kernel
theorem dX5_pay_60 : decode cX5_pay 60 = .ok (.aload_n 3, 1) := by decide +kernel
theorem dX5_pay_61 : decode cX5_pay 61 = .ok (.getfield 131, 3) := by decide +kernel
theorem dX5_pay_64 : decode cX5_pay 64 = .ok (.invokevirtual 31, 3) := by decide +kernel
theorem dX5_pay_67 : decode cX5_pay 67 = .ok (.astore 4, 2) := by decide +kernel
theorem dX5_pay_69 : decode cX5_pay 69 = .ok (.aload 4, 2) := by decide +kernel
theorem dX5_pay_71 : decode cX5_pay 71 = .ok (.dup, 1) := by decide +kernel
theorem dX5_pay_72 : decode cX5_pay 72 = .ok (.getfield 57, 3) := by decide +kernel
theorem dX5_pay_75 : decode cX5_pay 75 = .ok (.iload_n 2, 1) := by decide +kernel
theorem dX5_pay_76 : decode cX5_pay 76 = .ok (.isub, 1) := by decide +kernel
theorem dX5_pay_77 : decode cX5_pay 77 = .ok (.putfield 57, 3) := by decide +kernel
theorem dX5_pay_80 : decode cX5_pay 80 = .ok (.aload_n 0, 1) := by decide +kernel
theorem dX5_pay_81 : decode cX5_pay 81 = .ok (.getfield 10, 3) := by decide +kernel
theorem dX5_pay_84 : decode cX5_pay 84 = .ok (.iload_n 1, 1) := by decide +kernel
theorem dX5_pay_85 : decode cX5_pay 85 = .ok (.invokevirtual 132, 3) := by decide +kernel
theorem dX5_pay_88 : decode cX5_pay 88 = .ok (.aload_n 0, 1) := by decide +kernel
theorem dX5_pay_89 : decode cX5_pay 89 = .ok (.getfield 10, 3) := by decide +kernel
theorem dX5_pay_92 : decode cX5_pay 92 = .ok (.aload 4, 2) := by decide +kernel
theorem dX5_pay_94 : decode cX5_pay 94 = .ok (.iload_n 2, 1) := by decide +kernel
theorem dX5_pay_95 : decode cX5_pay 95 = .ok (.invokevirtual 135, 3) := by decide +kernel
theorem dX5_pay_98 : decode cX5_pay 98 = .ok (.ireturn, 1) := by decide +kernel
theorem dX5_letGo_0 : decode cX5_letGo 0 = .ok (.aload_n 0, 1) := by decide +kernel
theorem dX5_letGo_1 : decode cX5_letGo 1 = .ok (.iload_n 1, 1) := by decide +kernel
theorem dX5_letGo_2 : decode cX5_letGo 2 = .ok (.invokevirtual 112, 3) := by decide +kernel
theorem dX5_letGo_5 : decode cX5_letGo 5 = .ok (.getfield 118, 3) := by decide +kernel
theorem dX5_letGo_8 : decode cX5_letGo 8 = .ok (.istore_n 2, 1) := by decide +kernel
end
section
theorem dX5_letGo_9 : decode cX5_letGo 9 = .ok (.aload_n 0, 1) := by decide +kernel
theorem dX5_letGo_10 : decode cX5_letGo 10 = .ok (.invokevirtual 50, 3) := by decide +kernel
theorem dX5_letGo_13 : decode cX5_letGo 13 = .ok (.aload_n 0, 1) := by decide +kernel
theorem dX5_letGo_14 : decode cX5_letGo 14 = .ok (.getfield 10, 3) := by decide +kernel
theorem dX5_letGo_17 : decode cX5_letGo 17 = .ok (.iload_n 1, 1) := by decide +kernel
theorem dX5_letGo_18 : decode cX5_letGo 18 = .ok (.invokevirtual 132, 3) := by decide +kernel
theorem dX5_letGo_21 : decode cX5_letGo 21 = .ok (.iload_n 2, 1) := by decide +kernel
theorem dX5_letGo_22 : decode cX5_letGo 22 = .ok (.ireturn, 1) := by decide +kernel
theorem dX5_dispute_0 : decode cX5_dispute 0 = .ok (.aload_n 0, 1) := by decide +kernel
theorem dX5_dispute_1 : decode cX5_dispute 1 = .ok (.iload_n 1, 1) := by decide +kernel
theorem dX5_dispute_2 : decode cX5_dispute 2 = .ok (.invokevirtual 138, 3) := by decide +kernel
theorem dX5_dispute_5 : decode cX5_dispute 5 = .ok (.astore_n 2, 1) := by decide +kernel
theorem dX5_dispute_6 : decode cX5_dispute 6 = .ok (.aload_n 0, 1) := by decide +kernel
theorem dX5_dispute_7 : decode cX5_dispute 7 = .ok (.getfield 10, 3) := by decide +kernel
theorem dX5_dispute_10 : decode cX5_dispute 10 = .ok (.aload_n 2, 1) := by decide +kernel
theorem dX5_dispute_11 : decode cX5_dispute 11 = .ok (.invokevirtual 142, 3) := by decide +kernel
theorem dX5_dispute_14 : decode cX5_dispute 14 = .ok (.ifCond .ne 13, 3) := by decide +kernel
theorem dX5_dispute_17 : decode cX5_dispute 17 = .ok (.new 43, 3) := by decide +kernel
theorem dX5_dispute_20 : decode cX5_dispute 20 = .ok (.dup, 1) := by decide +kernel
theorem dX5_dispute_21 : decode cX5_dispute 21 = .ok (.ldc 146, 2) := by decide +kernel
theorem dX5_dispute_23 : decode cX5_dispute 23 = .ok (.invokespecial 47, 3) := by decide +kernel
theorem dX5_dispute_26 : decode cX5_dispute 26 = .ok (.athrow, 1) := by decide +kernel
theorem dX5_dispute_27 : decode cX5_dispute 27 = .ok (.aload_n 0, 1) := by decide +kernel
theorem dX5_dispute_28 : decode cX5_dispute 28 = .ok (.invokevirtual 50, 3) := by decide +kernel
theorem dX5_dispute_31 : decode cX5_dispute 31 = .ok (.aload_n 0, 1) := by decide +kernel
theorem dX5_dispute_32 : decode cX5_dispute 32 = .ok (.aload_n 2, 1) := by decide +kernel
theorem dX5_dispute_33 : decode cX5_dispute 33 = .ok (.getfield 148, 3) := by decide +kernel
theorem dX5_dispute_36 : decode cX5_dispute 36 = .ok (.aload_n 2, 1) := by decide +kernel
theorem dX5_dispute_37 : decode cX5_dispute 37 = .ok (.getfield 151, 3) := by decide +kernel
theorem dX5_dispute_40 : decode cX5_dispute 40 = .ok (.invokevirtual 31, 3) := by decide +kernel
theorem dX5_dispute_43 : decode cX5_dispute 43 = .ok (.astore_n 3, 1) := by decide +kernel
theorem dX5_dispute_44 : decode cX5_dispute 44 = .ok (.aload_n 2, 1) := by decide +kernel
theorem dX5_dispute_45 : decode cX5_dispute 45 = .ok (.iconst 1, 1) := by decide +kernel
theorem dX5_dispute_46 : decode cX5_dispute 46 = .ok (.putfield 152, 3) := by decide +kernel
theorem dX5_dispute_49 : decode cX5_dispute 49 = .ok (.aload_n 0, 1) := by decide +kernel
theorem dX5_dispute_50 : decode cX5_dispute 50 = .ok (.getfield 10, 3) := by decide +kernel
theorem dX5_dispute_53 : decode cX5_dispute 53 = .ok (.aload_n 3, 1) := by decide +kernel
theorem dX5_dispute_54 : decode cX5_dispute 54 = .ok (.aload_n 2, 1) := by decide +kernel
theorem dX5_dispute_55 : decode cX5_dispute 55 = .ok (.getfield 155, 3) := by decide +kernel
theorem dX5_dispute_58 : decode cX5_dispute 58 = .ok (.invokevirtual 158, 3) := by decide +kernel
theorem dX5_dispute_61 : decode cX5_dispute 61 = .ok (.aload_n 3, 1) := by decide +kernel
theorem dX5_dispute_62 : decode cX5_dispute 62 = .ok (.getfield 57, 3) := by decide +kernel
theorem dX5_dispute_65 : decode cX5_dispute 65 = .ok (.ireturn, 1) := by decide +kernel
theorem dX5_decide_0 : decode cX5_decide 0 = .ok (.aload_n 0, 1) := by decide +kernel
theorem dX5_decide_1 : decode cX5_decide 1 = .ok (.iload_n 1, 1) := by decide +kernel
theorem dX5_decide_2 : decode cX5_decide 2 = .ok (.invokevirtual 138, 3) := by decide +kernel
theorem dX5_decide_5 : decode cX5_decide 5 = .ok (.astore_n 3, 1) := by decide +kernel
theorem dX5_decide_6 : decode cX5_decide 6 = .ok (.aload_n 3, 1) := by decide +kernel
theorem dX5_decide_7 : decode cX5_decide 7 = .ok (.getfield 152, 3) := by decide +kernel
theorem dX5_decide_10 : decode cX5_decide 10 = .ok (.iconst 1, 1) := by decide +kernel
theorem dX5_decide_11 : decode cX5_decide 11 = .ok (.if_icmp .eq 13, 3) := by decide +kernel
theorem dX5_decide_14 : decode cX5_decide 14 = .ok (.new 43, 3) := by decide +kernel
theorem dX5_decide_17 : decode cX5_decide 17 = .ok (.dup, 1) := by decide +kernel
theorem dX5_decide_18 : decode cX5_decide 18 = .ok (.ldc 161, 2) := by decide +kernel
theorem dX5_decide_20 : decode cX5_decide 20 = .ok (.invokespecial 47, 3) := by decide +kernel
theorem dX5_decide_23 : decode cX5_decide 23 = .ok (.athrow, 1) := by decide +kernel
theorem dX5_decide_24 : decode cX5_decide 24 = .ok (.aload_n 0, 1) := by decide +kernel
theorem dX5_decide_25 : decode cX5_decide 25 = .ok (.invokevirtual 50, 3) := by decide +kernel
theorem dX5_decide_28 : decode cX5_decide 28 = .ok (.iload_n 2, 1) := by decide +kernel
theorem dX5_decide_29 : decode cX5_decide 29 = .ok (.ifCond .eq 10, 3) := by decide +kernel
theorem dX5_decide_32 : decode cX5_decide 32 = .ok (.aload_n 3, 1) := by decide +kernel
theorem dX5_decide_33 : decode cX5_decide 33 = .ok (.iconst 2, 1) := by decide +kernel
theorem dX5_decide_34 : decode cX5_decide 34 = .ok (.putfield 152, 3) := by decide +kernel
theorem dX5_decide_37 : decode cX5_decide 37 = .ok (.iconst 0, 1) := by decide +kernel
theorem dX5_decide_38 : decode cX5_decide 38 = .ok (.ireturn, 1) := by decide +kernel
theorem dX5_decide_39 : decode cX5_decide 39 = .ok (.aload_n 3, 1) := by decide +kernel
theorem dX5_decide_40 : decode cX5_decide 40 = .ok (.iconst 3, 1) := by decide +kernel
theorem dX5_decide_41 : decode cX5_decide 41 = .ok (.putfield 152, 3) := by decide +kernel
theorem dX5_decide_44 : decode cX5_decide 44 = .ok (.aload_n 0, 1) := by decide +kernel
theorem dX5_decide_45 : decode cX5_decide 45 = .ok (.getfield 10, 3) := by decide +kernel
theorem dX5_decide_48 : decode cX5_decide 48 = .ok (.aload_n 0, 1) := by decide +kernel
theorem dX5_decide_49 : decode cX5_decide 49 = .ok (.aload_n 3, 1) := by decide +kernel
theorem dX5_decide_50 : decode cX5_decide 50 = .ok (.getfield 148, 3) := by decide +kernel
theorem dX5_decide_53 : decode cX5_decide 53 = .ok (.aload_n 3, 1) := by decide +kernel
theorem dX5_decide_54 : decode cX5_decide 54 = .ok (.getfield 151, 3) := by decide +kernel
theorem dX5_decide_57 : decode cX5_decide 57 = .ok (.invokevirtual 31, 3) := by decide +kernel
theorem dX5_decide_60 : decode cX5_decide 60 = .ok (.aload_n 3, 1) := by decide +kernel
theorem dX5_decide_61 : decode cX5_decide 61 = .ok (.getfield 155, 3) := by decide +kernel
theorem dX5_decide_64 : decode cX5_decide 64 = .ok (.invokevirtual 163, 3) := by decide +kernel
theorem dX5_decide_67 : decode cX5_decide 67 = .ok (.ireturn, 1) := by decide +kernel
theorem dX5_close_0 : decode cX5_close 0 = .ok (.aload_n 0, 1) := by decide +kernel
theorem dX5_close_1 : decode cX5_close 1 = .ok (.iload_n 1, 1) := by decide +kernel
theorem dX5_close_2 : decode cX5_close 2 = .ok (.iconst 0, 1) := by decide +kernel
theorem dX5_close_3 : decode cX5_close 3 = .ok (.invokevirtual 31, 3) := by decide +kernel
theorem dX5_close_6 : decode cX5_close 6 = .ok (.astore_n 2, 1) := by decide +kernel
theorem dX5_close_7 : decode cX5_close 7 = .ok (.aload_n 0, 1) := by decide +kernel
theorem dX5_close_8 : decode cX5_close 8 = .ok (.getfield 10, 3) := by decide +kernel
theorem dX5_close_11 : decode cX5_close 11 = .ok (.iload_n 1, 1) := by decide +kernel
theorem dX5_close_12 : decode cX5_close 12 = .ok (.invokevirtual 166, 3) := by decide +kernel
theorem dX5_close_15 : decode cX5_close 15 = .ok (.ifCond .eq 13, 3) := by decide +kernel
theorem dX5_close_18 : decode cX5_close 18 = .ok (.new 43, 3) := by decide +kernel
theorem dX5_close_21 : decode cX5_close 21 = .ok (.dup, 1) := by decide +kernel
theorem dX5_close_22 : decode cX5_close 22 = .ok (.ldc 170, 2) := by decide +kernel
theorem dX5_close_24 : decode cX5_close 24 = .ok (.invokespecial 47, 3) := by decide +kernel
theorem dX5_close_27 : decode cX5_close 27 = .ok (.athrow, 1) := by decide +kernel
theorem dX5_close_28 : decode cX5_close 28 = .ok (.aload_n 0, 1) := by decide +kernel
theorem dX5_close_29 : decode cX5_close 29 = .ok (.invokevirtual 50, 3) := by decide +kernel
theorem dX5_close_32 : decode cX5_close 32 = .ok (.iconst 1, 1) := by decide +kernel
theorem dX5_close_33 : decode cX5_close 33 = .ok (.istore_n 3, 1) := by decide +kernel
theorem dX5_close_34 : decode cX5_close 34 = .ok (.iload_n 3, 1) := by decide +kernel
theorem dX5_close_35 : decode cX5_close 35 = .ok (.iconst 4, 1) := by decide +kernel
theorem dX5_close_36 : decode cX5_close 36 = .ok (.if_icmp .ge 47, 3) := by decide +kernel
theorem dX5_close_39 : decode cX5_close 39 = .ok (.aload_n 0, 1) := by decide +kernel
theorem dX5_close_40 : decode cX5_close 40 = .ok (.iload_n 1, 1) := by decide +kernel
theorem dX5_close_41 : decode cX5_close 41 = .ok (.iload_n 3, 1) := by decide +kernel
theorem dX5_close_42 : decode cX5_close 42 = .ok (.invokevirtual 31, 3) := by decide +kernel
theorem dX5_close_45 : decode cX5_close 45 = .ok (.astore 4, 2) := by decide +kernel
theorem dX5_close_47 : decode cX5_close 47 = .ok (.aload 4, 2) := by decide +kernel
theorem dX5_close_49 : decode cX5_close 49 = .ok (.getfield 57, 3) := by decide +kernel
theorem dX5_close_52 : decode cX5_close 52 = .ok (.ifCond .le 19, 3) := by decide +kernel
theorem dX5_close_55 : decode cX5_close 55 = .ok (.aload_n 0, 1) := by decide +kernel
theorem dX5_close_56 : decode cX5_close 56 = .ok (.getfield 10, 3) := by decide +kernel
theorem dX5_close_59 : decode cX5_close 59 = .ok (.aload 4, 2) := by decide +kernel
theorem dX5_close_61 : decode cX5_close 61 = .ok (.aload_n 2, 1) := by decide +kernel
theorem dX5_close_62 : decode cX5_close 62 = .ok (.aload 4, 2) := by decide +kernel
theorem dX5_close_64 : decode cX5_close 64 = .ok (.getfield 57, 3) := by decide +kernel
theorem dX5_close_67 : decode cX5_close 67 = .ok (.invokevirtual 100, 3) := by decide +kernel
theorem dX5_close_70 : decode cX5_close 70 = .ok (.pop, 1) := by decide +kernel
theorem dX5_close_71 : decode cX5_close 71 = .ok (.aload 4, 2) := by decide +kernel
theorem dX5_close_73 : decode cX5_close 73 = .ok (.iconst (-1), 1) := by decide +kernel
theorem dX5_close_74 : decode cX5_close 74 = .ok (.putfield 91, 3) := by decide +kernel
theorem dX5_close_77 : decode cX5_close 77 = .ok (.iinc 3 1, 3) := by decide +kernel
theorem dX5_close_80 : decode cX5_close 80 = .ok (.goto (-46), 3) := by decide +kernel
theorem dX5_close_83 : decode cX5_close 83 = .ok (.aload_n 0, 1) := by decide +kernel
theorem dX5_close_84 : decode cX5_close 84 = .ok (.getfield 10, 3) := by decide +kernel
theorem dX5_close_87 : decode cX5_close 87 = .ok (.aload_n 2, 1) := by decide +kernel
theorem dX5_close_88 : decode cX5_close 88 = .ok (.invokevirtual 172, 3) := by decide +kernel
theorem dX5_close_91 : decode cX5_close 91 = .ok (.ireturn, 1) := by decide +kernel
theorem dX5_pass_0 : decode cX5_pass 0 = .ok (.iload_n 1, 1) := by decide +kernel
theorem dX5_pass_1 : decode cX5_pass 1 = .ok (.iconst 1, 1) := by decide +kernel
theorem dX5_pass_2 : decode cX5_pass 2 = .ok (.if_icmp .lt 9, 3) := by decide +kernel
theorem dX5_pass_5 : decode cX5_pass 5 = .ok (.iload_n 1, 1) := by decide +kernel
theorem dX5_pass_6 : decode cX5_pass 6 = .ok (.bipush 60, 2) := by decide +kernel
theorem dX5_pass_8 : decode cX5_pass 8 = .ok (.if_icmp .le 13, 3) := by decide +kernel
theorem dX5_pass_11 : decode cX5_pass 11 = .ok (.new 68, 3) := by decide +kernel
theorem dX5_pass_14 : decode cX5_pass 14 = .ok (.dup, 1) := by decide +kernel
theorem dX5_pass_15 : decode cX5_pass 15 = .ok (.ldc 176, 2) := by decide +kernel
theorem dX5_pass_17 : decode cX5_pass 17 = .ok (.invokespecial 72, 3) := by decide +kernel
theorem dX5_pass_20 : decode cX5_pass 20 = .ok (.athrow, 1) := by decide +kernel
theorem dX5_pass_21 : decode cX5_pass 21 = .ok (.aload_n 0, 1) := by decide +kernel
theorem dX5_pass_22 : decode cX5_pass 22 = .ok (.getfield 10, 3) := by decide +kernel
theorem dX5_pass_25 : decode cX5_pass 25 = .ok (.getfield 85, 3) := by decide +kernel
theorem dX5_pass_28 : decode cX5_pass 28 = .ok (.iload_n 1, 1) := by decide +kernel
theorem dX5_pass_29 : decode cX5_pass 29 = .ok (.iadd, 1) := by decide +kernel
theorem dX5_pass_30 : decode cX5_pass 30 = .ok (.sipush 5000, 3) := by decide +kernel
theorem dX5_pass_33 : decode cX5_pass 33 = .ok (.if_icmp .le 13, 3) := by decide +kernel
theorem dX5_pass_36 : decode cX5_pass 36 = .ok (.new 43, 3) := by decide +kernel
theorem dX5_pass_39 : decode cX5_pass 39 = .ok (.dup, 1) := by decide +kernel
theorem dX5_pass_40 : decode cX5_pass 40 = .ok (.ldc 178, 2) := by decide +kernel
theorem dX5_pass_42 : decode cX5_pass 42 = .ok (.invokespecial 47, 3) := by decide +kernel
theorem dX5_pass_45 : decode cX5_pass 45 = .ok (.athrow, 1) := by decide +kernel
theorem dX5_pass_46 : decode cX5_pass 46 = .ok (.aload_n 0, 1) := by decide +kernel
theorem dX5_pass_47 : decode cX5_pass 47 = .ok (.invokevirtual 50, 3) := by decide +kernel
theorem dX5_pass_50 : decode cX5_pass 50 = .ok (.aload_n 0, 1) := by decide +kernel
theorem dX5_pass_51 : decode cX5_pass 51 = .ok (.getfield 10, 3) := by decide +kernel
theorem dX5_pass_54 : decode cX5_pass 54 = .ok (.dup, 1) := by decide +kernel
theorem dX5_pass_55 : decode cX5_pass 55 = .ok (.getfield 85, 3) := by decide +kernel
theorem dX5_pass_58 : decode cX5_pass 58 = .ok (.iload_n 1, 1) := by decide +kernel
theorem dX5_pass_59 : decode cX5_pass 59 = .ok (.iadd, 1) := by decide +kernel
theorem dX5_pass_60 : decode cX5_pass 60 = .ok (.putfield 85, 3) := by decide +kernel
theorem dX5_pass_63 : decode cX5_pass 63 = .ok (.aload_n 0, 1) := by decide +kernel
theorem dX5_pass_64 : decode cX5_pass 64 = .ok (.getfield 10, 3) := by decide +kernel
theorem dX5_pass_67 : decode cX5_pass 67 = .ok (.invokevirtual 180, 3) := by decide +kernel
theorem dX5_pass_70 : decode cX5_pass 70 = .ok (.ireturn, 1) := by decide +kernel
theorem dX5_set_0 : decode cX5_set 0 = .ok (.iload_n 1, 1) := by decide +kernel
theorem dX5_set_1 : decode cX5_set 1 = .ok (.ifCond .lt 8, 3) := by decide +kernel
theorem dX5_set_4 : decode cX5_set 4 = .ok (.iload_n 1, 1) := by decide +kernel
theorem dX5_set_5 : decode cX5_set 5 = .ok (.iconst 4, 1) := by decide +kernel
theorem dX5_set_6 : decode cX5_set 6 = .ok (.if_icmp .lt 13, 3) := by decide +kernel
theorem dX5_set_9 : decode cX5_set 9 = .ok (.new 63, 3) := by decide +kernel
theorem dX5_set_12 : decode cX5_set 12 = .ok (.dup, 1) := by decide +kernel
theorem dX5_set_13 : decode cX5_set 13 = .ok (.ldc 184, 2) := by decide +kernel
theorem dX5_set_15 : decode cX5_set 15 = .ok (.invokespecial 67, 3) := by decide +kernel
theorem dX5_set_18 : decode cX5_set 18 = .ok (.athrow, 1) := by decide +kernel
theorem dX5_set_19 : decode cX5_set 19 = .ok (.iload_n 2, 1) := by decide +kernel
theorem dX5_set_20 : decode cX5_set 20 = .ok (.ifCond .lt 12, 3) := by decide +kernel
theorem dX5_set_23 : decode cX5_set 23 = .ok (.iload_n 2, 1) := by decide +kernel
theorem dX5_set_24 : decode cX5_set 24 = .ok (.getstatic 186, 3) := by decide +kernel
theorem dX5_set_27 : decode cX5_set 27 = .ok (.iload_n 1, 1) := by decide +kernel
theorem dX5_set_28 : decode cX5_set 28 = .ok (.iaload, 1) := by decide +kernel
theorem dX5_set_29 : decode cX5_set 29 = .ok (.if_icmp .le 13, 3) := by decide +kernel
theorem dX5_set_32 : decode cX5_set 32 = .ok (.new 68, 3) := by decide +kernel
theorem dX5_set_35 : decode cX5_set 35 = .ok (.dup, 1) := by decide +kernel
theorem dX5_set_36 : decode cX5_set 36 = .ok (.ldc 189, 2) := by decide +kernel
theorem dX5_set_38 : decode cX5_set 38 = .ok (.invokespecial 72, 3) := by decide +kernel
theorem dX5_set_41 : decode cX5_set 41 = .ok (.athrow, 1) := by decide +kernel
theorem dX5_set_42 : decode cX5_set 42 = .ok (.aload_n 0, 1) := by decide +kernel
theorem dX5_set_43 : decode cX5_set 43 = .ok (.invokevirtual 50, 3) := by decide +kernel
theorem dX5_set_46 : decode cX5_set 46 = .ok (.aload_n 0, 1) := by decide +kernel
theorem dX5_set_47 : decode cX5_set 47 = .ok (.getfield 10, 3) := by decide +kernel
theorem dX5_set_50 : decode cX5_set 50 = .ok (.getfield 88, 3) := by decide +kernel
theorem dX5_set_53 : decode cX5_set 53 = .ok (.iload_n 1, 1) := by decide +kernel
theorem dX5_set_54 : decode cX5_set 54 = .ok (.iaload, 1) := by decide +kernel
theorem dX5_set_55 : decode cX5_set 55 = .ok (.istore_n 3, 1) := by decide +kernel
theorem dX5_set_56 : decode cX5_set 56 = .ok (.aload_n 0, 1) := by decide +kernel
theorem dX5_set_57 : decode cX5_set 57 = .ok (.getfield 10, 3) := by decide +kernel
theorem dX5_set_60 : decode cX5_set 60 = .ok (.getfield 88, 3) := by decide +kernel
theorem dX5_set_63 : decode cX5_set 63 = .ok (.iload_n 1, 1) := by decide +kernel
theorem dX5_set_64 : decode cX5_set 64 = .ok (.iload_n 2, 1) := by decide +kernel
theorem dX5_set_65 : decode cX5_set 65 = .ok (.iastore, 1) := by decide +kernel
theorem dX5_set_66 : decode cX5_set 66 = .ok (.iload_n 3, 1) := by decide +kernel
theorem dX5_set_67 : decode cX5_set 67 = .ok (.ireturn, 1) := by decide +kernel
theorem dX5_append_0 : decode cX5_append 0 = .ok (.iload_n 1, 1) := by decide +kernel
theorem dX5_append_1 : decode cX5_append 1 = .ok (.bipush 33, 2) := by decide +kernel
theorem dX5_append_3 : decode cX5_append 3 = .ok (.if_icmp .lt 9, 3) := by decide +kernel
theorem dX5_append_6 : decode cX5_append 6 = .ok (.iload_n 1, 1) := by decide +kernel
theorem dX5_append_7 : decode cX5_append 7 = .ok (.bipush 126, 2) := by decide +kernel
theorem dX5_append_9 : decode cX5_append 9 = .ok (.if_icmp .le 13, 3) := by decide +kernel
theorem dX5_append_12 : decode cX5_append 12 = .ok (.new 68, 3) := by decide +kernel
theorem dX5_append_15 : decode cX5_append 15 = .ok (.dup, 1) := by decide +kernel
theorem dX5_append_16 : decode cX5_append 16 = .ok (.ldc 191, 2) := by decide +kernel
theorem dX5_append_18 : decode cX5_append 18 = .ok (.invokespecial 72, 3) := by decide +kernel
theorem dX5_append_21 : decode cX5_append 21 = .ok (.athrow, 1) := by decide +kernel
theorem dX5_append_22 : decode cX5_append 22 = .ok (.aload_n 0, 1) := by decide +kernel
theorem dX5_append_23 : decode cX5_append 23 = .ok (.getfield 193, 3) := by decide +kernel
theorem dX5_append_26 : decode cX5_append 26 = .ok (.aload_n 0, 1) := by decide +kernel
theorem dX5_append_27 : decode cX5_append 27 = .ok (.getfield 20, 3) := by decide +kernel
theorem dX5_append_30 : decode cX5_append 30 = .ok (.arraylength, 1) := by decide +kernel
theorem dX5_append_31 : decode cX5_append 31 = .ok (.if_icmp .lt 13, 3) := by decide +kernel
theorem dX5_append_34 : decode cX5_append 34 = .ok (.new 43, 3) := by decide +kernel
theorem dX5_append_37 : decode cX5_append 37 = .ok (.dup, 1) := by decide +kernel
theorem dX5_append_38 : decode cX5_append 38 = .ok (.ldc 196, 2) := by decide +kernel
theorem dX5_append_40 : decode cX5_append 40 = .ok (.invokespecial 47, 3) := by decide +kernel
theorem dX5_append_43 : decode cX5_append 43 = .ok (.athrow, 1) := by decide +kernel
theorem dX5_append_44 : decode cX5_append 44 = .ok (.aload_n 0, 1) := by decide +kernel
theorem dX5_append_45 : decode cX5_append 45 = .ok (.getfield 20, 3) := by decide +kernel
theorem dX5_append_48 : decode cX5_append 48 = .ok (.aload_n 0, 1) := by decide +kernel
theorem dX5_append_49 : decode cX5_append 49 = .ok (.getfield 193, 3) := by decide +kernel
theorem dX5_append_52 : decode cX5_append 52 = .ok (.iload_n 1, 1) := by decide +kernel
theorem dX5_append_53 : decode cX5_append 53 = .ok (.iastore, 1) := by decide +kernel
theorem dX5_append_54 : decode cX5_append 54 = .ok (.aload_n 0, 1) := by decide +kernel
theorem dX5_append_55 : decode cX5_append 55 = .ok (.dup, 1) := by decide +kernel
theorem dX5_append_56 : decode cX5_append 56 = .ok (.getfield 193, 3) := by decide +kernel
theorem dX5_append_59 : decode cX5_append 59 = .ok (.iconst 1, 1) := by decide +kernel
theorem dX5_append_60 : decode cX5_append 60 = .ok (.iadd, 1) := by decide +kernel
theorem dX5_append_61 : decode cX5_append 61 = .ok (.putfield 193, 3) := by decide +kernel
theorem dX5_append_64 : decode cX5_append 64 = .ok (.aload_n 0, 1) := by decide +kernel
theorem dX5_append_65 : decode cX5_append 65 = .ok (.getfield 193, 3) := by decide +kernel
theorem dX5_append_68 : decode cX5_append 68 = .ok (.ireturn, 1) := by decide +kernel
theorem dX5_clearBuffer_0 : decode cX5_clearBuffer 0 = .ok (.aload_n 0, 1) := by decide +kernel
theorem dX5_clearBuffer_1 : decode cX5_clearBuffer 1 = .ok (.getfield 193, 3) := by decide +kernel
theorem dX5_clearBuffer_4 : decode cX5_clearBuffer 4 = .ok (.istore_n 1, 1) := by decide +kernel
theorem dX5_clearBuffer_5 : decode cX5_clearBuffer 5 = .ok (.aload_n 0, 1) := by decide +kernel
theorem dX5_clearBuffer_6 : decode cX5_clearBuffer 6 = .ok (.iconst 0, 1) := by decide +kernel
theorem dX5_clearBuffer_7 : decode cX5_clearBuffer 7 = .ok (.putfield 193, 3) := by decide +kernel
theorem dX5_clearBuffer_10 : decode cX5_clearBuffer 10 = .ok (.iload_n 1, 1) := by decide +kernel
theorem dX5_clearBuffer_11 : decode cX5_clearBuffer 11 = .ok (.ireturn, 1) := by decide +kernel
theorem dX5_firstError_0 : decode cX5_firstError 0 = .ok (.aload_n 0, 1) := by decide +kernel
theorem dX5_firstError_1 : decode cX5_firstError 1 = .ok (.getfield 27, 3) := by decide +kernel
theorem dX5_firstError_4 : decode cX5_firstError 4 = .ok (.invokevirtual 198, 3) := by decide +kernel
theorem dX5_firstError_7 : decode cX5_firstError 7 = .ok (.iconst 0, 1) := by decide +kernel
theorem dX5_firstError_8 : decode cX5_firstError 8 = .ok (.istore_n 1, 1) := by decide +kernel
theorem dX5_firstError_9 : decode cX5_firstError 9 = .ok (.iload_n 1, 1) := by decide +kernel
theorem dX5_firstError_10 : decode cX5_firstError 10 = .ok (.aload_n 0, 1) := by decide +kernel
theorem dX5_firstError_11 : decode cX5_firstError 11 = .ok (.getfield 193, 3) := by decide +kernel
theorem dX5_firstError_14 : decode cX5_firstError 14 = .ok (.if_icmp .ge 27, 3) := by decide +kernel
theorem dX5_firstError_17 : decode cX5_firstError 17 = .ok (.aload_n 0, 1) := by decide +kernel
theorem dX5_firstError_18 : decode cX5_firstError 18 = .ok (.getfield 27, 3) := by decide +kernel
theorem dX5_firstError_21 : decode cX5_firstError 21 = .ok (.aload_n 0, 1) := by decide +kernel
theorem dX5_firstError_22 : decode cX5_firstError 22 = .ok (.getfield 20, 3) := by decide +kernel
theorem dX5_firstError_25 : decode cX5_firstError 25 = .ok (.iload_n 1, 1) := by decide +kernel
theorem dX5_firstError_26 : decode cX5_firstError 26 = .ok (.iaload, 1) := by decide +kernel
theorem dX5_firstError_27 : decode cX5_firstError 27 = .ok (.invokevirtual 201, 3) := by decide +kernel
theorem dX5_firstError_30 : decode cX5_firstError 30 = .ok (.ifCond .ne 5, 3) := by decide +kernel
theorem dX5_firstError_33 : decode cX5_firstError 33 = .ok (.iload_n 1, 1) := by decide +kernel
theorem dX5_firstError_34 : decode cX5_firstError 34 = .ok (.ireturn, 1) := by decide +kernel
theorem dX5_firstError_35 : decode cX5_firstError 35 = .ok (.iinc 1 1, 3) := by decide +kernel
theorem dX5_firstError_38 : decode cX5_firstError 38 = .ok (.goto (-29), 3) := by decide +kernel
theorem dX5_firstError_41 : decode cX5_firstError 41 = .ok (.aload_n 0, 1) := by decide +kernel
theorem dX5_firstError_42 : decode cX5_firstError 42 = .ok (.getfield 193, 3) := by decide +kernel
theorem dX5_firstError_45 : decode cX5_firstError 45 = .ok (.ireturn, 1) := by decide +kernel
theorem dX5_run_0 : decode cX5_run 0 = .ok (.aload_n 0, 1) := by decide +kernel
theorem dX5_run_1 : decode cX5_run 1 = .ok (.invokevirtual 205, 3) := by decide +kernel
theorem dX5_run_4 : decode cX5_run 4 = .ok (.aload_n 0, 1) := by decide +kernel
theorem dX5_run_5 : decode cX5_run 5 = .ok (.getfield 193, 3) := by decide +kernel
theorem dX5_run_8 : decode cX5_run 8 = .ok (.if_icmp .lt 13, 3) := by decide +kernel
theorem dX5_run_11 : decode cX5_run 11 = .ok (.aload_n 0, 1) := by decide +kernel
theorem dX5_run_12 : decode cX5_run 12 = .ok (.getfield 27, 3) := by decide +kernel
theorem dX5_run_15 : decode cX5_run 15 = .ok (.invokevirtual 208, 3) := by decide +kernel
theorem dX5_run_18 : decode cX5_run 18 = .ok (.ifCond .ne 13, 3) := by decide +kernel
theorem dX5_run_21 : decode cX5_run 21 = .ok (.new 68, 3) := by decide +kernel
theorem dX5_run_24 : decode cX5_run 24 = .ok (.dup, 1) := by decide +kernel
theorem dX5_run_25 : decode cX5_run 25 = .ok (.ldc 212, 2) := by decide +kernel
theorem dX5_run_27 : decode cX5_run 27 = .ok (.invokespecial 72, 3) := by decide +kernel
theorem dX5_run_30 : decode cX5_run 30 = .ok (.athrow, 1) := by decide +kernel
theorem dX5_run_31 : decode cX5_run 31 = .ok (.aload_n 0, 1) := by decide +kernel
theorem dX5_run_32 : decode cX5_run 32 = .ok (.invokevirtual 50, 3) := by decide +kernel
theorem dX5_run_35 : decode cX5_run 35 = .ok (.aload_n 0, 1) := by decide +kernel
theorem dX5_run_36 : decode cX5_run 36 = .ok (.invokevirtual 214, 3) := by decide +kernel
theorem dX5_run_39 : decode cX5_run 39 = .ok (.istore_n 1, 1) := by decide +kernel
theorem dX5_run_40 : decode cX5_run 40 = .ok (.aload_n 0, 1) := by decide +kernel
theorem dX5_run_41 : decode cX5_run 41 = .ok (.iconst 0, 1) := by decide +kernel
theorem dX5_run_42 : decode cX5_run 42 = .ok (.putfield 193, 3) := by decide +kernel
theorem dX5_run_45 : decode cX5_run 45 = .ok (.iload_n 1, 1) := by decide +kernel
theorem dX5_run_46 : decode cX5_run 46 = .ok (.ireturn, 1) := by decide +kernel
theorem dX5_undo_0 : decode cX5_undo 0 = .ok (.aload_n 0, 1) := by decide +kernel
theorem dX5_undo_1 : decode cX5_undo 1 = .ok (.getfield 217, 3) := by decide +kernel
theorem dX5_undo_4 : decode cX5_undo 4 = .ok (.iconst 1, 1) := by decide +kernel
theorem dX5_undo_5 : decode cX5_undo 5 = .ok (.if_icmp .ge 13, 3) := by decide +kernel
theorem dX5_undo_8 : decode cX5_undo 8 = .ok (.new 43, 3) := by decide +kernel
theorem dX5_undo_11 : decode cX5_undo 11 = .ok (.dup, 1) := by decide +kernel
theorem dX5_undo_12 : decode cX5_undo 12 = .ok (.ldc 220, 2) := by decide +kernel
theorem dX5_undo_14 : decode cX5_undo 14 = .ok (.invokespecial 47, 3) := by decide +kernel
theorem dX5_undo_17 : decode cX5_undo 17 = .ok (.athrow, 1) := by decide +kernel
theorem dX5_undo_18 : decode cX5_undo 18 = .ok (.aload_n 0, 1) := by decide +kernel
theorem dX5_undo_19 : decode cX5_undo 19 = .ok (.dup, 1) := by decide +kernel
theorem dX5_undo_20 : decode cX5_undo 20 = .ok (.getfield 217, 3) := by decide +kernel
theorem dX5_undo_23 : decode cX5_undo 23 = .ok (.iconst 1, 1) := by decide +kernel
theorem dX5_undo_24 : decode cX5_undo 24 = .ok (.isub, 1) := by decide +kernel
theorem dX5_undo_25 : decode cX5_undo 25 = .ok (.putfield 217, 3) := by decide +kernel
theorem dX5_undo_28 : decode cX5_undo 28 = .ok (.aload_n 0, 1) := by decide +kernel
theorem dX5_undo_29 : decode cX5_undo 29 = .ok (.getfield 10, 3) := by decide +kernel
theorem dX5_undo_32 : decode cX5_undo 32 = .ok (.aload_n 0, 1) := by decide +kernel
theorem dX5_undo_33 : decode cX5_undo 33 = .ok (.getfield 16, 3) := by decide +kernel
theorem dX5_undo_36 : decode cX5_undo 36 = .ok (.aload_n 0, 1) := by decide +kernel
theorem dX5_undo_37 : decode cX5_undo 37 = .ok (.getfield 217, 3) := by decide +kernel
theorem dX5_undo_40 : decode cX5_undo 40 = .ok (.aaload, 1) := by decide +kernel
theorem dX5_undo_41 : decode cX5_undo 41 = .ok (.invokevirtual 222, 3) := by decide +kernel
theorem dX5_undo_44 : decode cX5_undo 44 = .ok (.aload_n 0, 1) := by decide +kernel
theorem dX5_undo_45 : decode cX5_undo 45 = .ok (.getfield 217, 3) := by decide +kernel
theorem dX5_undo_48 : decode cX5_undo 48 = .ok (.ireturn, 1) := by decide +kernel
theorem dX5_purse_0 : decode cX5_purse 0 = .ok (.aload_n 0, 1) := by decide +kernel
theorem dX5_purse_1 : decode cX5_purse 1 = .ok (.iload_n 1, 1) := by decide +kernel
theorem dX5_purse_2 : decode cX5_purse 2 = .ok (.iload_n 2, 1) := by decide +kernel
theorem dX5_purse_3 : decode cX5_purse 3 = .ok (.invokevirtual 31, 3) := by decide +kernel
theorem dX5_purse_6 : decode cX5_purse 6 = .ok (.astore 4, 2) := by decide +kernel
theorem dX5_purse_8 : decode cX5_purse 8 = .ok (.iload_n 3, 1) := by decide +kernel
theorem dX5_purse_9 : decode cX5_purse 9 = .ok (.tableswitch 131 0 7 #[47, 53, 63, 73, 79, 89, 111, 121], 47) := by decide +kernel
theorem dX5_purse_56 : decode cX5_purse 56 = .ok (.aload 4, 2) := by decide +kernel
theorem dX5_purse_58 : decode cX5_purse 58 = .ok (.getfield 57, 3) := by decide +kernel
theorem dX5_purse_61 : decode cX5_purse 61 = .ok (.ireturn, 1) := by decide +kernel
theorem dX5_purse_62 : decode cX5_purse 62 = .ok (.aload_n 0, 1) := by decide +kernel
theorem dX5_purse_63 : decode cX5_purse 63 = .ok (.getfield 10, 3) := by decide +kernel
theorem dX5_purse_66 : decode cX5_purse 66 = .ok (.aload 4, 2) := by decide +kernel
theorem dX5_purse_68 : decode cX5_purse 68 = .ok (.invokevirtual 226, 3) := by decide +kernel
theorem dX5_purse_71 : decode cX5_purse 71 = .ok (.ireturn, 1) := by decide +kernel
theorem dX5_purse_72 : decode cX5_purse 72 = .ok (.aload_n 0, 1) := by decide +kernel
theorem dX5_purse_73 : decode cX5_purse 73 = .ok (.getfield 10, 3) := by decide +kernel
theorem dX5_purse_76 : decode cX5_purse 76 = .ok (.aload 4, 2) := by decide +kernel
theorem dX5_purse_78 : decode cX5_purse 78 = .ok (.invokevirtual 229, 3) := by decide +kernel
theorem dX5_purse_81 : decode cX5_purse 81 = .ok (.ireturn, 1) := by decide +kernel
theorem dX5_purse_82 : decode cX5_purse 82 = .ok (.aload 4, 2) := by decide +kernel
theorem dX5_purse_84 : decode cX5_purse 84 = .ok (.getfield 232, 3) := by decide +kernel
theorem dX5_purse_87 : decode cX5_purse 87 = .ok (.ireturn, 1) := by decide +kernel
theorem dX5_purse_88 : decode cX5_purse 88 = .ok (.aload_n 0, 1) := by decide +kernel
theorem dX5_purse_89 : decode cX5_purse 89 = .ok (.getfield 10, 3) := by decide +kernel
theorem dX5_purse_92 : decode cX5_purse 92 = .ok (.aload 4, 2) := by decide +kernel
theorem dX5_purse_94 : decode cX5_purse 94 = .ok (.invokevirtual 235, 3) := by decide +kernel
theorem dX5_purse_97 : decode cX5_purse 97 = .ok (.ireturn, 1) := by decide +kernel
theorem dX5_purse_98 : decode cX5_purse 98 = .ok (.aload_n 0, 1) := by decide +kernel
theorem dX5_purse_99 : decode cX5_purse 99 = .ok (.getfield 10, 3) := by decide +kernel
theorem dX5_purse_102 : decode cX5_purse 102 = .ok (.aload 4, 2) := by decide +kernel
theorem dX5_purse_104 : decode cX5_purse 104 = .ok (.invokevirtual 238, 3) := by decide +kernel
theorem dX5_purse_107 : decode cX5_purse 107 = .ok (.ifCond .eq 11, 3) := by decide +kernel
theorem dX5_purse_110 : decode cX5_purse 110 = .ok (.aload 4, 2) := by decide +kernel
theorem dX5_purse_112 : decode cX5_purse 112 = .ok (.getfield 91, 3) := by decide +kernel
theorem dX5_purse_115 : decode cX5_purse 115 = .ok (.goto 4, 3) := by decide +kernel
theorem dX5_purse_118 : decode cX5_purse 118 = .ok (.iconst (-1), 1) := by decide +kernel
theorem dX5_purse_119 : decode cX5_purse 119 = .ok (.ireturn, 1) := by decide +kernel
theorem dX5_purse_120 : decode cX5_purse 120 = .ok (.aload_n 0, 1) := by decide +kernel
theorem dX5_purse_121 : decode cX5_purse 121 = .ok (.getfield 10, 3) := by decide +kernel
theorem dX5_purse_124 : decode cX5_purse 124 = .ok (.aload 4, 2) := by decide +kernel
theorem dX5_purse_126 : decode cX5_purse 126 = .ok (.invokevirtual 242, 3) := by decide +kernel
theorem dX5_purse_129 : decode cX5_purse 129 = .ok (.ireturn, 1) := by decide +kernel
theorem dX5_purse_130 : decode cX5_purse 130 = .ok (.aload_n 0, 1) := by decide +kernel
theorem dX5_purse_131 : decode cX5_purse 131 = .ok (.getfield 10, 3) := by decide +kernel
theorem dX5_purse_134 : decode cX5_purse 134 = .ok (.aload 4, 2) := by decide +kernel
theorem dX5_purse_136 : decode cX5_purse 136 = .ok (.invokevirtual 245, 3) := by decide +kernel
theorem dX5_purse_139 : decode cX5_purse 139 = .ok (.ireturn, 1) := by decide +kernel
theorem dX5_purse_140 : decode cX5_purse 140 = .ok (.new 68, 3) := by decide +kernel
theorem dX5_purse_143 : decode cX5_purse 143 = .ok (.dup, 1) := by decide +kernel
theorem dX5_purse_144 : decode cX5_purse 144 = .ok (.ldc 248, 2) := by decide +kernel
theorem dX5_purse_146 : decode cX5_purse 146 = .ok (.invokespecial 72, 3) := by decide +kernel
theorem dX5_purse_149 : decode cX5_purse 149 = .ok (.athrow, 1) := by decide +kernel
theorem dX5_held_0 : decode cX5_held 0 = .ok (.aload_n 0, 1) := by decide +kernel
theorem dX5_held_1 : decode cX5_held 1 = .ok (.iload_n 1, 1) := by decide +kernel
theorem dX5_held_2 : decode cX5_held 2 = .ok (.invokevirtual 112, 3) := by decide +kernel
theorem dX5_held_5 : decode cX5_held 5 = .ok (.astore_n 3, 1) := by decide +kernel
theorem dX5_held_6 : decode cX5_held 6 = .ok (.iload_n 2, 1) := by decide +kernel
theorem dX5_held_7 : decode cX5_held 7 = .ok (.tableswitch 58 0 4 #[33, 38, 43, 48, 53], 33) := by decide +kernel
theorem dX5_held_40 : decode cX5_held 40 = .ok (.aload_n 3, 1) := by decide +kernel
theorem dX5_held_41 : decode cX5_held 41 = .ok (.getfield 128, 3) := by decide +kernel
theorem dX5_held_44 : decode cX5_held 44 = .ok (.ireturn, 1) := by decide +kernel
theorem dX5_held_45 : decode cX5_held 45 = .ok (.aload_n 3, 1) := by decide +kernel
theorem dX5_held_46 : decode cX5_held 46 = .ok (.getfield 131, 3) := by decide +kernel
theorem dX5_held_49 : decode cX5_held 49 = .ok (.ireturn, 1) := by decide +kernel
theorem dX5_held_50 : decode cX5_held 50 = .ok (.aload_n 3, 1) := by decide +kernel
theorem dX5_held_51 : decode cX5_held 51 = .ok (.getfield 250, 3) := by decide +kernel
theorem dX5_held_54 : decode cX5_held 54 = .ok (.ireturn, 1) := by decide +kernel
theorem dX5_held_55 : decode cX5_held 55 = .ok (.aload_n 3, 1) := by decide +kernel
theorem dX5_held_56 : decode cX5_held 56 = .ok (.getfield 118, 3) := by decide +kernel
theorem dX5_held_59 : decode cX5_held 59 = .ok (.ireturn, 1) := by decide +kernel
theorem dX5_held_60 : decode cX5_held 60 = .ok (.aload_n 3, 1) := by decide +kernel
theorem dX5_held_61 : decode cX5_held 61 = .ok (.getfield 251, 3) := by decide +kernel
theorem dX5_held_64 : decode cX5_held 64 = .ok (.ireturn, 1) := by decide +kernel
theorem dX5_held_65 : decode cX5_held 65 = .ok (.new 68, 3) := by decide +kernel
theorem dX5_held_68 : decode cX5_held 68 = .ok (.dup, 1) := by decide +kernel
theorem dX5_held_69 : decode cX5_held 69 = .ok (.ldc 248, 2) := by decide +kernel
theorem dX5_held_71 : decode cX5_held 71 = .ok (.invokespecial 72, 3) := by decide +kernel
theorem dX5_held_74 : decode cX5_held 74 = .ok (.athrow, 1) := by decide +kernel
theorem dX5_payment_0 : decode cX5_payment 0 = .ok (.aload_n 0, 1) := by decide +kernel
theorem dX5_payment_1 : decode cX5_payment 1 = .ok (.iload_n 1, 1) := by decide +kernel
theorem dX5_payment_2 : decode cX5_payment 2 = .ok (.invokevirtual 138, 3) := by decide +kernel
theorem dX5_payment_5 : decode cX5_payment 5 = .ok (.astore_n 3, 1) := by decide +kernel
theorem dX5_payment_6 : decode cX5_payment 6 = .ok (.iload_n 2, 1) := by decide +kernel
theorem dX5_payment_7 : decode cX5_payment 7 = .ok (.tableswitch 79 0 5 #[37, 42, 47, 52, 57, 62], 37) := by decide +kernel
theorem dX5_payment_44 : decode cX5_payment 44 = .ok (.aload_n 3, 1) := by decide +kernel
theorem dX5_payment_45 : decode cX5_payment 45 = .ok (.getfield 148, 3) := by decide +kernel
theorem dX5_payment_48 : decode cX5_payment 48 = .ok (.ireturn, 1) := by decide +kernel
theorem dX5_payment_49 : decode cX5_payment 49 = .ok (.aload_n 3, 1) := by decide +kernel
theorem dX5_payment_50 : decode cX5_payment 50 = .ok (.getfield 151, 3) := by decide +kernel
theorem dX5_payment_53 : decode cX5_payment 53 = .ok (.ireturn, 1) := by decide +kernel
theorem dX5_payment_54 : decode cX5_payment 54 = .ok (.aload_n 3, 1) := by decide +kernel
theorem dX5_payment_55 : decode cX5_payment 55 = .ok (.getfield 155, 3) := by decide +kernel
theorem dX5_payment_58 : decode cX5_payment 58 = .ok (.ireturn, 1) := by decide +kernel
theorem dX5_payment_59 : decode cX5_payment 59 = .ok (.aload_n 3, 1) := by decide +kernel
theorem dX5_payment_60 : decode cX5_payment 60 = .ok (.getfield 252, 3) := by decide +kernel
theorem dX5_payment_63 : decode cX5_payment 63 = .ok (.ireturn, 1) := by decide +kernel
theorem dX5_payment_64 : decode cX5_payment 64 = .ok (.aload_n 3, 1) := by decide +kernel
theorem dX5_payment_65 : decode cX5_payment 65 = .ok (.getfield 152, 3) := by decide +kernel
theorem dX5_payment_68 : decode cX5_payment 68 = .ok (.ireturn, 1) := by decide +kernel
theorem dX5_payment_69 : decode cX5_payment 69 = .ok (.aload_n 0, 1) := by decide +kernel
theorem dX5_payment_70 : decode cX5_payment 70 = .ok (.getfield 10, 3) := by decide +kernel
theorem dX5_payment_73 : decode cX5_payment 73 = .ok (.aload_n 3, 1) := by decide +kernel
theorem dX5_payment_74 : decode cX5_payment 74 = .ok (.invokevirtual 142, 3) := by decide +kernel
theorem dX5_payment_77 : decode cX5_payment 77 = .ok (.ifCond .eq 7, 3) := by decide +kernel
theorem dX5_payment_80 : decode cX5_payment 80 = .ok (.iconst 1, 1) := by decide +kernel
theorem dX5_payment_81 : decode cX5_payment 81 = .ok (.goto 4, 3) := by decide +kernel
theorem dX5_payment_84 : decode cX5_payment 84 = .ok (.iconst 0, 1) := by decide +kernel
theorem dX5_payment_85 : decode cX5_payment 85 = .ok (.ireturn, 1) := by decide +kernel
theorem dX5_payment_86 : decode cX5_payment 86 = .ok (.new 68, 3) := by decide +kernel
theorem dX5_payment_89 : decode cX5_payment 89 = .ok (.dup, 1) := by decide +kernel
theorem dX5_payment_90 : decode cX5_payment 90 = .ok (.ldc 248, 2) := by decide +kernel
theorem dX5_payment_92 : decode cX5_payment 92 = .ok (.invokespecial 72, 3) := by decide +kernel
theorem dX5_payment_95 : decode cX5_payment 95 = .ok (.athrow, 1) := by decide +kernel
theorem dX5_count_0 : decode cX5_count 0 = .ok (.iload_n 1, 1) := by decide +kernel
theorem dX5_count_1 : decode cX5_count 1 = .ok (.tableswitch 169 0 13 #[71, 79, 87, 95, 103, 111, 119, 127, 135, 143, 143, 143, 156, 164], 71) := by decide +kernel
theorem dX5_count_72 : decode cX5_count 72 = .ok (.aload_n 0, 1) := by decide +kernel
theorem dX5_count_73 : decode cX5_count 73 = .ok (.getfield 10, 3) := by decide +kernel
theorem dX5_count_76 : decode cX5_count 76 = .ok (.getfield 85, 3) := by decide +kernel
theorem dX5_count_79 : decode cX5_count 79 = .ok (.ireturn, 1) := by decide +kernel
theorem dX5_count_80 : decode cX5_count 80 = .ok (.aload_n 0, 1) := by decide +kernel
theorem dX5_count_81 : decode cX5_count 81 = .ok (.getfield 10, 3) := by decide +kernel
theorem dX5_count_84 : decode cX5_count 84 = .ok (.getfield 253, 3) := by decide +kernel
theorem dX5_count_87 : decode cX5_count 87 = .ok (.ireturn, 1) := by decide +kernel
theorem dX5_count_88 : decode cX5_count 88 = .ok (.aload_n 0, 1) := by decide +kernel
theorem dX5_count_89 : decode cX5_count 89 = .ok (.getfield 10, 3) := by decide +kernel
theorem dX5_count_92 : decode cX5_count 92 = .ok (.getfield 123, 3) := by decide +kernel
theorem dX5_count_95 : decode cX5_count 95 = .ok (.ireturn, 1) := by decide +kernel
theorem dX5_count_96 : decode cX5_count 96 = .ok (.aload_n 0, 1) := by decide +kernel
theorem dX5_count_97 : decode cX5_count 97 = .ok (.getfield 10, 3) := by decide +kernel
theorem dX5_count_100 : decode cX5_count 100 = .ok (.invokevirtual 256, 3) := by decide +kernel
theorem dX5_count_103 : decode cX5_count 103 = .ok (.ireturn, 1) := by decide +kernel
theorem dX5_count_104 : decode cX5_count 104 = .ok (.aload_n 0, 1) := by decide +kernel
theorem dX5_count_105 : decode cX5_count 105 = .ok (.getfield 10, 3) := by decide +kernel
theorem dX5_count_108 : decode cX5_count 108 = .ok (.getfield 259, 3) := by decide +kernel
theorem dX5_count_111 : decode cX5_count 111 = .ok (.ireturn, 1) := by decide +kernel
theorem dX5_count_112 : decode cX5_count 112 = .ok (.aload_n 0, 1) := by decide +kernel
theorem dX5_count_113 : decode cX5_count 113 = .ok (.getfield 10, 3) := by decide +kernel
theorem dX5_count_116 : decode cX5_count 116 = .ok (.getfield 262, 3) := by decide +kernel
theorem dX5_count_119 : decode cX5_count 119 = .ok (.ireturn, 1) := by decide +kernel
theorem dX5_count_120 : decode cX5_count 120 = .ok (.aload_n 0, 1) := by decide +kernel
theorem dX5_count_121 : decode cX5_count 121 = .ok (.getfield 10, 3) := by decide +kernel
theorem dX5_count_124 : decode cX5_count 124 = .ok (.getfield 265, 3) := by decide +kernel
theorem dX5_count_127 : decode cX5_count 127 = .ok (.ireturn, 1) := by decide +kernel
theorem dX5_count_128 : decode cX5_count 128 = .ok (.aload_n 0, 1) := by decide +kernel
theorem dX5_count_129 : decode cX5_count 129 = .ok (.getfield 10, 3) := by decide +kernel
theorem dX5_count_132 : decode cX5_count 132 = .ok (.getfield 268, 3) := by decide +kernel
theorem dX5_count_135 : decode cX5_count 135 = .ok (.ireturn, 1) := by decide +kernel
theorem dX5_count_136 : decode cX5_count 136 = .ok (.aload_n 0, 1) := by decide +kernel
theorem dX5_count_137 : decode cX5_count 137 = .ok (.getfield 10, 3) := by decide +kernel
theorem dX5_count_140 : decode cX5_count 140 = .ok (.getfield 271, 3) := by decide +kernel
theorem dX5_count_143 : decode cX5_count 143 = .ok (.ireturn, 1) := by decide +kernel
theorem dX5_count_144 : decode cX5_count 144 = .ok (.aload_n 0, 1) := by decide +kernel
theorem dX5_count_145 : decode cX5_count 145 = .ok (.getfield 10, 3) := by decide +kernel
theorem dX5_count_148 : decode cX5_count 148 = .ok (.getfield 73, 3) := by decide +kernel
theorem dX5_count_151 : decode cX5_count 151 = .ok (.iload_n 1, 1) := by decide +kernel
theorem dX5_count_152 : decode cX5_count 152 = .ok (.bipush 8, 2) := by decide +kernel
theorem dX5_count_154 : decode cX5_count 154 = .ok (.isub, 1) := by decide +kernel
theorem dX5_count_155 : decode cX5_count 155 = .ok (.iaload, 1) := by decide +kernel
theorem dX5_count_156 : decode cX5_count 156 = .ok (.ireturn, 1) := by decide +kernel
theorem dX5_count_157 : decode cX5_count 157 = .ok (.aload_n 0, 1) := by decide +kernel
theorem dX5_count_158 : decode cX5_count 158 = .ok (.getfield 10, 3) := by decide +kernel
theorem dX5_count_161 : decode cX5_count 161 = .ok (.getfield 274, 3) := by decide +kernel
theorem dX5_count_164 : decode cX5_count 164 = .ok (.ireturn, 1) := by decide +kernel
theorem dX5_count_165 : decode cX5_count 165 = .ok (.aload_n 0, 1) := by decide +kernel
theorem dX5_count_166 : decode cX5_count 166 = .ok (.getfield 217, 3) := by decide +kernel
theorem dX5_count_169 : decode cX5_count 169 = .ok (.ireturn, 1) := by decide +kernel
theorem dX5_count_170 : decode cX5_count 170 = .ok (.new 68, 3) := by decide +kernel
theorem dX5_count_173 : decode cX5_count 173 = .ok (.dup, 1) := by decide +kernel
theorem dX5_count_174 : decode cX5_count 174 = .ok (.ldc_w 277, 3) := by decide +kernel
theorem dX5_count_177 : decode cX5_count 177 = .ok (.invokespecial 72, 3) := by decide +kernel
theorem dX5_count_180 : decode cX5_count 180 = .ok (.athrow, 1) := by decide +kernel
theorem dX5_setting_0 : decode cX5_setting 0 = .ok (.iload_n 1, 1) := by decide +kernel
theorem dX5_setting_1 : decode cX5_setting 1 = .ok (.ifCond .lt 8, 3) := by decide +kernel
theorem dX5_setting_4 : decode cX5_setting 4 = .ok (.iload_n 1, 1) := by decide +kernel
theorem dX5_setting_5 : decode cX5_setting 5 = .ok (.iconst 4, 1) := by decide +kernel
theorem dX5_setting_6 : decode cX5_setting 6 = .ok (.if_icmp .lt 13, 3) := by decide +kernel
theorem dX5_setting_9 : decode cX5_setting 9 = .ok (.new 63, 3) := by decide +kernel
theorem dX5_setting_12 : decode cX5_setting 12 = .ok (.dup, 1) := by decide +kernel
theorem dX5_setting_13 : decode cX5_setting 13 = .ok (.ldc 184, 2) := by decide +kernel
theorem dX5_setting_15 : decode cX5_setting 15 = .ok (.invokespecial 67, 3) := by decide +kernel
theorem dX5_setting_18 : decode cX5_setting 18 = .ok (.athrow, 1) := by decide +kernel
theorem dX5_setting_19 : decode cX5_setting 19 = .ok (.aload_n 0, 1) := by decide +kernel
theorem dX5_setting_20 : decode cX5_setting 20 = .ok (.getfield 10, 3) := by decide +kernel
theorem dX5_setting_23 : decode cX5_setting 23 = .ok (.getfield 88, 3) := by decide +kernel
theorem dX5_setting_26 : decode cX5_setting 26 = .ok (.iload_n 1, 1) := by decide +kernel
theorem dX5_setting_27 : decode cX5_setting 27 = .ok (.iaload, 1) := by decide +kernel
theorem dX5_setting_28 : decode cX5_setting 28 = .ok (.ireturn, 1) := by decide +kernel
theorem dX5_ifExchanged_0 : decode cX5_ifExchanged 0 = .ok (.aload_n 0, 1) := by decide +kernel
theorem dX5_ifExchanged_1 : decode cX5_ifExchanged 1 = .ok (.iload_n 1, 1) := by decide +kernel
theorem dX5_ifExchanged_2 : decode cX5_ifExchanged 2 = .ok (.iload_n 2, 1) := by decide +kernel
theorem dX5_ifExchanged_3 : decode cX5_ifExchanged 3 = .ok (.invokevirtual 31, 3) := by decide +kernel
theorem dX5_ifExchanged_6 : decode cX5_ifExchanged 6 = .ok (.astore 5, 2) := by decide +kernel
theorem dX5_ifExchanged_8 : decode cX5_ifExchanged 8 = .ok (.aload_n 0, 1) := by decide +kernel
theorem dX5_ifExchanged_9 : decode cX5_ifExchanged 9 = .ok (.iload_n 1, 1) := by decide +kernel
theorem dX5_ifExchanged_10 : decode cX5_ifExchanged 10 = .ok (.iload_n 3, 1) := by decide +kernel
theorem dX5_ifExchanged_11 : decode cX5_ifExchanged 11 = .ok (.invokevirtual 31, 3) := by decide +kernel
theorem dX5_ifExchanged_14 : decode cX5_ifExchanged 14 = .ok (.astore 6, 2) := by decide +kernel
theorem dX5_ifExchanged_16 : decode cX5_ifExchanged 16 = .ok (.aload_n 0, 1) := by decide +kernel
theorem dX5_ifExchanged_17 : decode cX5_ifExchanged 17 = .ok (.iload 4, 2) := by decide +kernel
theorem dX5_ifExchanged_19 : decode cX5_ifExchanged 19 = .ok (.invokevirtual 35, 3) := by decide +kernel
theorem dX5_ifExchanged_22 : decode cX5_ifExchanged 22 = .ok (.aload_n 0, 1) := by decide +kernel
theorem dX5_ifExchanged_23 : decode cX5_ifExchanged 23 = .ok (.getfield 10, 3) := by decide +kernel
theorem dX5_ifExchanged_26 : decode cX5_ifExchanged 26 = .ok (.aload 5, 2) := by decide +kernel
theorem dX5_ifExchanged_28 : decode cX5_ifExchanged 28 = .ok (.aload 6, 2) := by decide +kernel
theorem dX5_ifExchanged_30 : decode cX5_ifExchanged 30 = .ok (.invokevirtual 279, 3) := by decide +kernel
theorem dX5_ifExchanged_33 : decode cX5_ifExchanged 33 = .ok (.ifCond .eq 19, 3) := by decide +kernel
theorem dX5_ifExchanged_36 : decode cX5_ifExchanged 36 = .ok (.aload_n 0, 1) := by decide +kernel
theorem dX5_ifExchanged_37 : decode cX5_ifExchanged 37 = .ok (.getfield 10, 3) := by decide +kernel
theorem dX5_ifExchanged_40 : decode cX5_ifExchanged 40 = .ok (.aload 5, 2) := by decide +kernel
theorem dX5_ifExchanged_42 : decode cX5_ifExchanged 42 = .ok (.aload 6, 2) := by decide +kernel
theorem dX5_ifExchanged_44 : decode cX5_ifExchanged 44 = .ok (.iload 4, 2) := by decide +kernel
theorem dX5_ifExchanged_46 : decode cX5_ifExchanged 46 = .ok (.invokevirtual 283, 3) := by decide +kernel
theorem dX5_ifExchanged_49 : decode cX5_ifExchanged 49 = .ok (.goto 4, 3) := by decide +kernel
theorem dX5_ifExchanged_52 : decode cX5_ifExchanged 52 = .ok (.iconst (-1), 1) := by decide +kernel
theorem dX5_ifExchanged_53 : decode cX5_ifExchanged 53 = .ok (.ireturn, 1) := by decide +kernel
theorem dX5_needed_0 : decode cX5_needed 0 = .ok (.aload_n 0, 1) := by decide +kernel
theorem dX5_needed_1 : decode cX5_needed 1 = .ok (.iload_n 1, 1) := by decide +kernel
theorem dX5_needed_2 : decode cX5_needed 2 = .ok (.iload_n 2, 1) := by decide +kernel
theorem dX5_needed_3 : decode cX5_needed 3 = .ok (.invokevirtual 76, 3) := by decide +kernel
theorem dX5_needed_6 : decode cX5_needed 6 = .ok (.astore 4, 2) := by decide +kernel
theorem dX5_needed_8 : decode cX5_needed 8 = .ok (.iload_n 3, 1) := by decide +kernel
theorem dX5_needed_9 : decode cX5_needed 9 = .ok (.iconst 1, 1) := by decide +kernel
theorem dX5_needed_10 : decode cX5_needed 10 = .ok (.if_icmp .lt 10, 3) := by decide +kernel
theorem dX5_needed_13 : decode cX5_needed 13 = .ok (.iload_n 3, 1) := by decide +kernel
theorem dX5_needed_14 : decode cX5_needed 14 = .ok (.sipush 9999, 3) := by decide +kernel
theorem dX5_needed_17 : decode cX5_needed 17 = .ok (.if_icmp .le 14, 3) := by decide +kernel
theorem dX5_needed_20 : decode cX5_needed 20 = .ok (.new 68, 3) := by decide +kernel
theorem dX5_needed_23 : decode cX5_needed 23 = .ok (.dup, 1) := by decide +kernel
theorem dX5_needed_24 : decode cX5_needed 24 = .ok (.ldc_w 286, 3) := by decide +kernel
theorem dX5_needed_27 : decode cX5_needed 27 = .ok (.invokespecial 72, 3) := by decide +kernel
theorem dX5_needed_30 : decode cX5_needed 30 = .ok (.athrow, 1) := by decide +kernel
theorem dX5_needed_31 : decode cX5_needed 31 = .ok (.aload_n 0, 1) := by decide +kernel
theorem dX5_needed_32 : decode cX5_needed 32 = .ok (.iload_n 1, 1) := by decide +kernel
theorem dX5_needed_33 : decode cX5_needed 33 = .ok (.iconst 0, 1) := by decide +kernel
theorem dX5_needed_34 : decode cX5_needed 34 = .ok (.invokevirtual 31, 3) := by decide +kernel
theorem dX5_needed_37 : decode cX5_needed 37 = .ok (.astore 5, 2) := by decide +kernel
theorem dX5_needed_39 : decode cX5_needed 39 = .ok (.iconst 0, 1) := by decide +kernel
theorem dX5_needed_40 : decode cX5_needed 40 = .ok (.istore 6, 2) := by decide +kernel
theorem dX5_needed_42 : decode cX5_needed 42 = .ok (.ldc_w 288, 3) := by decide +kernel
theorem dX5_needed_45 : decode cX5_needed 45 = .ok (.istore 7, 2) := by decide +kernel
theorem dX5_needed_47 : decode cX5_needed 47 = .ok (.iload 7, 2) := by decide +kernel
theorem dX5_needed_49 : decode cX5_needed 49 = .ok (.ifCond .le 39, 3) := by decide +kernel
theorem dX5_needed_52 : decode cX5_needed 52 = .ok (.aload_n 0, 1) := by decide +kernel
theorem dX5_needed_53 : decode cX5_needed 53 = .ok (.getfield 10, 3) := by decide +kernel
theorem dX5_needed_56 : decode cX5_needed 56 = .ok (.aload 5, 2) := by decide +kernel
theorem dX5_needed_58 : decode cX5_needed 58 = .ok (.aload 4, 2) := by decide +kernel
theorem dX5_needed_60 : decode cX5_needed 60 = .ok (.iload 6, 2) := by decide +kernel
theorem dX5_needed_62 : decode cX5_needed 62 = .ok (.iload 7, 2) := by decide +kernel
theorem dX5_needed_64 : decode cX5_needed 64 = .ok (.iadd, 1) := by decide +kernel
theorem dX5_needed_65 : decode cX5_needed 65 = .ok (.invokevirtual 283, 3) := by decide +kernel
theorem dX5_needed_68 : decode cX5_needed 68 = .ok (.iload_n 3, 1) := by decide +kernel
theorem dX5_needed_69 : decode cX5_needed 69 = .ok (.if_icmp .ge 10, 3) := by decide +kernel
theorem dX5_needed_72 : decode cX5_needed 72 = .ok (.iload 6, 2) := by decide +kernel
theorem dX5_needed_74 : decode cX5_needed 74 = .ok (.iload 7, 2) := by decide +kernel
theorem dX5_needed_76 : decode cX5_needed 76 = .ok (.iadd, 1) := by decide +kernel
theorem dX5_needed_77 : decode cX5_needed 77 = .ok (.istore 6, 2) := by decide +kernel
theorem dX5_needed_79 : decode cX5_needed 79 = .ok (.iload 7, 2) := by decide +kernel
theorem dX5_needed_81 : decode cX5_needed 81 = .ok (.iconst 2, 1) := by decide +kernel
theorem dX5_needed_82 : decode cX5_needed 82 = .ok (.idiv, 1) := by decide +kernel
theorem dX5_needed_83 : decode cX5_needed 83 = .ok (.istore 7, 2) := by decide +kernel
theorem dX5_needed_85 : decode cX5_needed 85 = .ok (.goto (-38), 3) := by decide +kernel
theorem dX5_needed_88 : decode cX5_needed 88 = .ok (.iload 6, 2) := by decide +kernel
theorem dX5_needed_90 : decode cX5_needed 90 = .ok (.iconst 1, 1) := by decide +kernel
theorem dX5_needed_91 : decode cX5_needed 91 = .ok (.iadd, 1) := by decide +kernel
theorem dX5_needed_92 : decode cX5_needed 92 = .ok (.ireturn, 1) := by decide +kernel
theorem dX5_room_0 : decode cX5_room 0 = .ok (.aload_n 0, 1) := by decide +kernel
theorem dX5_room_1 : decode cX5_room 1 = .ok (.getfield 10, 3) := by decide +kernel
theorem dX5_room_4 : decode cX5_room 4 = .ok (.aload_n 0, 1) := by decide +kernel
theorem dX5_room_5 : decode cX5_room 5 = .ok (.iload_n 1, 1) := by decide +kernel
theorem dX5_room_6 : decode cX5_room 6 = .ok (.iload_n 2, 1) := by decide +kernel
theorem dX5_room_7 : decode cX5_room 7 = .ok (.invokevirtual 31, 3) := by decide +kernel
theorem dX5_room_10 : decode cX5_room 10 = .ok (.invokevirtual 229, 3) := by decide +kernel
theorem dX5_room_13 : decode cX5_room 13 = .ok (.istore_n 3, 1) := by decide +kernel
theorem dX5_room_14 : decode cX5_room 14 = .ok (.iconst 0, 1) := by decide +kernel
theorem dX5_room_15 : decode cX5_room 15 = .ok (.istore 4, 2) := by decide +kernel
theorem dX5_room_17 : decode cX5_room 17 = .ok (.ldc_w 288, 3) := by decide +kernel
theorem dX5_room_20 : decode cX5_room 20 = .ok (.istore 5, 2) := by decide +kernel
theorem dX5_room_22 : decode cX5_room 22 = .ok (.iload 5, 2) := by decide +kernel
theorem dX5_room_24 : decode cX5_room 24 = .ok (.ifCond .le 44, 3) := by decide +kernel
theorem dX5_room_27 : decode cX5_room 27 = .ok (.iload 4, 2) := by decide +kernel
theorem dX5_room_29 : decode cX5_room 29 = .ok (.iload 5, 2) := by decide +kernel
theorem dX5_room_31 : decode cX5_room 31 = .ok (.iadd, 1) := by decide +kernel
theorem dX5_room_32 : decode cX5_room 32 = .ok (.istore 6, 2) := by decide +kernel
theorem dX5_room_34 : decode cX5_room 34 = .ok (.iload 6, 2) := by decide +kernel
theorem dX5_room_36 : decode cX5_room 36 = .ok (.ldc_w 289, 3) := by decide +kernel
theorem dX5_room_39 : decode cX5_room 39 = .ok (.if_icmp .gt 20, 3) := by decide +kernel
theorem dX5_room_42 : decode cX5_room 42 = .ok (.aload_n 0, 1) := by decide +kernel
theorem dX5_room_43 : decode cX5_room 43 = .ok (.getfield 10, 3) := by decide +kernel
theorem dX5_room_46 : decode cX5_room 46 = .ok (.iload 6, 2) := by decide +kernel
theorem dX5_room_48 : decode cX5_room 48 = .ok (.invokevirtual 290, 3) := by decide +kernel
theorem dX5_room_51 : decode cX5_room 51 = .ok (.iload_n 3, 1) := by decide +kernel
theorem dX5_room_52 : decode cX5_room 52 = .ok (.if_icmp .gt 7, 3) := by decide +kernel
theorem dX5_room_55 : decode cX5_room 55 = .ok (.iload 6, 2) := by decide +kernel
theorem dX5_room_57 : decode cX5_room 57 = .ok (.istore 4, 2) := by decide +kernel
theorem dX5_room_59 : decode cX5_room 59 = .ok (.iload 5, 2) := by decide +kernel
theorem dX5_room_61 : decode cX5_room 61 = .ok (.iconst 2, 1) := by decide +kernel
theorem dX5_room_62 : decode cX5_room 62 = .ok (.idiv, 1) := by decide +kernel
theorem dX5_room_63 : decode cX5_room 63 = .ok (.istore 5, 2) := by decide +kernel
theorem dX5_room_65 : decode cX5_room 65 = .ok (.goto (-43), 3) := by decide +kernel
theorem dX5_room_68 : decode cX5_room 68 = .ok (.iload 4, 2) := by decide +kernel
theorem dX5_room_70 : decode cX5_room 70 = .ok (.ireturn, 1) := by decide +kernel
theorem dX5_whyNot_0 : decode cX5_whyNot 0 = .ok (.aload_n 0, 1) := by decide +kernel
theorem dX5_whyNot_1 : decode cX5_whyNot 1 = .ok (.iload_n 2, 1) := by decide +kernel
theorem dX5_whyNot_2 : decode cX5_whyNot 2 = .ok (.iload_n 3, 1) := by decide +kernel
theorem dX5_whyNot_3 : decode cX5_whyNot 3 = .ok (.invokevirtual 31, 3) := by decide +kernel
theorem dX5_whyNot_6 : decode cX5_whyNot 6 = .ok (.astore 6, 2) := by decide +kernel
theorem dX5_whyNot_8 : decode cX5_whyNot 8 = .ok (.aload_n 0, 1) := by decide +kernel
theorem dX5_whyNot_9 : decode cX5_whyNot 9 = .ok (.iload_n 2, 1) := by decide +kernel
theorem dX5_whyNot_10 : decode cX5_whyNot 10 = .ok (.iload 4, 2) := by decide +kernel
theorem dX5_whyNot_12 : decode cX5_whyNot 12 = .ok (.invokevirtual 31, 3) := by decide +kernel
theorem dX5_whyNot_15 : decode cX5_whyNot 15 = .ok (.astore 7, 2) := by decide +kernel
theorem dX5_whyNot_17 : decode cX5_whyNot 17 = .ok (.aload_n 0, 1) := by decide +kernel
theorem dX5_whyNot_18 : decode cX5_whyNot 18 = .ok (.iload 5, 2) := by decide +kernel
theorem dX5_whyNot_20 : decode cX5_whyNot 20 = .ok (.invokevirtual 35, 3) := by decide +kernel
theorem dX5_whyNot_23 : decode cX5_whyNot 23 = .ok (.iload_n 1, 1) := by decide +kernel
theorem dX5_whyNot_24 : decode cX5_whyNot 24 = .ok (.tableswitch 63 0 2 #[28, 42, 54], 28) := by decide +kernel
theorem dX5_whyNot_52 : decode cX5_whyNot 52 = .ok (.aload_n 0, 1) := by decide +kernel
theorem dX5_whyNot_53 : decode cX5_whyNot 53 = .ok (.getfield 10, 3) := by decide +kernel
theorem dX5_whyNot_56 : decode cX5_whyNot 56 = .ok (.aload 6, 2) := by decide +kernel
theorem dX5_whyNot_58 : decode cX5_whyNot 58 = .ok (.aload 7, 2) := by decide +kernel
theorem dX5_whyNot_60 : decode cX5_whyNot 60 = .ok (.iload 5, 2) := by decide +kernel
theorem dX5_whyNot_62 : decode cX5_whyNot 62 = .ok (.invokevirtual 94, 3) := by decide +kernel
theorem dX5_whyNot_65 : decode cX5_whyNot 65 = .ok (.ireturn, 1) := by decide +kernel
theorem dX5_whyNot_66 : decode cX5_whyNot 66 = .ok (.aload_n 0, 1) := by decide +kernel
theorem dX5_whyNot_67 : decode cX5_whyNot 67 = .ok (.getfield 10, 3) := by decide +kernel
theorem dX5_whyNot_70 : decode cX5_whyNot 70 = .ok (.aload 6, 2) := by decide +kernel
theorem dX5_whyNot_72 : decode cX5_whyNot 72 = .ok (.iload 5, 2) := by decide +kernel
theorem dX5_whyNot_74 : decode cX5_whyNot 74 = .ok (.invokevirtual 103, 3) := by decide +kernel
theorem dX5_whyNot_77 : decode cX5_whyNot 77 = .ok (.ireturn, 1) := by decide +kernel
theorem dX5_whyNot_78 : decode cX5_whyNot 78 = .ok (.aload_n 0, 1) := by decide +kernel
theorem dX5_whyNot_79 : decode cX5_whyNot 79 = .ok (.getfield 10, 3) := by decide +kernel
theorem dX5_whyNot_82 : decode cX5_whyNot 82 = .ok (.iload_n 2, 1) := by decide +kernel
theorem dX5_whyNot_83 : decode cX5_whyNot 83 = .ok (.invokevirtual 166, 3) := by decide +kernel
theorem dX5_whyNot_86 : decode cX5_whyNot 86 = .ok (.ireturn, 1) := by decide +kernel
theorem dX5_whyNot_87 : decode cX5_whyNot 87 = .ok (.new 68, 3) := by decide +kernel
theorem dX5_whyNot_90 : decode cX5_whyNot 90 = .ok (.dup, 1) := by decide +kernel
theorem dX5_whyNot_91 : decode cX5_whyNot 91 = .ok (.ldc_w 293, 3) := by decide +kernel
theorem dX5_whyNot_94 : decode cX5_whyNot 94 = .ok (.invokespecial 72, 3) := by decide +kernel
theorem dX5_whyNot_97 : decode cX5_whyNot 97 = .ok (.athrow, 1) := by decide +kernel
theorem dX5_ifClosed_0 : decode cX5_ifClosed 0 = .ok (.aload_n 0, 1) := by decide +kernel
theorem dX5_ifClosed_1 : decode cX5_ifClosed 1 = .ok (.iload_n 1, 1) := by decide +kernel
theorem dX5_ifClosed_2 : decode cX5_ifClosed 2 = .ok (.iconst 0, 1) := by decide +kernel
theorem dX5_ifClosed_3 : decode cX5_ifClosed 3 = .ok (.invokevirtual 31, 3) := by decide +kernel
theorem dX5_ifClosed_6 : decode cX5_ifClosed 6 = .ok (.astore_n 2, 1) := by decide +kernel
theorem dX5_ifClosed_7 : decode cX5_ifClosed 7 = .ok (.aload_n 0, 1) := by decide +kernel
theorem dX5_ifClosed_8 : decode cX5_ifClosed 8 = .ok (.getfield 10, 3) := by decide +kernel
theorem dX5_ifClosed_11 : decode cX5_ifClosed 11 = .ok (.iload_n 1, 1) := by decide +kernel
theorem dX5_ifClosed_12 : decode cX5_ifClosed 12 = .ok (.invokevirtual 166, 3) := by decide +kernel
theorem dX5_ifClosed_15 : decode cX5_ifClosed 15 = .ok (.ifCond .eq 5, 3) := by decide +kernel
theorem dX5_ifClosed_18 : decode cX5_ifClosed 18 = .ok (.iconst (-1), 1) := by decide +kernel
theorem dX5_ifClosed_19 : decode cX5_ifClosed 19 = .ok (.ireturn, 1) := by decide +kernel
theorem dX5_ifClosed_20 : decode cX5_ifClosed 20 = .ok (.aload_n 2, 1) := by decide +kernel
theorem dX5_ifClosed_21 : decode cX5_ifClosed 21 = .ok (.getfield 57, 3) := by decide +kernel
theorem dX5_ifClosed_24 : decode cX5_ifClosed 24 = .ok (.istore_n 3, 1) := by decide +kernel
theorem dX5_ifClosed_25 : decode cX5_ifClosed 25 = .ok (.iconst 1, 1) := by decide +kernel
theorem dX5_ifClosed_26 : decode cX5_ifClosed 26 = .ok (.istore 4, 2) := by decide +kernel
theorem dX5_ifClosed_28 : decode cX5_ifClosed 28 = .ok (.iload 4, 2) := by decide +kernel
end
section
theorem dX5_ifClosed_30 : decode cX5_ifClosed 30 = .ok (.iconst 4, 1) := by decide +kernel
theorem dX5_ifClosed_31 : decode cX5_ifClosed 31 = .ok (.if_icmp .ge 36, 3) := by decide +kernel
theorem dX5_ifClosed_34 : decode cX5_ifClosed 34 = .ok (.aload_n 0, 1) := by decide +kernel
theorem dX5_ifClosed_35 : decode cX5_ifClosed 35 = .ok (.iload_n 1, 1) := by decide +kernel
theorem dX5_ifClosed_36 : decode cX5_ifClosed 36 = .ok (.iload 4, 2) := by decide +kernel
theorem dX5_ifClosed_38 : decode cX5_ifClosed 38 = .ok (.invokevirtual 31, 3) := by decide +kernel
theorem dX5_ifClosed_41 : decode cX5_ifClosed 41 = .ok (.astore 5, 2) := by decide +kernel
theorem dX5_ifClosed_43 : decode cX5_ifClosed 43 = .ok (.iload_n 3, 1) := by decide +kernel
theorem dX5_ifClosed_44 : decode cX5_ifClosed 44 = .ok (.aload_n 0, 1) := by decide +kernel
theorem dX5_ifClosed_45 : decode cX5_ifClosed 45 = .ok (.getfield 10, 3) := by decide +kernel
theorem dX5_ifClosed_48 : decode cX5_ifClosed 48 = .ok (.aload 5, 2) := by decide +kernel
theorem dX5_ifClosed_50 : decode cX5_ifClosed 50 = .ok (.aload_n 2, 1) := by decide +kernel
theorem dX5_ifClosed_51 : decode cX5_ifClosed 51 = .ok (.aload 5, 2) := by decide +kernel
theorem dX5_ifClosed_53 : decode cX5_ifClosed 53 = .ok (.getfield 57, 3) := by decide +kernel
theorem dX5_ifClosed_56 : decode cX5_ifClosed 56 = .ok (.invokevirtual 283, 3) := by decide +kernel
theorem dX5_ifClosed_59 : decode cX5_ifClosed 59 = .ok (.iadd, 1) := by decide +kernel
theorem dX5_ifClosed_60 : decode cX5_ifClosed 60 = .ok (.istore_n 3, 1) := by decide +kernel
theorem dX5_ifClosed_61 : decode cX5_ifClosed 61 = .ok (.iinc 4 1, 3) := by decide +kernel
theorem dX5_ifClosed_64 : decode cX5_ifClosed 64 = .ok (.goto (-36), 3) := by decide +kernel
theorem dX5_ifClosed_67 : decode cX5_ifClosed 67 = .ok (.iload_n 3, 1) := by decide +kernel
theorem dX5_ifClosed_68 : decode cX5_ifClosed 68 = .ok (.ireturn, 1) := by decide +kernel
theorem dX5_heldShare_0 : decode cX5_heldShare 0 = .ok (.aload_n 0, 1) := by decide +kernel
theorem dX5_heldShare_1 : decode cX5_heldShare 1 = .ok (.iload_n 1, 1) := by decide +kernel
theorem dX5_heldShare_2 : decode cX5_heldShare 2 = .ok (.iload_n 2, 1) := by decide +kernel
theorem dX5_heldShare_3 : decode cX5_heldShare 3 = .ok (.invokevirtual 31, 3) := by decide +kernel
theorem dX5_heldShare_6 : decode cX5_heldShare 6 = .ok (.astore_n 3, 1) := by decide +kernel
theorem dX5_heldShare_7 : decode cX5_heldShare 7 = .ok (.aload_n 3, 1) := by decide +kernel
theorem dX5_heldShare_8 : decode cX5_heldShare 8 = .ok (.getfield 57, 3) := by decide +kernel
theorem dX5_heldShare_11 : decode cX5_heldShare 11 = .ok (.ifCond .ne 5, 3) := by decide +kernel
theorem dX5_heldShare_14 : decode cX5_heldShare 14 = .ok (.dconst 0, 1) := by decide +kernel
theorem dX5_heldShare_15 : decode cX5_heldShare 15 = .ok (.dreturn, 1) := by decide +kernel
theorem dX5_heldShare_16 : decode cX5_heldShare 16 = .ok (.aload_n 0, 1) := by decide +kernel
theorem dX5_heldShare_17 : decode cX5_heldShare 17 = .ok (.getfield 10, 3) := by decide +kernel
theorem dX5_heldShare_20 : decode cX5_heldShare 20 = .ok (.aload_n 3, 1) := by decide +kernel
theorem dX5_heldShare_21 : decode cX5_heldShare 21 = .ok (.invokevirtual 226, 3) := by decide +kernel
theorem dX5_heldShare_24 : decode cX5_heldShare 24 = .ok (.i2d, 1) := by decide +kernel
theorem dX5_heldShare_25 : decode cX5_heldShare 25 = .ok (.aload_n 3, 1) := by decide +kernel
theorem dX5_heldShare_26 : decode cX5_heldShare 26 = .ok (.getfield 57, 3) := by decide +kernel
theorem dX5_heldShare_29 : decode cX5_heldShare 29 = .ok (.i2d, 1) := by decide +kernel
theorem dX5_heldShare_30 : decode cX5_heldShare 30 = .ok (.ddiv, 1) := by decide +kernel
theorem dX5_heldShare_31 : decode cX5_heldShare 31 = .ok (.dreturn, 1) := by decide +kernel
theorem dX5_digest_0 : decode cX5_digest 0 = .ok (.ldc2_w 295, 3) := by decide +kernel
theorem dX5_digest_3 : decode cX5_digest 3 = .ok (.lstore_n 1, 1) := by decide +kernel
theorem dX5_digest_4 : decode cX5_digest 4 = .ok (.iconst 0, 1) := by decide +kernel
theorem dX5_digest_5 : decode cX5_digest 5 = .ok (.istore_n 3, 1) := by decide +kernel
theorem dX5_digest_6 : decode cX5_digest 6 = .ok (.iload_n 3, 1) := by decide +kernel
theorem dX5_digest_7 : decode cX5_digest 7 = .ok (.bipush 14, 2) := by decide +kernel
theorem dX5_digest_9 : decode cX5_digest 9 = .ok (.if_icmp .ge 20, 3) := by decide +kernel
theorem dX5_digest_12 : decode cX5_digest 12 = .ok (.lload_n 1, 1) := by decide +kernel
theorem dX5_digest_13 : decode cX5_digest 13 = .ok (.aload_n 0, 1) := by decide +kernel
theorem dX5_digest_14 : decode cX5_digest 14 = .ok (.iload_n 3, 1) := by decide +kernel
theorem dX5_digest_15 : decode cX5_digest 15 = .ok (.invokevirtual 297, 3) := by decide +kernel
theorem dX5_digest_18 : decode cX5_digest 18 = .ok (.i2l, 1) := by decide +kernel
theorem dX5_digest_19 : decode cX5_digest 19 = .ok (.invokestatic 300, 3) := by decide +kernel
theorem dX5_digest_22 : decode cX5_digest 22 = .ok (.lstore_n 1, 1) := by decide +kernel
theorem dX5_digest_23 : decode cX5_digest 23 = .ok (.iinc 3 1, 3) := by decide +kernel
theorem dX5_digest_26 : decode cX5_digest 26 = .ok (.goto (-20), 3) := by decide +kernel
theorem dX5_digest_29 : decode cX5_digest 29 = .ok (.iconst 0, 1) := by decide +kernel
theorem dX5_digest_30 : decode cX5_digest 30 = .ok (.istore_n 3, 1) := by decide +kernel
theorem dX5_digest_31 : decode cX5_digest 31 = .ok (.iload_n 3, 1) := by decide +kernel
theorem dX5_digest_32 : decode cX5_digest 32 = .ok (.iconst 4, 1) := by decide +kernel
theorem dX5_digest_33 : decode cX5_digest 33 = .ok (.if_icmp .ge 20, 3) := by decide +kernel
theorem dX5_digest_36 : decode cX5_digest 36 = .ok (.lload_n 1, 1) := by decide +kernel
theorem dX5_digest_37 : decode cX5_digest 37 = .ok (.aload_n 0, 1) := by decide +kernel
theorem dX5_digest_38 : decode cX5_digest 38 = .ok (.iload_n 3, 1) := by decide +kernel
theorem dX5_digest_39 : decode cX5_digest 39 = .ok (.invokevirtual 304, 3) := by decide +kernel
theorem dX5_digest_42 : decode cX5_digest 42 = .ok (.i2l, 1) := by decide +kernel
theorem dX5_digest_43 : decode cX5_digest 43 = .ok (.invokestatic 300, 3) := by decide +kernel
theorem dX5_digest_46 : decode cX5_digest 46 = .ok (.lstore_n 1, 1) := by decide +kernel
theorem dX5_digest_47 : decode cX5_digest 47 = .ok (.iinc 3 1, 3) := by decide +kernel
theorem dX5_digest_50 : decode cX5_digest 50 = .ok (.goto (-19), 3) := by decide +kernel
theorem dX5_digest_53 : decode cX5_digest 53 = .ok (.iconst 0, 1) := by decide +kernel
theorem dX5_digest_54 : decode cX5_digest 54 = .ok (.istore_n 3, 1) := by decide +kernel
theorem dX5_digest_55 : decode cX5_digest 55 = .ok (.iload_n 3, 1) := by decide +kernel
theorem dX5_digest_56 : decode cX5_digest 56 = .ok (.iconst 4, 1) := by decide +kernel
theorem dX5_digest_57 : decode cX5_digest 57 = .ok (.if_icmp .ge 16, 3) := by decide +kernel
theorem dX5_digest_60 : decode cX5_digest 60 = .ok (.aload_n 0, 1) := by decide +kernel
theorem dX5_digest_61 : decode cX5_digest 61 = .ok (.lload_n 1, 1) := by decide +kernel
theorem dX5_digest_62 : decode cX5_digest 62 = .ok (.iload_n 3, 1) := by decide +kernel
theorem dX5_digest_63 : decode cX5_digest 63 = .ok (.invokevirtual 307, 3) := by decide +kernel
theorem dX5_digest_66 : decode cX5_digest 66 = .ok (.lstore_n 1, 1) := by decide +kernel
theorem dX5_digest_67 : decode cX5_digest 67 = .ok (.iinc 3 1, 3) := by decide +kernel
theorem dX5_digest_70 : decode cX5_digest 70 = .ok (.goto (-15), 3) := by decide +kernel
theorem dX5_digest_73 : decode cX5_digest 73 = .ok (.aload_n 0, 1) := by decide +kernel
theorem dX5_digest_74 : decode cX5_digest 74 = .ok (.lload_n 1, 1) := by decide +kernel
theorem dX5_digest_75 : decode cX5_digest 75 = .ok (.invokevirtual 311, 3) := by decide +kernel
theorem dX5_digest_78 : decode cX5_digest 78 = .ok (.lstore_n 1, 1) := by decide +kernel
theorem dX5_digest_79 : decode cX5_digest 79 = .ok (.aload_n 0, 1) := by decide +kernel
theorem dX5_digest_80 : decode cX5_digest 80 = .ok (.lload_n 1, 1) := by decide +kernel
theorem dX5_digest_81 : decode cX5_digest 81 = .ok (.invokevirtual 315, 3) := by decide +kernel
theorem dX5_digest_84 : decode cX5_digest 84 = .ok (.lstore_n 1, 1) := by decide +kernel
theorem dX5_digest_85 : decode cX5_digest 85 = .ok (.aload_n 0, 1) := by decide +kernel
theorem dX5_digest_86 : decode cX5_digest 86 = .ok (.lload_n 1, 1) := by decide +kernel
theorem dX5_digest_87 : decode cX5_digest 87 = .ok (.invokevirtual 318, 3) := by decide +kernel
theorem dX5_digest_90 : decode cX5_digest 90 = .ok (.lreturn, 1) := by decide +kernel
theorem dX5_purseAt_0 : decode cX5_purseAt 0 = .ok (.iload_n 1, 1) := by decide +kernel
theorem dX5_purseAt_1 : decode cX5_purseAt 1 = .ok (.ifCond .lt 17, 3) := by decide +kernel
theorem dX5_purseAt_4 : decode cX5_purseAt 4 = .ok (.iload_n 1, 1) := by decide +kernel
theorem dX5_purseAt_5 : decode cX5_purseAt 5 = .ok (.iconst 4, 1) := by decide +kernel
theorem dX5_purseAt_6 : decode cX5_purseAt 6 = .ok (.if_icmp .ge 12, 3) := by decide +kernel
theorem dX5_purseAt_9 : decode cX5_purseAt 9 = .ok (.iload_n 2, 1) := by decide +kernel
theorem dX5_purseAt_10 : decode cX5_purseAt 10 = .ok (.ifCond .lt 8, 3) := by decide +kernel
theorem dX5_purseAt_13 : decode cX5_purseAt 13 = .ok (.iload_n 2, 1) := by decide +kernel
theorem dX5_purseAt_14 : decode cX5_purseAt 14 = .ok (.iconst 4, 1) := by decide +kernel
theorem dX5_purseAt_15 : decode cX5_purseAt 15 = .ok (.if_icmp .lt 14, 3) := by decide +kernel
theorem dX5_purseAt_18 : decode cX5_purseAt 18 = .ok (.new 63, 3) := by decide +kernel
theorem dX5_purseAt_21 : decode cX5_purseAt 21 = .ok (.dup, 1) := by decide +kernel
theorem dX5_purseAt_22 : decode cX5_purseAt 22 = .ok (.ldc_w 321, 3) := by decide +kernel
theorem dX5_purseAt_25 : decode cX5_purseAt 25 = .ok (.invokespecial 67, 3) := by decide +kernel
theorem dX5_purseAt_28 : decode cX5_purseAt 28 = .ok (.athrow, 1) := by decide +kernel
theorem dX5_purseAt_29 : decode cX5_purseAt 29 = .ok (.aload_n 0, 1) := by decide +kernel
theorem dX5_purseAt_30 : decode cX5_purseAt 30 = .ok (.getfield 10, 3) := by decide +kernel
theorem dX5_purseAt_33 : decode cX5_purseAt 33 = .ok (.getfield 323, 3) := by decide +kernel
theorem dX5_purseAt_36 : decode cX5_purseAt 36 = .ok (.iload_n 1, 1) := by decide +kernel
theorem dX5_purseAt_37 : decode cX5_purseAt 37 = .ok (.iconst 4, 1) := by decide +kernel
theorem dX5_purseAt_38 : decode cX5_purseAt 38 = .ok (.imul, 1) := by decide +kernel
theorem dX5_purseAt_39 : decode cX5_purseAt 39 = .ok (.iload_n 2, 1) := by decide +kernel
theorem dX5_purseAt_40 : decode cX5_purseAt 40 = .ok (.iadd, 1) := by decide +kernel
theorem dX5_purseAt_41 : decode cX5_purseAt 41 = .ok (.aaload, 1) := by decide +kernel
theorem dX5_purseAt_42 : decode cX5_purseAt 42 = .ok (.areturn, 1) := by decide +kernel
theorem dX5_foreignPurseAt_0 : decode cX5_foreignPurseAt 0 = .ok (.iload_n 2, 1) := by decide +kernel
theorem dX5_foreignPurseAt_1 : decode cX5_foreignPurseAt 1 = .ok (.ifCond .ne 14, 3) := by decide +kernel
theorem dX5_foreignPurseAt_4 : decode cX5_foreignPurseAt 4 = .ok (.new 63, 3) := by decide +kernel
theorem dX5_foreignPurseAt_7 : decode cX5_foreignPurseAt 7 = .ok (.dup, 1) := by decide +kernel
theorem dX5_foreignPurseAt_8 : decode cX5_foreignPurseAt 8 = .ok (.ldc_w 327, 3) := by decide +kernel
theorem dX5_foreignPurseAt_11 : decode cX5_foreignPurseAt 11 = .ok (.invokespecial 67, 3) := by decide +kernel
theorem dX5_foreignPurseAt_14 : decode cX5_foreignPurseAt 14 = .ok (.athrow, 1) := by decide +kernel
theorem dX5_foreignPurseAt_15 : decode cX5_foreignPurseAt 15 = .ok (.aload_n 0, 1) := by decide +kernel
theorem dX5_foreignPurseAt_16 : decode cX5_foreignPurseAt 16 = .ok (.iload_n 1, 1) := by decide +kernel
theorem dX5_foreignPurseAt_17 : decode cX5_foreignPurseAt 17 = .ok (.iload_n 2, 1) := by decide +kernel
theorem dX5_foreignPurseAt_18 : decode cX5_foreignPurseAt 18 = .ok (.invokevirtual 31, 3) := by decide +kernel
theorem dX5_foreignPurseAt_21 : decode cX5_foreignPurseAt 21 = .ok (.areturn, 1) := by decide +kernel
theorem dX5_holdAt_0 : decode cX5_holdAt 0 = .ok (.iload_n 1, 1) := by decide +kernel
theorem dX5_holdAt_1 : decode cX5_holdAt 1 = .ok (.ifCond .lt 26, 3) := by decide +kernel
theorem dX5_holdAt_4 : decode cX5_holdAt 4 = .ok (.iload_n 1, 1) := by decide +kernel
theorem dX5_holdAt_5 : decode cX5_holdAt 5 = .ok (.aload_n 0, 1) := by decide +kernel
theorem dX5_holdAt_6 : decode cX5_holdAt 6 = .ok (.getfield 10, 3) := by decide +kernel
theorem dX5_holdAt_9 : decode cX5_holdAt 9 = .ok (.getfield 253, 3) := by decide +kernel
theorem dX5_holdAt_12 : decode cX5_holdAt 12 = .ok (.if_icmp .ge 15, 3) := by decide +kernel
theorem dX5_holdAt_15 : decode cX5_holdAt 15 = .ok (.iload_n 1, 1) := by decide +kernel
theorem dX5_holdAt_16 : decode cX5_holdAt 16 = .ok (.aload_n 0, 1) := by decide +kernel
theorem dX5_holdAt_17 : decode cX5_holdAt 17 = .ok (.getfield 10, 3) := by decide +kernel
theorem dX5_holdAt_20 : decode cX5_holdAt 20 = .ok (.getfield 329, 3) := by decide +kernel
theorem dX5_holdAt_23 : decode cX5_holdAt 23 = .ok (.arraylength, 1) := by decide +kernel
theorem dX5_holdAt_24 : decode cX5_holdAt 24 = .ok (.if_icmp .lt 14, 3) := by decide +kernel
theorem dX5_holdAt_27 : decode cX5_holdAt 27 = .ok (.new 63, 3) := by decide +kernel
theorem dX5_holdAt_30 : decode cX5_holdAt 30 = .ok (.dup, 1) := by decide +kernel
theorem dX5_holdAt_31 : decode cX5_holdAt 31 = .ok (.ldc_w 333, 3) := by decide +kernel
theorem dX5_holdAt_34 : decode cX5_holdAt 34 = .ok (.invokespecial 67, 3) := by decide +kernel
theorem dX5_holdAt_37 : decode cX5_holdAt 37 = .ok (.athrow, 1) := by decide +kernel
theorem dX5_holdAt_38 : decode cX5_holdAt 38 = .ok (.aload_n 0, 1) := by decide +kernel
theorem dX5_holdAt_39 : decode cX5_holdAt 39 = .ok (.getfield 10, 3) := by decide +kernel
theorem dX5_holdAt_42 : decode cX5_holdAt 42 = .ok (.getfield 329, 3) := by decide +kernel
theorem dX5_holdAt_45 : decode cX5_holdAt 45 = .ok (.iload_n 1, 1) := by decide +kernel
theorem dX5_holdAt_46 : decode cX5_holdAt 46 = .ok (.aaload, 1) := by decide +kernel
theorem dX5_holdAt_47 : decode cX5_holdAt 47 = .ok (.areturn, 1) := by decide +kernel
theorem dX5_paymentAt_0 : decode cX5_paymentAt 0 = .ok (.iload_n 1, 1) := by decide +kernel
theorem dX5_paymentAt_1 : decode cX5_paymentAt 1 = .ok (.ifCond .lt 26, 3) := by decide +kernel
theorem dX5_paymentAt_4 : decode cX5_paymentAt 4 = .ok (.iload_n 1, 1) := by decide +kernel
theorem dX5_paymentAt_5 : decode cX5_paymentAt 5 = .ok (.aload_n 0, 1) := by decide +kernel
theorem dX5_paymentAt_6 : decode cX5_paymentAt 6 = .ok (.getfield 10, 3) := by decide +kernel
theorem dX5_paymentAt_9 : decode cX5_paymentAt 9 = .ok (.getfield 123, 3) := by decide +kernel
theorem dX5_paymentAt_12 : decode cX5_paymentAt 12 = .ok (.if_icmp .ge 15, 3) := by decide +kernel
theorem dX5_paymentAt_15 : decode cX5_paymentAt 15 = .ok (.iload_n 1, 1) := by decide +kernel
theorem dX5_paymentAt_16 : decode cX5_paymentAt 16 = .ok (.aload_n 0, 1) := by decide +kernel
theorem dX5_paymentAt_17 : decode cX5_paymentAt 17 = .ok (.getfield 10, 3) := by decide +kernel
theorem dX5_paymentAt_20 : decode cX5_paymentAt 20 = .ok (.getfield 335, 3) := by decide +kernel
theorem dX5_paymentAt_23 : decode cX5_paymentAt 23 = .ok (.arraylength, 1) := by decide +kernel
theorem dX5_paymentAt_24 : decode cX5_paymentAt 24 = .ok (.if_icmp .lt 14, 3) := by decide +kernel
theorem dX5_paymentAt_27 : decode cX5_paymentAt 27 = .ok (.new 63, 3) := by decide +kernel
theorem dX5_paymentAt_30 : decode cX5_paymentAt 30 = .ok (.dup, 1) := by decide +kernel
theorem dX5_paymentAt_31 : decode cX5_paymentAt 31 = .ok (.ldc_w 339, 3) := by decide +kernel
theorem dX5_paymentAt_34 : decode cX5_paymentAt 34 = .ok (.invokespecial 67, 3) := by decide +kernel
theorem dX5_paymentAt_37 : decode cX5_paymentAt 37 = .ok (.athrow, 1) := by decide +kernel
theorem dX5_paymentAt_38 : decode cX5_paymentAt 38 = .ok (.aload_n 0, 1) := by decide +kernel
theorem dX5_paymentAt_39 : decode cX5_paymentAt 39 = .ok (.getfield 10, 3) := by decide +kernel
theorem dX5_paymentAt_42 : decode cX5_paymentAt 42 = .ok (.getfield 335, 3) := by decide +kernel
theorem dX5_paymentAt_45 : decode cX5_paymentAt 45 = .ok (.iload_n 1, 1) := by decide +kernel
theorem dX5_paymentAt_46 : decode cX5_paymentAt 46 = .ok (.aaload, 1) := by decide +kernel
theorem dX5_paymentAt_47 : decode cX5_paymentAt 47 = .ok (.areturn, 1) := by decide +kernel
theorem dX5_requireAmount_0 : decode cX5_requireAmount 0 = .ok (.iload_n 1, 1) := by decide +kernel
theorem dX5_requireAmount_1 : decode cX5_requireAmount 1 = .ok (.iconst 1, 1) := by decide +kernel
theorem dX5_requireAmount_2 : decode cX5_requireAmount 2 = .ok (.if_icmp .lt 10, 3) := by decide +kernel
theorem dX5_requireAmount_5 : decode cX5_requireAmount 5 = .ok (.iload_n 1, 1) := by decide +kernel
theorem dX5_requireAmount_6 : decode cX5_requireAmount 6 = .ok (.ldc_w 289, 3) := by decide +kernel
theorem dX5_requireAmount_9 : decode cX5_requireAmount 9 = .ok (.if_icmp .le 14, 3) := by decide +kernel
theorem dX5_requireAmount_12 : decode cX5_requireAmount 12 = .ok (.new 68, 3) := by decide +kernel
theorem dX5_requireAmount_15 : decode cX5_requireAmount 15 = .ok (.dup, 1) := by decide +kernel
theorem dX5_requireAmount_16 : decode cX5_requireAmount 16 = .ok (.ldc_w 286, 3) := by decide +kernel
theorem dX5_requireAmount_19 : decode cX5_requireAmount 19 = .ok (.invokespecial 72, 3) := by decide +kernel
theorem dX5_requireAmount_22 : decode cX5_requireAmount 22 = .ok (.athrow, 1) := by decide +kernel
theorem dX5_requireAmount_23 : decode cX5_requireAmount 23 = .ok (.return_, 1) := by decide +kernel
theorem dX5_saveState_0 : decode cX5_saveState 0 = .ok (.aload_n 0, 1) := by decide +kernel
theorem dX5_saveState_1 : decode cX5_saveState 1 = .ok (.getfield 217, 3) := by decide +kernel
theorem dX5_saveState_4 : decode cX5_saveState 4 = .ok (.aload_n 0, 1) := by decide +kernel
theorem dX5_saveState_5 : decode cX5_saveState 5 = .ok (.getfield 16, 3) := by decide +kernel
theorem dX5_saveState_8 : decode cX5_saveState 8 = .ok (.arraylength, 1) := by decide +kernel
theorem dX5_saveState_9 : decode cX5_saveState 9 = .ok (.if_icmp .lt 7, 3) := by decide +kernel
theorem dX5_saveState_12 : decode cX5_saveState 12 = .ok (.aload_n 0, 1) := by decide +kernel
theorem dX5_saveState_13 : decode cX5_saveState 13 = .ok (.invokevirtual 341, 3) := by decide +kernel
theorem dX5_saveState_16 : decode cX5_saveState 16 = .ok (.aload_n 0, 1) := by decide +kernel
theorem dX5_saveState_17 : decode cX5_saveState 17 = .ok (.getfield 16, 3) := by decide +kernel
theorem dX5_saveState_20 : decode cX5_saveState 20 = .ok (.aload_n 0, 1) := by decide +kernel
theorem dX5_saveState_21 : decode cX5_saveState 21 = .ok (.getfield 217, 3) := by decide +kernel
theorem dX5_saveState_24 : decode cX5_saveState 24 = .ok (.aaload, 1) := by decide +kernel
theorem dX5_saveState_25 : decode cX5_saveState 25 = .ok (.aload_n 0, 1) := by decide +kernel
theorem dX5_saveState_26 : decode cX5_saveState 26 = .ok (.getfield 10, 3) := by decide +kernel
theorem dX5_saveState_29 : decode cX5_saveState 29 = .ok (.invokevirtual 222, 3) := by decide +kernel
theorem dX5_saveState_32 : decode cX5_saveState 32 = .ok (.aload_n 0, 1) := by decide +kernel
theorem dX5_saveState_33 : decode cX5_saveState 33 = .ok (.dup, 1) := by decide +kernel
theorem dX5_saveState_34 : decode cX5_saveState 34 = .ok (.getfield 217, 3) := by decide +kernel
theorem dX5_saveState_37 : decode cX5_saveState 37 = .ok (.iconst 1, 1) := by decide +kernel
theorem dX5_saveState_38 : decode cX5_saveState 38 = .ok (.iadd, 1) := by decide +kernel
theorem dX5_saveState_39 : decode cX5_saveState 39 = .ok (.putfield 217, 3) := by decide +kernel
theorem dX5_saveState_42 : decode cX5_saveState 42 = .ok (.return_, 1) := by decide +kernel
theorem dX5_dropOldestState_0 : decode cX5_dropOldestState 0 = .ok (.aload_n 0, 1) := by decide +kernel
theorem dX5_dropOldestState_1 : decode cX5_dropOldestState 1 = .ok (.getfield 16, 3) := by decide +kernel
theorem dX5_dropOldestState_4 : decode cX5_dropOldestState 4 = .ok (.iconst 0, 1) := by decide +kernel
theorem dX5_dropOldestState_5 : decode cX5_dropOldestState 5 = .ok (.aaload, 1) := by decide +kernel
theorem dX5_dropOldestState_6 : decode cX5_dropOldestState 6 = .ok (.astore_n 1, 1) := by decide +kernel
theorem dX5_dropOldestState_7 : decode cX5_dropOldestState 7 = .ok (.iconst 1, 1) := by decide +kernel
theorem dX5_dropOldestState_8 : decode cX5_dropOldestState 8 = .ok (.istore_n 2, 1) := by decide +kernel
theorem dX5_dropOldestState_9 : decode cX5_dropOldestState 9 = .ok (.iload_n 2, 1) := by decide +kernel
theorem dX5_dropOldestState_10 : decode cX5_dropOldestState 10 = .ok (.aload_n 0, 1) := by decide +kernel
theorem dX5_dropOldestState_11 : decode cX5_dropOldestState 11 = .ok (.getfield 16, 3) := by decide +kernel
theorem dX5_dropOldestState_14 : decode cX5_dropOldestState 14 = .ok (.arraylength, 1) := by decide +kernel
theorem dX5_dropOldestState_15 : decode cX5_dropOldestState 15 = .ok (.if_icmp .ge 23, 3) := by decide +kernel
theorem dX5_dropOldestState_18 : decode cX5_dropOldestState 18 = .ok (.aload_n 0, 1) := by decide +kernel
theorem dX5_dropOldestState_19 : decode cX5_dropOldestState 19 = .ok (.getfield 16, 3) := by decide +kernel
theorem dX5_dropOldestState_22 : decode cX5_dropOldestState 22 = .ok (.iload_n 2, 1) := by decide +kernel
theorem dX5_dropOldestState_23 : decode cX5_dropOldestState 23 = .ok (.iconst 1, 1) := by decide +kernel
theorem dX5_dropOldestState_24 : decode cX5_dropOldestState 24 = .ok (.isub, 1) := by decide +kernel
theorem dX5_dropOldestState_25 : decode cX5_dropOldestState 25 = .ok (.aload_n 0, 1) := by decide +kernel
theorem dX5_dropOldestState_26 : decode cX5_dropOldestState 26 = .ok (.getfield 16, 3) := by decide +kernel
theorem dX5_dropOldestState_29 : decode cX5_dropOldestState 29 = .ok (.iload_n 2, 1) := by decide +kernel
theorem dX5_dropOldestState_30 : decode cX5_dropOldestState 30 = .ok (.aaload, 1) := by decide +kernel
theorem dX5_dropOldestState_31 : decode cX5_dropOldestState 31 = .ok (.aastore, 1) := by decide +kernel
theorem dX5_dropOldestState_32 : decode cX5_dropOldestState 32 = .ok (.iinc 2 1, 3) := by decide +kernel
theorem dX5_dropOldestState_35 : decode cX5_dropOldestState 35 = .ok (.goto (-26), 3) := by decide +kernel
theorem dX5_dropOldestState_38 : decode cX5_dropOldestState 38 = .ok (.aload_n 0, 1) := by decide +kernel
theorem dX5_dropOldestState_39 : decode cX5_dropOldestState 39 = .ok (.getfield 16, 3) := by decide +kernel
theorem dX5_dropOldestState_42 : decode cX5_dropOldestState 42 = .ok (.aload_n 0, 1) := by decide +kernel
theorem dX5_dropOldestState_43 : decode cX5_dropOldestState 43 = .ok (.getfield 16, 3) := by decide +kernel
theorem dX5_dropOldestState_46 : decode cX5_dropOldestState 46 = .ok (.arraylength, 1) := by decide +kernel
theorem dX5_dropOldestState_47 : decode cX5_dropOldestState 47 = .ok (.iconst 1, 1) := by decide +kernel
theorem dX5_dropOldestState_48 : decode cX5_dropOldestState 48 = .ok (.isub, 1) := by decide +kernel
theorem dX5_dropOldestState_49 : decode cX5_dropOldestState 49 = .ok (.aload_n 1, 1) := by decide +kernel
theorem dX5_dropOldestState_50 : decode cX5_dropOldestState 50 = .ok (.aastore, 1) := by decide +kernel
theorem dX5_dropOldestState_51 : decode cX5_dropOldestState 51 = .ok (.aload_n 0, 1) := by decide +kernel
theorem dX5_dropOldestState_52 : decode cX5_dropOldestState 52 = .ok (.aload_n 0, 1) := by decide +kernel
theorem dX5_dropOldestState_53 : decode cX5_dropOldestState 53 = .ok (.getfield 16, 3) := by decide +kernel
theorem dX5_dropOldestState_56 : decode cX5_dropOldestState 56 = .ok (.arraylength, 1) := by decide +kernel
theorem dX5_dropOldestState_57 : decode cX5_dropOldestState 57 = .ok (.iconst 1, 1) := by decide +kernel
theorem dX5_dropOldestState_58 : decode cX5_dropOldestState 58 = .ok (.isub, 1) := by decide +kernel
theorem dX5_dropOldestState_59 : decode cX5_dropOldestState 59 = .ok (.putfield 217, 3) := by decide +kernel
theorem dX5_dropOldestState_62 : decode cX5_dropOldestState 62 = .ok (.return_, 1) := by decide +kernel
theorem dX5_carryOutRow_0 : decode cX5_carryOutRow 0 = .ok (.iconst 0, 1) := by decide +kernel
theorem dX5_carryOutRow_1 : decode cX5_carryOutRow 1 = .ok (.istore_n 1, 1) := by decide +kernel
theorem dX5_carryOutRow_2 : decode cX5_carryOutRow 2 = .ok (.aload_n 0, 1) := by decide +kernel
theorem dX5_carryOutRow_3 : decode cX5_carryOutRow 3 = .ok (.getfield 27, 3) := by decide +kernel
theorem dX5_carryOutRow_6 : decode cX5_carryOutRow 6 = .ok (.invokevirtual 198, 3) := by decide +kernel
theorem dX5_carryOutRow_9 : decode cX5_carryOutRow 9 = .ok (.iconst 0, 1) := by decide +kernel
theorem dX5_carryOutRow_10 : decode cX5_carryOutRow 10 = .ok (.istore_n 2, 1) := by decide +kernel
theorem dX5_carryOutRow_11 : decode cX5_carryOutRow 11 = .ok (.iload_n 2, 1) := by decide +kernel
theorem dX5_carryOutRow_12 : decode cX5_carryOutRow 12 = .ok (.aload_n 0, 1) := by decide +kernel
theorem dX5_carryOutRow_13 : decode cX5_carryOutRow 13 = .ok (.getfield 193, 3) := by decide +kernel
theorem dX5_carryOutRow_16 : decode cX5_carryOutRow 16 = .ok (.if_icmp .ge 46, 3) := by decide +kernel
theorem dX5_carryOutRow_19 : decode cX5_carryOutRow 19 = .ok (.aload_n 0, 1) := by decide +kernel
theorem dX5_carryOutRow_20 : decode cX5_carryOutRow 20 = .ok (.getfield 20, 3) := by decide +kernel
theorem dX5_carryOutRow_23 : decode cX5_carryOutRow 23 = .ok (.iload_n 2, 1) := by decide +kernel
theorem dX5_carryOutRow_24 : decode cX5_carryOutRow 24 = .ok (.iaload, 1) := by decide +kernel
theorem dX5_carryOutRow_25 : decode cX5_carryOutRow 25 = .ok (.bipush 59, 2) := by decide +kernel
theorem dX5_carryOutRow_27 : decode cX5_carryOutRow 27 = .ok (.if_icmp .ne 15, 3) := by decide +kernel
theorem dX5_carryOutRow_30 : decode cX5_carryOutRow 30 = .ok (.aload_n 0, 1) := by decide +kernel
theorem dX5_carryOutRow_31 : decode cX5_carryOutRow 31 = .ok (.invokevirtual 344, 3) := by decide +kernel
theorem dX5_carryOutRow_34 : decode cX5_carryOutRow 34 = .ok (.ifCond .ne 5, 3) := by decide +kernel
theorem dX5_carryOutRow_37 : decode cX5_carryOutRow 37 = .ok (.iload_n 1, 1) := by decide +kernel
theorem dX5_carryOutRow_38 : decode cX5_carryOutRow 38 = .ok (.ireturn, 1) := by decide +kernel
theorem dX5_carryOutRow_39 : decode cX5_carryOutRow 39 = .ok (.iinc 1 1, 3) := by decide +kernel
theorem dX5_carryOutRow_42 : decode cX5_carryOutRow 42 = .ok (.aload_n 0, 1) := by decide +kernel
theorem dX5_carryOutRow_43 : decode cX5_carryOutRow 43 = .ok (.getfield 27, 3) := by decide +kernel
theorem dX5_carryOutRow_46 : decode cX5_carryOutRow 46 = .ok (.aload_n 0, 1) := by decide +kernel
theorem dX5_carryOutRow_47 : decode cX5_carryOutRow 47 = .ok (.getfield 20, 3) := by decide +kernel
theorem dX5_carryOutRow_50 : decode cX5_carryOutRow 50 = .ok (.iload_n 2, 1) := by decide +kernel
theorem dX5_carryOutRow_51 : decode cX5_carryOutRow 51 = .ok (.iaload, 1) := by decide +kernel
theorem dX5_carryOutRow_52 : decode cX5_carryOutRow 52 = .ok (.invokevirtual 201, 3) := by decide +kernel
theorem dX5_carryOutRow_55 : decode cX5_carryOutRow 55 = .ok (.pop, 1) := by decide +kernel
theorem dX5_carryOutRow_56 : decode cX5_carryOutRow 56 = .ok (.iinc 2 1, 3) := by decide +kernel
theorem dX5_carryOutRow_59 : decode cX5_carryOutRow 59 = .ok (.goto (-48), 3) := by decide +kernel
theorem dX5_carryOutRow_62 : decode cX5_carryOutRow 62 = .ok (.aload_n 0, 1) := by decide +kernel
theorem dX5_carryOutRow_63 : decode cX5_carryOutRow 63 = .ok (.invokevirtual 344, 3) := by decide +kernel
theorem dX5_carryOutRow_66 : decode cX5_carryOutRow 66 = .ok (.ifCond .eq 9, 3) := by decide +kernel
theorem dX5_carryOutRow_69 : decode cX5_carryOutRow 69 = .ok (.iload_n 1, 1) := by decide +kernel
theorem dX5_carryOutRow_70 : decode cX5_carryOutRow 70 = .ok (.iconst 1, 1) := by decide +kernel
theorem dX5_carryOutRow_71 : decode cX5_carryOutRow 71 = .ok (.iadd, 1) := by decide +kernel
theorem dX5_carryOutRow_72 : decode cX5_carryOutRow 72 = .ok (.goto 4, 3) := by decide +kernel
theorem dX5_carryOutRow_75 : decode cX5_carryOutRow 75 = .ok (.iload_n 1, 1) := by decide +kernel
theorem dX5_carryOutRow_76 : decode cX5_carryOutRow 76 = .ok (.ireturn, 1) := by decide +kernel
theorem dX5_carriesOutOrder_0 : decode cX5_carriesOutOrder 0 = .ok (.aload_n 0, 1) := by decide +kernel
theorem dX5_carriesOutOrder_1 : decode cX5_carriesOutOrder 1 = .ok (.aload_n 0, 1) := by decide +kernel
theorem dX5_carriesOutOrder_2 : decode cX5_carriesOutOrder 2 = .ok (.getfield 27, 3) := by decide +kernel
theorem dX5_carriesOutOrder_5 : decode cX5_carriesOutOrder 5 = .ok (.getfield 347, 3) := by decide +kernel
theorem dX5_carriesOutOrder_8 : decode cX5_carriesOutOrder 8 = .ok (.aload_n 0, 1) := by decide +kernel
theorem dX5_carriesOutOrder_9 : decode cX5_carriesOutOrder 9 = .ok (.getfield 27, 3) := by decide +kernel
theorem dX5_carriesOutOrder_12 : decode cX5_carriesOutOrder 12 = .ok (.getfield 348, 3) := by decide +kernel
theorem dX5_carriesOutOrder_15 : decode cX5_carriesOutOrder 15 = .ok (.invokevirtual 31, 3) := by decide +kernel
theorem dX5_carriesOutOrder_18 : decode cX5_carriesOutOrder 18 = .ok (.astore_n 1, 1) := by decide +kernel
theorem dX5_carriesOutOrder_19 : decode cX5_carriesOutOrder 19 = .ok (.aload_n 0, 1) := by decide +kernel
theorem dX5_carriesOutOrder_20 : decode cX5_carriesOutOrder 20 = .ok (.getfield 27, 3) := by decide +kernel
theorem dX5_carriesOutOrder_23 : decode cX5_carriesOutOrder 23 = .ok (.getfield 351, 3) := by decide +kernel
theorem dX5_carriesOutOrder_26 : decode cX5_carriesOutOrder 26 = .ok (.istore_n 2, 1) := by decide +kernel
theorem dX5_carriesOutOrder_27 : decode cX5_carriesOutOrder 27 = .ok (.aload_n 0, 1) := by decide +kernel
theorem dX5_carriesOutOrder_28 : decode cX5_carriesOutOrder 28 = .ok (.getfield 27, 3) := by decide +kernel
theorem dX5_carriesOutOrder_31 : decode cX5_carriesOutOrder 31 = .ok (.getfield 352, 3) := by decide +kernel
theorem dX5_carriesOutOrder_34 : decode cX5_carriesOutOrder 34 = .ok (.lookupswitch 98 #[(108, 26), (120, 51)], 26) := by decide +kernel
theorem dX5_carriesOutOrder_60 : decode cX5_carriesOutOrder 60 = .ok (.aload_n 0, 1) := by decide +kernel
theorem dX5_carriesOutOrder_61 : decode cX5_carriesOutOrder 61 = .ok (.getfield 10, 3) := by decide +kernel
theorem dX5_carriesOutOrder_64 : decode cX5_carriesOutOrder 64 = .ok (.aload_n 1, 1) := by decide +kernel
theorem dX5_carriesOutOrder_65 : decode cX5_carriesOutOrder 65 = .ok (.iload_n 2, 1) := by decide +kernel
theorem dX5_carriesOutOrder_66 : decode cX5_carriesOutOrder 66 = .ok (.invokevirtual 39, 3) := by decide +kernel
theorem dX5_carriesOutOrder_69 : decode cX5_carriesOutOrder 69 = .ok (.ifCond .ne 5, 3) := by decide +kernel
theorem dX5_carriesOutOrder_72 : decode cX5_carriesOutOrder 72 = .ok (.iconst 0, 1) := by decide +kernel
theorem dX5_carriesOutOrder_73 : decode cX5_carriesOutOrder 73 = .ok (.ireturn, 1) := by decide +kernel
theorem dX5_carriesOutOrder_74 : decode cX5_carriesOutOrder 74 = .ok (.aload_n 0, 1) := by decide +kernel
theorem dX5_carriesOutOrder_75 : decode cX5_carriesOutOrder 75 = .ok (.getfield 10, 3) := by decide +kernel
theorem dX5_carriesOutOrder_78 : decode cX5_carriesOutOrder 78 = .ok (.aload_n 1, 1) := by decide +kernel
theorem dX5_carriesOutOrder_79 : decode cX5_carriesOutOrder 79 = .ok (.iload_n 2, 1) := by decide +kernel
theorem dX5_carriesOutOrder_80 : decode cX5_carriesOutOrder 80 = .ok (.invokevirtual 53, 3) := by decide +kernel
theorem dX5_carriesOutOrder_83 : decode cX5_carriesOutOrder 83 = .ok (.iconst 1, 1) := by decide +kernel
theorem dX5_carriesOutOrder_84 : decode cX5_carriesOutOrder 84 = .ok (.ireturn, 1) := by decide +kernel
theorem dX5_carriesOutOrder_85 : decode cX5_carriesOutOrder 85 = .ok (.aload_n 0, 1) := by decide +kernel
theorem dX5_carriesOutOrder_86 : decode cX5_carriesOutOrder 86 = .ok (.aload_n 0, 1) := by decide +kernel
theorem dX5_carriesOutOrder_87 : decode cX5_carriesOutOrder 87 = .ok (.getfield 27, 3) := by decide +kernel
theorem dX5_carriesOutOrder_90 : decode cX5_carriesOutOrder 90 = .ok (.getfield 347, 3) := by decide +kernel
theorem dX5_carriesOutOrder_93 : decode cX5_carriesOutOrder 93 = .ok (.aload_n 0, 1) := by decide +kernel
theorem dX5_carriesOutOrder_94 : decode cX5_carriesOutOrder 94 = .ok (.getfield 27, 3) := by decide +kernel
theorem dX5_carriesOutOrder_97 : decode cX5_carriesOutOrder 97 = .ok (.getfield 355, 3) := by decide +kernel
theorem dX5_carriesOutOrder_100 : decode cX5_carriesOutOrder 100 = .ok (.invokevirtual 31, 3) := by decide +kernel
theorem dX5_carriesOutOrder_103 : decode cX5_carriesOutOrder 103 = .ok (.astore_n 3, 1) := by decide +kernel
theorem dX5_carriesOutOrder_104 : decode cX5_carriesOutOrder 104 = .ok (.aload_n 0, 1) := by decide +kernel
theorem dX5_carriesOutOrder_105 : decode cX5_carriesOutOrder 105 = .ok (.getfield 10, 3) := by decide +kernel
theorem dX5_carriesOutOrder_108 : decode cX5_carriesOutOrder 108 = .ok (.aload_n 1, 1) := by decide +kernel
theorem dX5_carriesOutOrder_109 : decode cX5_carriesOutOrder 109 = .ok (.aload_n 3, 1) := by decide +kernel
theorem dX5_carriesOutOrder_110 : decode cX5_carriesOutOrder 110 = .ok (.iload_n 2, 1) := by decide +kernel
theorem dX5_carriesOutOrder_111 : decode cX5_carriesOutOrder 111 = .ok (.invokevirtual 94, 3) := by decide +kernel
theorem dX5_carriesOutOrder_114 : decode cX5_carriesOutOrder 114 = .ok (.ifCond .eq 5, 3) := by decide +kernel
theorem dX5_carriesOutOrder_117 : decode cX5_carriesOutOrder 117 = .ok (.iconst 0, 1) := by decide +kernel
theorem dX5_carriesOutOrder_118 : decode cX5_carriesOutOrder 118 = .ok (.ireturn, 1) := by decide +kernel
theorem dX5_carriesOutOrder_119 : decode cX5_carriesOutOrder 119 = .ok (.aload_n 0, 1) := by decide +kernel
theorem dX5_carriesOutOrder_120 : decode cX5_carriesOutOrder 120 = .ok (.getfield 10, 3) := by decide +kernel
theorem dX5_carriesOutOrder_123 : decode cX5_carriesOutOrder 123 = .ok (.aload_n 1, 1) := by decide +kernel
theorem dX5_carriesOutOrder_124 : decode cX5_carriesOutOrder 124 = .ok (.aload_n 3, 1) := by decide +kernel
theorem dX5_carriesOutOrder_125 : decode cX5_carriesOutOrder 125 = .ok (.iload_n 2, 1) := by decide +kernel
theorem dX5_carriesOutOrder_126 : decode cX5_carriesOutOrder 126 = .ok (.invokevirtual 100, 3) := by decide +kernel
theorem dX5_carriesOutOrder_129 : decode cX5_carriesOutOrder 129 = .ok (.pop, 1) := by decide +kernel
theorem dX5_carriesOutOrder_130 : decode cX5_carriesOutOrder 130 = .ok (.iconst 1, 1) := by decide +kernel
theorem dX5_carriesOutOrder_131 : decode cX5_carriesOutOrder 131 = .ok (.ireturn, 1) := by decide +kernel
theorem dX5_carriesOutOrder_132 : decode cX5_carriesOutOrder 132 = .ok (.aload_n 0, 1) := by decide +kernel
theorem dX5_carriesOutOrder_133 : decode cX5_carriesOutOrder 133 = .ok (.getfield 10, 3) := by decide +kernel
theorem dX5_carriesOutOrder_136 : decode cX5_carriesOutOrder 136 = .ok (.aload_n 1, 1) := by decide +kernel
theorem dX5_carriesOutOrder_137 : decode cX5_carriesOutOrder 137 = .ok (.iload_n 2, 1) := by decide +kernel
theorem dX5_carriesOutOrder_138 : decode cX5_carriesOutOrder 138 = .ok (.invokevirtual 103, 3) := by decide +kernel
theorem dX5_carriesOutOrder_141 : decode cX5_carriesOutOrder 141 = .ok (.ifCond .eq 5, 3) := by decide +kernel
theorem dX5_carriesOutOrder_144 : decode cX5_carriesOutOrder 144 = .ok (.iconst 0, 1) := by decide +kernel
theorem dX5_carriesOutOrder_145 : decode cX5_carriesOutOrder 145 = .ok (.ireturn, 1) := by decide +kernel
theorem dX5_carriesOutOrder_146 : decode cX5_carriesOutOrder 146 = .ok (.aload_n 0, 1) := by decide +kernel
theorem dX5_carriesOutOrder_147 : decode cX5_carriesOutOrder 147 = .ok (.getfield 10, 3) := by decide +kernel
theorem dX5_carriesOutOrder_150 : decode cX5_carriesOutOrder 150 = .ok (.aload_n 1, 1) := by decide +kernel
theorem dX5_carriesOutOrder_151 : decode cX5_carriesOutOrder 151 = .ok (.iload_n 2, 1) := by decide +kernel
theorem dX5_carriesOutOrder_152 : decode cX5_carriesOutOrder 152 = .ok (.invokevirtual 109, 3) := by decide +kernel
theorem dX5_carriesOutOrder_155 : decode cX5_carriesOutOrder 155 = .ok (.pop, 1) := by decide +kernel
theorem dX5_carriesOutOrder_156 : decode cX5_carriesOutOrder 156 = .ok (.iconst 1, 1) := by decide +kernel
theorem dX5_carriesOutOrder_157 : decode cX5_carriesOutOrder 157 = .ok (.ireturn, 1) := by decide +kernel
theorem dX5_mix_0 : decode cX5_mix 0 = .ok (.ldc2_w 358, 3) := by decide +kernel
theorem dX5_mix_3 : decode cX5_mix 3 = .ok (.lload_n 0, 1) := by decide +kernel
theorem dX5_mix_4 : decode cX5_mix 4 = .ok (.lmul, 1) := by decide +kernel
theorem dX5_mix_5 : decode cX5_mix 5 = .ok (.lload_n 2, 1) := by decide +kernel
theorem dX5_mix_6 : decode cX5_mix 6 = .ok (.ladd, 1) := by decide +kernel
theorem dX5_mix_7 : decode cX5_mix 7 = .ok (.lreturn, 1) := by decide +kernel
theorem dX5_mixWallet_0 : decode cX5_mixWallet 0 = .ok (.lload_n 1, 1) := by decide +kernel
theorem dX5_mixWallet_1 : decode cX5_mixWallet 1 = .ok (.lstore 4, 2) := by decide +kernel
theorem dX5_mixWallet_3 : decode cX5_mixWallet 3 = .ok (.iconst 0, 1) := by decide +kernel
theorem dX5_mixWallet_4 : decode cX5_mixWallet 4 = .ok (.istore 6, 2) := by decide +kernel
theorem dX5_mixWallet_6 : decode cX5_mixWallet 6 = .ok (.iload 6, 2) := by decide +kernel
theorem dX5_mixWallet_8 : decode cX5_mixWallet 8 = .ok (.iconst 4, 1) := by decide +kernel
theorem dX5_mixWallet_9 : decode cX5_mixWallet 9 = .ok (.if_icmp .ge 74, 3) := by decide +kernel
theorem dX5_mixWallet_12 : decode cX5_mixWallet 12 = .ok (.iconst 0, 1) := by decide +kernel
theorem dX5_mixWallet_13 : decode cX5_mixWallet 13 = .ok (.istore 7, 2) := by decide +kernel
theorem dX5_mixWallet_15 : decode cX5_mixWallet 15 = .ok (.iload 7, 2) := by decide +kernel
theorem dX5_mixWallet_17 : decode cX5_mixWallet 17 = .ok (.bipush 8, 2) := by decide +kernel
theorem dX5_mixWallet_19 : decode cX5_mixWallet 19 = .ok (.if_icmp .ge 26, 3) := by decide +kernel
theorem dX5_mixWallet_22 : decode cX5_mixWallet 22 = .ok (.lload 4, 2) := by decide +kernel
theorem dX5_mixWallet_24 : decode cX5_mixWallet 24 = .ok (.aload_n 0, 1) := by decide +kernel
theorem dX5_mixWallet_25 : decode cX5_mixWallet 25 = .ok (.iload_n 3, 1) := by decide +kernel
theorem dX5_mixWallet_26 : decode cX5_mixWallet 26 = .ok (.iload 6, 2) := by decide +kernel
theorem dX5_mixWallet_28 : decode cX5_mixWallet 28 = .ok (.iload 7, 2) := by decide +kernel
theorem dX5_mixWallet_30 : decode cX5_mixWallet 30 = .ok (.invokevirtual 360, 3) := by decide +kernel
theorem dX5_mixWallet_33 : decode cX5_mixWallet 33 = .ok (.i2l, 1) := by decide +kernel
theorem dX5_mixWallet_34 : decode cX5_mixWallet 34 = .ok (.invokestatic 300, 3) := by decide +kernel
theorem dX5_mixWallet_37 : decode cX5_mixWallet 37 = .ok (.lstore 4, 2) := by decide +kernel
theorem dX5_mixWallet_39 : decode cX5_mixWallet 39 = .ok (.iinc 7 1, 3) := by decide +kernel
theorem dX5_mixWallet_42 : decode cX5_mixWallet 42 = .ok (.goto (-27), 3) := by decide +kernel
theorem dX5_mixWallet_45 : decode cX5_mixWallet 45 = .ok (.lload 4, 2) := by decide +kernel
theorem dX5_mixWallet_47 : decode cX5_mixWallet 47 = .ok (.aload_n 0, 1) := by decide +kernel
theorem dX5_mixWallet_48 : decode cX5_mixWallet 48 = .ok (.iload_n 3, 1) := by decide +kernel
theorem dX5_mixWallet_49 : decode cX5_mixWallet 49 = .ok (.iload 6, 2) := by decide +kernel
theorem dX5_mixWallet_51 : decode cX5_mixWallet 51 = .ok (.invokevirtual 364, 3) := by decide +kernel
theorem dX5_mixWallet_54 : decode cX5_mixWallet 54 = .ok (.i2l, 1) := by decide +kernel
theorem dX5_mixWallet_55 : decode cX5_mixWallet 55 = .ok (.invokestatic 300, 3) := by decide +kernel
theorem dX5_mixWallet_58 : decode cX5_mixWallet 58 = .ok (.lstore 4, 2) := by decide +kernel
theorem dX5_mixWallet_60 : decode cX5_mixWallet 60 = .ok (.lload 4, 2) := by decide +kernel
theorem dX5_mixWallet_62 : decode cX5_mixWallet 62 = .ok (.aload_n 0, 1) := by decide +kernel
theorem dX5_mixWallet_63 : decode cX5_mixWallet 63 = .ok (.iload_n 3, 1) := by decide +kernel
theorem dX5_mixWallet_64 : decode cX5_mixWallet 64 = .ok (.iload 6, 2) := by decide +kernel
theorem dX5_mixWallet_66 : decode cX5_mixWallet 66 = .ok (.invokevirtual 368, 3) := by decide +kernel
theorem dX5_mixWallet_69 : decode cX5_mixWallet 69 = .ok (.invokestatic 372, 3) := by decide +kernel
theorem dX5_mixWallet_72 : decode cX5_mixWallet 72 = .ok (.invokestatic 300, 3) := by decide +kernel
theorem dX5_mixWallet_75 : decode cX5_mixWallet 75 = .ok (.lstore 4, 2) := by decide +kernel
theorem dX5_mixWallet_77 : decode cX5_mixWallet 77 = .ok (.iinc 6 1, 3) := by decide +kernel
theorem dX5_mixWallet_80 : decode cX5_mixWallet 80 = .ok (.goto (-74), 3) := by decide +kernel
theorem dX5_mixWallet_83 : decode cX5_mixWallet 83 = .ok (.lload 4, 2) := by decide +kernel
theorem dX5_mixWallet_85 : decode cX5_mixWallet 85 = .ok (.aload_n 0, 1) := by decide +kernel
theorem dX5_mixWallet_86 : decode cX5_mixWallet 86 = .ok (.iload_n 3, 1) := by decide +kernel
theorem dX5_mixWallet_87 : decode cX5_mixWallet 87 = .ok (.iconst 0, 1) := by decide +kernel
theorem dX5_mixWallet_88 : decode cX5_mixWallet 88 = .ok (.iconst 1, 1) := by decide +kernel
theorem dX5_mixWallet_89 : decode cX5_mixWallet 89 = .ok (.sipush 1000, 3) := by decide +kernel
theorem dX5_mixWallet_92 : decode cX5_mixWallet 92 = .ok (.invokevirtual 376, 3) := by decide +kernel
theorem dX5_mixWallet_95 : decode cX5_mixWallet 95 = .ok (.i2l, 1) := by decide +kernel
theorem dX5_mixWallet_96 : decode cX5_mixWallet 96 = .ok (.invokestatic 300, 3) := by decide +kernel
theorem dX5_mixWallet_99 : decode cX5_mixWallet 99 = .ok (.lstore 4, 2) := by decide +kernel
theorem dX5_mixWallet_101 : decode cX5_mixWallet 101 = .ok (.lload 4, 2) := by decide +kernel
theorem dX5_mixWallet_103 : decode cX5_mixWallet 103 = .ok (.aload_n 0, 1) := by decide +kernel
theorem dX5_mixWallet_104 : decode cX5_mixWallet 104 = .ok (.iload_n 3, 1) := by decide +kernel
theorem dX5_mixWallet_105 : decode cX5_mixWallet 105 = .ok (.iconst 2, 1) := by decide +kernel
theorem dX5_mixWallet_106 : decode cX5_mixWallet 106 = .ok (.iconst 0, 1) := by decide +kernel
theorem dX5_mixWallet_107 : decode cX5_mixWallet 107 = .ok (.sipush 1000, 3) := by decide +kernel
theorem dX5_mixWallet_110 : decode cX5_mixWallet 110 = .ok (.invokevirtual 376, 3) := by decide +kernel
theorem dX5_mixWallet_113 : decode cX5_mixWallet 113 = .ok (.i2l, 1) := by decide +kernel
theorem dX5_mixWallet_114 : decode cX5_mixWallet 114 = .ok (.invokestatic 300, 3) := by decide +kernel
theorem dX5_mixWallet_117 : decode cX5_mixWallet 117 = .ok (.lstore 4, 2) := by decide +kernel
theorem dX5_mixWallet_119 : decode cX5_mixWallet 119 = .ok (.lload 4, 2) := by decide +kernel
theorem dX5_mixWallet_121 : decode cX5_mixWallet 121 = .ok (.aload_n 0, 1) := by decide +kernel
theorem dX5_mixWallet_122 : decode cX5_mixWallet 122 = .ok (.iload_n 3, 1) := by decide +kernel
theorem dX5_mixWallet_123 : decode cX5_mixWallet 123 = .ok (.iconst 3, 1) := by decide +kernel
theorem dX5_mixWallet_124 : decode cX5_mixWallet 124 = .ok (.sipush 500, 3) := by decide +kernel
theorem dX5_mixWallet_127 : decode cX5_mixWallet 127 = .ok (.invokevirtual 380, 3) := by decide +kernel
theorem dX5_mixWallet_130 : decode cX5_mixWallet 130 = .ok (.i2l, 1) := by decide +kernel
theorem dX5_mixWallet_131 : decode cX5_mixWallet 131 = .ok (.invokestatic 300, 3) := by decide +kernel
theorem dX5_mixWallet_134 : decode cX5_mixWallet 134 = .ok (.lstore 4, 2) := by decide +kernel
theorem dX5_mixWallet_136 : decode cX5_mixWallet 136 = .ok (.lload 4, 2) := by decide +kernel
theorem dX5_mixWallet_138 : decode cX5_mixWallet 138 = .ok (.aload_n 0, 1) := by decide +kernel
theorem dX5_mixWallet_139 : decode cX5_mixWallet 139 = .ok (.getfield 10, 3) := by decide +kernel
theorem dX5_mixWallet_142 : decode cX5_mixWallet 142 = .ok (.iload_n 3, 1) := by decide +kernel
theorem dX5_mixWallet_143 : decode cX5_mixWallet 143 = .ok (.invokevirtual 166, 3) := by decide +kernel
theorem dX5_mixWallet_146 : decode cX5_mixWallet 146 = .ok (.i2l, 1) := by decide +kernel
theorem dX5_mixWallet_147 : decode cX5_mixWallet 147 = .ok (.invokestatic 300, 3) := by decide +kernel
theorem dX5_mixWallet_150 : decode cX5_mixWallet 150 = .ok (.lstore 4, 2) := by decide +kernel
theorem dX5_mixWallet_152 : decode cX5_mixWallet 152 = .ok (.lload 4, 2) := by decide +kernel
theorem dX5_mixWallet_154 : decode cX5_mixWallet 154 = .ok (.aload_n 0, 1) := by decide +kernel
theorem dX5_mixWallet_155 : decode cX5_mixWallet 155 = .ok (.iload_n 3, 1) := by decide +kernel
theorem dX5_mixWallet_156 : decode cX5_mixWallet 156 = .ok (.invokevirtual 383, 3) := by decide +kernel
theorem dX5_mixWallet_159 : decode cX5_mixWallet 159 = .ok (.i2l, 1) := by decide +kernel
theorem dX5_mixWallet_160 : decode cX5_mixWallet 160 = .ok (.invokestatic 300, 3) := by decide +kernel
theorem dX5_mixWallet_163 : decode cX5_mixWallet 163 = .ok (.lreturn, 1) := by decide +kernel
theorem dX5_mixHolds_0 : decode cX5_mixHolds 0 = .ok (.lload_n 1, 1) := by decide +kernel
theorem dX5_mixHolds_1 : decode cX5_mixHolds 1 = .ok (.lstore_n 3, 1) := by decide +kernel
theorem dX5_mixHolds_2 : decode cX5_mixHolds 2 = .ok (.iconst 0, 1) := by decide +kernel
theorem dX5_mixHolds_3 : decode cX5_mixHolds 3 = .ok (.istore 5, 2) := by decide +kernel
theorem dX5_mixHolds_5 : decode cX5_mixHolds 5 = .ok (.iload 5, 2) := by decide +kernel
theorem dX5_mixHolds_7 : decode cX5_mixHolds 7 = .ok (.aload_n 0, 1) := by decide +kernel
theorem dX5_mixHolds_8 : decode cX5_mixHolds 8 = .ok (.getfield 10, 3) := by decide +kernel
theorem dX5_mixHolds_11 : decode cX5_mixHolds 11 = .ok (.getfield 253, 3) := by decide +kernel
theorem dX5_mixHolds_14 : decode cX5_mixHolds 14 = .ok (.if_icmp .ge 38, 3) := by decide +kernel
theorem dX5_mixHolds_17 : decode cX5_mixHolds 17 = .ok (.iconst 0, 1) := by decide +kernel
theorem dX5_mixHolds_18 : decode cX5_mixHolds 18 = .ok (.istore 6, 2) := by decide +kernel
theorem dX5_mixHolds_20 : decode cX5_mixHolds 20 = .ok (.iload 6, 2) := by decide +kernel
theorem dX5_mixHolds_22 : decode cX5_mixHolds 22 = .ok (.iconst 5, 1) := by decide +kernel
theorem dX5_mixHolds_23 : decode cX5_mixHolds 23 = .ok (.if_icmp .ge 23, 3) := by decide +kernel
theorem dX5_mixHolds_26 : decode cX5_mixHolds 26 = .ok (.lload_n 3, 1) := by decide +kernel
theorem dX5_mixHolds_27 : decode cX5_mixHolds 27 = .ok (.aload_n 0, 1) := by decide +kernel
theorem dX5_mixHolds_28 : decode cX5_mixHolds 28 = .ok (.iload 5, 2) := by decide +kernel
theorem dX5_mixHolds_30 : decode cX5_mixHolds 30 = .ok (.iload 6, 2) := by decide +kernel
theorem dX5_mixHolds_32 : decode cX5_mixHolds 32 = .ok (.invokevirtual 386, 3) := by decide +kernel
theorem dX5_mixHolds_35 : decode cX5_mixHolds 35 = .ok (.i2l, 1) := by decide +kernel
theorem dX5_mixHolds_36 : decode cX5_mixHolds 36 = .ok (.invokestatic 300, 3) := by decide +kernel
theorem dX5_mixHolds_39 : decode cX5_mixHolds 39 = .ok (.lstore_n 3, 1) := by decide +kernel
theorem dX5_mixHolds_40 : decode cX5_mixHolds 40 = .ok (.iinc 6 1, 3) := by decide +kernel
theorem dX5_mixHolds_43 : decode cX5_mixHolds 43 = .ok (.goto (-23), 3) := by decide +kernel
theorem dX5_mixHolds_46 : decode cX5_mixHolds 46 = .ok (.iinc 5 1, 3) := by decide +kernel
theorem dX5_mixHolds_49 : decode cX5_mixHolds 49 = .ok (.goto (-44), 3) := by decide +kernel
theorem dX5_mixHolds_52 : decode cX5_mixHolds 52 = .ok (.lload_n 3, 1) := by decide +kernel
theorem dX5_mixHolds_53 : decode cX5_mixHolds 53 = .ok (.lreturn, 1) := by decide +kernel
theorem dX5_mixPayments_0 : decode cX5_mixPayments 0 = .ok (.lload_n 1, 1) := by decide +kernel
theorem dX5_mixPayments_1 : decode cX5_mixPayments 1 = .ok (.lstore_n 3, 1) := by decide +kernel
theorem dX5_mixPayments_2 : decode cX5_mixPayments 2 = .ok (.iconst 0, 1) := by decide +kernel
theorem dX5_mixPayments_3 : decode cX5_mixPayments 3 = .ok (.istore 5, 2) := by decide +kernel
theorem dX5_mixPayments_5 : decode cX5_mixPayments 5 = .ok (.iload 5, 2) := by decide +kernel
theorem dX5_mixPayments_7 : decode cX5_mixPayments 7 = .ok (.aload_n 0, 1) := by decide +kernel
theorem dX5_mixPayments_8 : decode cX5_mixPayments 8 = .ok (.getfield 10, 3) := by decide +kernel
theorem dX5_mixPayments_11 : decode cX5_mixPayments 11 = .ok (.getfield 123, 3) := by decide +kernel
theorem dX5_mixPayments_14 : decode cX5_mixPayments 14 = .ok (.if_icmp .ge 39, 3) := by decide +kernel
theorem dX5_mixPayments_17 : decode cX5_mixPayments 17 = .ok (.iconst 0, 1) := by decide +kernel
theorem dX5_mixPayments_18 : decode cX5_mixPayments 18 = .ok (.istore 6, 2) := by decide +kernel
theorem dX5_mixPayments_20 : decode cX5_mixPayments 20 = .ok (.iload 6, 2) := by decide +kernel
theorem dX5_mixPayments_22 : decode cX5_mixPayments 22 = .ok (.bipush 6, 2) := by decide +kernel
theorem dX5_mixPayments_24 : decode cX5_mixPayments 24 = .ok (.if_icmp .ge 23, 3) := by decide +kernel
theorem dX5_mixPayments_27 : decode cX5_mixPayments 27 = .ok (.lload_n 3, 1) := by decide +kernel
theorem dX5_mixPayments_28 : decode cX5_mixPayments 28 = .ok (.aload_n 0, 1) := by decide +kernel
theorem dX5_mixPayments_29 : decode cX5_mixPayments 29 = .ok (.iload 5, 2) := by decide +kernel
theorem dX5_mixPayments_31 : decode cX5_mixPayments 31 = .ok (.iload 6, 2) := by decide +kernel
theorem dX5_mixPayments_33 : decode cX5_mixPayments 33 = .ok (.invokevirtual 389, 3) := by decide +kernel
theorem dX5_mixPayments_36 : decode cX5_mixPayments 36 = .ok (.i2l, 1) := by decide +kernel
theorem dX5_mixPayments_37 : decode cX5_mixPayments 37 = .ok (.invokestatic 300, 3) := by decide +kernel
theorem dX5_mixPayments_40 : decode cX5_mixPayments 40 = .ok (.lstore_n 3, 1) := by decide +kernel
theorem dX5_mixPayments_41 : decode cX5_mixPayments 41 = .ok (.iinc 6 1, 3) := by decide +kernel
theorem dX5_mixPayments_44 : decode cX5_mixPayments 44 = .ok (.goto (-24), 3) := by decide +kernel
theorem dX5_mixPayments_47 : decode cX5_mixPayments 47 = .ok (.iinc 5 1, 3) := by decide +kernel
theorem dX5_mixPayments_50 : decode cX5_mixPayments 50 = .ok (.goto (-45), 3) := by decide +kernel
theorem dX5_mixPayments_53 : decode cX5_mixPayments 53 = .ok (.lload_n 3, 1) := by decide +kernel
theorem dX5_mixPayments_54 : decode cX5_mixPayments 54 = .ok (.lreturn, 1) := by decide +kernel
theorem dX5_mixBuffer_0 : decode cX5_mixBuffer 0 = .ok (.lload_n 1, 1) := by decide +kernel
theorem dX5_mixBuffer_1 : decode cX5_mixBuffer 1 = .ok (.aload_n 0, 1) := by decide +kernel
theorem dX5_mixBuffer_2 : decode cX5_mixBuffer 2 = .ok (.getfield 193, 3) := by decide +kernel
theorem dX5_mixBuffer_5 : decode cX5_mixBuffer 5 = .ok (.i2l, 1) := by decide +kernel
theorem dX5_mixBuffer_6 : decode cX5_mixBuffer 6 = .ok (.invokestatic 300, 3) := by decide +kernel
theorem dX5_mixBuffer_9 : decode cX5_mixBuffer 9 = .ok (.lstore_n 3, 1) := by decide +kernel
theorem dX5_mixBuffer_10 : decode cX5_mixBuffer 10 = .ok (.iconst 0, 1) := by decide +kernel
theorem dX5_mixBuffer_11 : decode cX5_mixBuffer 11 = .ok (.istore 5, 2) := by decide +kernel
theorem dX5_mixBuffer_13 : decode cX5_mixBuffer 13 = .ok (.iload 5, 2) := by decide +kernel
theorem dX5_mixBuffer_15 : decode cX5_mixBuffer 15 = .ok (.aload_n 0, 1) := by decide +kernel
theorem dX5_mixBuffer_16 : decode cX5_mixBuffer 16 = .ok (.getfield 193, 3) := by decide +kernel
theorem dX5_mixBuffer_19 : decode cX5_mixBuffer 19 = .ok (.if_icmp .ge 22, 3) := by decide +kernel
theorem dX5_mixBuffer_22 : decode cX5_mixBuffer 22 = .ok (.lload_n 3, 1) := by decide +kernel
theorem dX5_mixBuffer_23 : decode cX5_mixBuffer 23 = .ok (.aload_n 0, 1) := by decide +kernel
theorem dX5_mixBuffer_24 : decode cX5_mixBuffer 24 = .ok (.getfield 20, 3) := by decide +kernel
theorem dX5_mixBuffer_27 : decode cX5_mixBuffer 27 = .ok (.iload 5, 2) := by decide +kernel
theorem dX5_mixBuffer_29 : decode cX5_mixBuffer 29 = .ok (.iaload, 1) := by decide +kernel
theorem dX5_mixBuffer_30 : decode cX5_mixBuffer 30 = .ok (.i2l, 1) := by decide +kernel
theorem dX5_mixBuffer_31 : decode cX5_mixBuffer 31 = .ok (.invokestatic 300, 3) := by decide +kernel
theorem dX5_mixBuffer_34 : decode cX5_mixBuffer 34 = .ok (.lstore_n 3, 1) := by decide +kernel
theorem dX5_mixBuffer_35 : decode cX5_mixBuffer 35 = .ok (.iinc 5 1, 3) := by decide +kernel
theorem dX5_mixBuffer_38 : decode cX5_mixBuffer 38 = .ok (.goto (-25), 3) := by decide +kernel
theorem dX5_mixBuffer_41 : decode cX5_mixBuffer 41 = .ok (.lload_n 3, 1) := by decide +kernel
theorem dX5_mixBuffer_42 : decode cX5_mixBuffer 42 = .ok (.lreturn, 1) := by decide +kernel
theorem dX5_bitsOfShare_0 : decode cX5_bitsOfShare 0 = .ok (.dload_n 0, 1) := by decide +kernel
theorem dX5_bitsOfShare_1 : decode cX5_bitsOfShare 1 = .ok (.dconst 0, 1) := by decide +kernel
theorem dX5_bitsOfShare_2 : decode cX5_bitsOfShare 2 = .ok (.dcmp .g, 1) := by decide +kernel
theorem dX5_bitsOfShare_3 : decode cX5_bitsOfShare 3 = .ok (.ifCond .gt 5, 3) := by decide +kernel
theorem dX5_bitsOfShare_6 : decode cX5_bitsOfShare 6 = .ok (.lconst 0, 1) := by decide +kernel
theorem dX5_bitsOfShare_7 : decode cX5_bitsOfShare 7 = .ok (.lreturn, 1) := by decide +kernel
theorem dX5_bitsOfShare_8 : decode cX5_bitsOfShare 8 = .ok (.dload_n 0, 1) := by decide +kernel
theorem dX5_bitsOfShare_9 : decode cX5_bitsOfShare 9 = .ok (.dstore_n 2, 1) := by decide +kernel
theorem dX5_bitsOfShare_10 : decode cX5_bitsOfShare 10 = .ok (.ldc2_w 392, 3) := by decide +kernel
theorem dX5_bitsOfShare_13 : decode cX5_bitsOfShare 13 = .ok (.lstore 4, 2) := by decide +kernel
theorem dX5_bitsOfShare_15 : decode cX5_bitsOfShare 15 = .ok (.dload_n 2, 1) := by decide +kernel
theorem dX5_bitsOfShare_16 : decode cX5_bitsOfShare 16 = .ok (.dconst 1, 1) := by decide +kernel
theorem dX5_bitsOfShare_17 : decode cX5_bitsOfShare 17 = .ok (.dcmp .g, 1) := by decide +kernel
theorem dX5_bitsOfShare_18 : decode cX5_bitsOfShare 18 = .ok (.ifCond .ge 25, 3) := by decide +kernel
theorem dX5_bitsOfShare_21 : decode cX5_bitsOfShare 21 = .ok (.lload 4, 2) := by decide +kernel
theorem dX5_bitsOfShare_23 : decode cX5_bitsOfShare 23 = .ok (.lconst 1, 1) := by decide +kernel
theorem dX5_bitsOfShare_24 : decode cX5_bitsOfShare 24 = .ok (.lcmp, 1) := by decide +kernel
theorem dX5_bitsOfShare_25 : decode cX5_bitsOfShare 25 = .ok (.ifCond .le 18, 3) := by decide +kernel
theorem dX5_bitsOfShare_28 : decode cX5_bitsOfShare 28 = .ok (.dload_n 2, 1) := by decide +kernel
theorem dX5_bitsOfShare_29 : decode cX5_bitsOfShare 29 = .ok (.ldc2_w 394, 3) := by decide +kernel
theorem dX5_bitsOfShare_32 : decode cX5_bitsOfShare 32 = .ok (.dmul, 1) := by decide +kernel
theorem dX5_bitsOfShare_33 : decode cX5_bitsOfShare 33 = .ok (.dstore_n 2, 1) := by decide +kernel
theorem dX5_bitsOfShare_34 : decode cX5_bitsOfShare 34 = .ok (.lload 4, 2) := by decide +kernel
theorem dX5_bitsOfShare_36 : decode cX5_bitsOfShare 36 = .ok (.lconst 1, 1) := by decide +kernel
theorem dX5_bitsOfShare_37 : decode cX5_bitsOfShare 37 = .ok (.lsub, 1) := by decide +kernel
theorem dX5_bitsOfShare_38 : decode cX5_bitsOfShare 38 = .ok (.lstore 4, 2) := by decide +kernel
theorem dX5_bitsOfShare_40 : decode cX5_bitsOfShare 40 = .ok (.goto (-25), 3) := by decide +kernel
theorem dX5_bitsOfShare_43 : decode cX5_bitsOfShare 43 = .ok (.dload_n 2, 1) := by decide +kernel
theorem dX5_bitsOfShare_44 : decode cX5_bitsOfShare 44 = .ok (.dconst 1, 1) := by decide +kernel
theorem dX5_bitsOfShare_45 : decode cX5_bitsOfShare 45 = .ok (.dsub, 1) := by decide +kernel
theorem dX5_bitsOfShare_46 : decode cX5_bitsOfShare 46 = .ok (.ldc2_w 396, 3) := by decide +kernel
theorem dX5_bitsOfShare_49 : decode cX5_bitsOfShare 49 = .ok (.dmul, 1) := by decide +kernel
theorem dX5_bitsOfShare_50 : decode cX5_bitsOfShare 50 = .ok (.d2l, 1) := by decide +kernel
theorem dX5_bitsOfShare_51 : decode cX5_bitsOfShare 51 = .ok (.lstore 6, 2) := by decide +kernel
theorem dX5_bitsOfShare_53 : decode cX5_bitsOfShare 53 = .ok (.lload 4, 2) := by decide +kernel
theorem dX5_bitsOfShare_55 : decode cX5_bitsOfShare 55 = .ok (.bipush 52, 2) := by decide +kernel
theorem dX5_bitsOfShare_57 : decode cX5_bitsOfShare 57 = .ok (.lshl, 1) := by decide +kernel
theorem dX5_bitsOfShare_58 : decode cX5_bitsOfShare 58 = .ok (.lload 6, 2) := by decide +kernel
theorem dX5_bitsOfShare_60 : decode cX5_bitsOfShare 60 = .ok (.lor, 1) := by decide +kernel
theorem dX5_bitsOfShare_61 : decode cX5_bitsOfShare 61 = .ok (.lreturn, 1) := by decide +kernel
theorem dX6_init_0 : decode cX6_init 0 = .ok (.aload_n 0, 1) := by decide +kernel
theorem dX6_init_1 : decode cX6_init 1 = .ok (.invokespecial 1, 3) := by decide +kernel
theorem dX6_init_4 : decode cX6_init 4 = .ok (.aload_n 0, 1) := by decide +kernel
theorem dX6_init_5 : decode cX6_init 5 = .ok (.sipush 196, 3) := by decide +kernel
theorem dX6_init_8 : decode cX6_init 8 = .ok (.newarray .int, 2) := by decide +kernel
theorem dX6_init_10 : decode cX6_init 10 = .ok (.putfield 7, 3) := by decide +kernel
theorem dX6_init_13 : decode cX6_init 13 = .ok (.aload_n 0, 1) := by decide +kernel
theorem dX6_init_14 : decode cX6_init 14 = .ok (.sipush 1176, 3) := by decide +kernel
theorem dX6_init_17 : decode cX6_init 17 = .ok (.newarray .int, 2) := by decide +kernel
theorem dX6_init_19 : decode cX6_init 19 = .ok (.putfield 13, 3) := by decide +kernel
theorem dX6_init_22 : decode cX6_init 22 = .ok (.aload_n 0, 1) := by decide +kernel
theorem dX6_init_23 : decode cX6_init 23 = .ok (.bipush 60, 2) := by decide +kernel
theorem dX6_init_25 : decode cX6_init 25 = .ok (.newarray .int, 2) := by decide +kernel
theorem dX6_init_27 : decode cX6_init 27 = .ok (.putfield 16, 3) := by decide +kernel
theorem dX6_init_30 : decode cX6_init 30 = .ok (.aload_n 0, 1) := by decide +kernel
theorem dX6_init_31 : decode cX6_init 31 = .ok (.bipush 65, 2) := by decide +kernel
theorem dX6_init_33 : decode cX6_init 33 = .ok (.newarray .int, 2) := by decide +kernel
theorem dX6_init_35 : decode cX6_init 35 = .ok (.putfield 19, 3) := by decide +kernel
theorem dX6_init_38 : decode cX6_init 38 = .ok (.aload_n 0, 1) := by decide +kernel
theorem dX6_init_39 : decode cX6_init 39 = .ok (.getfield 7, 3) := by decide +kernel
theorem dX6_init_42 : decode cX6_init 42 = .ok (.iconst 0, 1) := by decide +kernel
theorem dX6_init_43 : decode cX6_init 43 = .ok (.bipush 7, 2) := by decide +kernel
theorem dX6_init_45 : decode cX6_init 45 = .ok (.iastore, 1) := by decide +kernel
theorem dX6_init_46 : decode cX6_init 46 = .ok (.aload_n 0, 1) := by decide +kernel
theorem dX6_init_47 : decode cX6_init 47 = .ok (.getfield 7, 3) := by decide +kernel
theorem dX6_init_50 : decode cX6_init 50 = .ok (.iconst 1, 1) := by decide +kernel
theorem dX6_init_51 : decode cX6_init 51 = .ok (.bipush 10, 2) := by decide +kernel
theorem dX6_init_53 : decode cX6_init 53 = .ok (.iastore, 1) := by decide +kernel
theorem dX6_init_54 : decode cX6_init 54 = .ok (.aload_n 0, 1) := by decide +kernel
theorem dX6_init_55 : decode cX6_init 55 = .ok (.getfield 7, 3) := by decide +kernel
theorem dX6_init_58 : decode cX6_init 58 = .ok (.iconst 2, 1) := by decide +kernel
theorem dX6_init_59 : decode cX6_init 59 = .ok (.bipush 20, 2) := by decide +kernel
theorem dX6_init_61 : decode cX6_init 61 = .ok (.iastore, 1) := by decide +kernel
theorem dX6_init_62 : decode cX6_init 62 = .ok (.aload_n 0, 1) := by decide +kernel
theorem dX6_init_63 : decode cX6_init 63 = .ok (.getfield 7, 3) := by decide +kernel
theorem dX6_init_66 : decode cX6_init 66 = .ok (.iconst 3, 1) := by decide +kernel
theorem dX6_init_67 : decode cX6_init 67 = .ok (.iconst 5, 1) := by decide +kernel
theorem dX6_init_68 : decode cX6_init 68 = .ok (.iastore, 1) := by decide +kernel
theorem dX6_init_69 : decode cX6_init 69 = .ok (.aload_n 0, 1) := by decide +kernel
theorem dX6_init_70 : decode cX6_init 70 = .ok (.getfield 7, 3) := by decide +kernel
theorem dX6_init_73 : decode cX6_init 73 = .ok (.iconst 5, 1) := by decide +kernel
theorem dX6_init_74 : decode cX6_init 74 = .ok (.sipush 1000, 3) := by decide +kernel
theorem dX6_init_77 : decode cX6_init 77 = .ok (.iastore, 1) := by decide +kernel
theorem dX6_init_78 : decode cX6_init 78 = .ok (.aload_n 0, 1) := by decide +kernel
theorem dX6_init_79 : decode cX6_init 79 = .ok (.getfield 7, 3) := by decide +kernel
theorem dX6_init_82 : decode cX6_init 82 = .ok (.bipush 6, 2) := by decide +kernel
theorem dX6_init_84 : decode cX6_init 84 = .ok (.sipush 1500, 3) := by decide +kernel
theorem dX6_init_87 : decode cX6_init 87 = .ok (.iastore, 1) := by decide +kernel
theorem dX6_init_88 : decode cX6_init 88 = .ok (.aload_n 0, 1) := by decide +kernel
theorem dX6_init_89 : decode cX6_init 89 = .ok (.getfield 7, 3) := by decide +kernel
theorem dX6_init_92 : decode cX6_init 92 = .ok (.bipush 7, 2) := by decide +kernel
theorem dX6_init_94 : decode cX6_init 94 = .ok (.sipush 500, 3) := by decide +kernel
theorem dX6_init_97 : decode cX6_init 97 = .ok (.iastore, 1) := by decide +kernel
theorem dX6_init_98 : decode cX6_init 98 = .ok (.return_, 1) := by decide +kernel
theorem dX6_thrown_0 : decode cX6_thrown 0 = .ok (.aload_n 0, 1) := by decide +kernel
theorem dX6_thrown_1 : decode cX6_thrown 1 = .ok (.getfield 22, 3) := by decide +kernel
theorem dX6_thrown_4 : decode cX6_thrown 4 = .ok (.ireturn, 1) := by decide +kernel
theorem dX6_within_0 : decode cX6_within 0 = .ok (.iload_n 0, 1) := by decide +kernel
theorem dX6_within_1 : decode cX6_within 1 = .ok (.iload_n 1, 1) := by decide +kernel
theorem dX6_within_2 : decode cX6_within 2 = .ok (.if_icmp .lt 12, 3) := by decide +kernel
theorem dX6_within_5 : decode cX6_within 5 = .ok (.iload_n 0, 1) := by decide +kernel
theorem dX6_within_6 : decode cX6_within 6 = .ok (.iload_n 2, 1) := by decide +kernel
theorem dX6_within_7 : decode cX6_within 7 = .ok (.if_icmp .gt 7, 3) := by decide +kernel
theorem dX6_within_10 : decode cX6_within 10 = .ok (.iconst 1, 1) := by decide +kernel
theorem dX6_within_11 : decode cX6_within 11 = .ok (.goto 4, 3) := by decide +kernel
theorem dX6_within_14 : decode cX6_within 14 = .ok (.iconst 0, 1) := by decide +kernel
theorem dX6_within_15 : decode cX6_within 15 = .ok (.ireturn, 1) := by decide +kernel
theorem dX6_save_0 : decode cX6_save 0 = .ok (.aload_n 0, 1) := by decide +kernel
theorem dX6_save_1 : decode cX6_save 1 = .ok (.getfield 26, 3) := by decide +kernel
theorem dX6_save_4 : decode cX6_save 4 = .ok (.bipush 6, 2) := by decide +kernel
theorem dX6_save_6 : decode cX6_save 6 = .ok (.if_icmp .ne 46, 3) := by decide +kernel
theorem dX6_save_9 : decode cX6_save 9 = .ok (.sipush 196, 3) := by decide +kernel
theorem dX6_save_12 : decode cX6_save 12 = .ok (.istore_n 1, 1) := by decide +kernel
theorem dX6_save_13 : decode cX6_save 13 = .ok (.iload_n 1, 1) := by decide +kernel
theorem dX6_save_14 : decode cX6_save 14 = .ok (.sipush 1176, 3) := by decide +kernel
theorem dX6_save_17 : decode cX6_save 17 = .ok (.if_icmp .ge 25, 3) := by decide +kernel
theorem dX6_save_20 : decode cX6_save 20 = .ok (.aload_n 0, 1) := by decide +kernel
theorem dX6_save_21 : decode cX6_save 21 = .ok (.getfield 13, 3) := by decide +kernel
theorem dX6_save_24 : decode cX6_save 24 = .ok (.iload_n 1, 1) := by decide +kernel
theorem dX6_save_25 : decode cX6_save 25 = .ok (.sipush 196, 3) := by decide +kernel
theorem dX6_save_28 : decode cX6_save 28 = .ok (.isub, 1) := by decide +kernel
theorem dX6_save_29 : decode cX6_save 29 = .ok (.aload_n 0, 1) := by decide +kernel
theorem dX6_save_30 : decode cX6_save 30 = .ok (.getfield 13, 3) := by decide +kernel
theorem dX6_save_33 : decode cX6_save 33 = .ok (.iload_n 1, 1) := by decide +kernel
theorem dX6_save_34 : decode cX6_save 34 = .ok (.iaload, 1) := by decide +kernel
theorem dX6_save_35 : decode cX6_save 35 = .ok (.iastore, 1) := by decide +kernel
theorem dX6_save_36 : decode cX6_save 36 = .ok (.iinc 1 1, 3) := by decide +kernel
theorem dX6_save_39 : decode cX6_save 39 = .ok (.goto (-26), 3) := by decide +kernel
theorem dX6_save_42 : decode cX6_save 42 = .ok (.aload_n 0, 1) := by decide +kernel
theorem dX6_save_43 : decode cX6_save 43 = .ok (.dup, 1) := by decide +kernel
theorem dX6_save_44 : decode cX6_save 44 = .ok (.getfield 26, 3) := by decide +kernel
theorem dX6_save_47 : decode cX6_save 47 = .ok (.iconst 1, 1) := by decide +kernel
theorem dX6_save_48 : decode cX6_save 48 = .ok (.isub, 1) := by decide +kernel
theorem dX6_save_49 : decode cX6_save 49 = .ok (.putfield 26, 3) := by decide +kernel
theorem dX6_save_52 : decode cX6_save 52 = .ok (.iconst 0, 1) := by decide +kernel
end
section
theorem dX6_save_53 : decode cX6_save 53 = .ok (.istore_n 1, 1) := by decide +kernel
theorem dX6_save_54 : decode cX6_save 54 = .ok (.iload_n 1, 1) := by decide +kernel
theorem dX6_save_55 : decode cX6_save 55 = .ok (.sipush 196, 3) := by decide +kernel
theorem dX6_save_58 : decode cX6_save 58 = .ok (.if_icmp .ge 30, 3) := by decide +kernel
theorem dX6_save_61 : decode cX6_save 61 = .ok (.aload_n 0, 1) := by decide +kernel
theorem dX6_save_62 : decode cX6_save 62 = .ok (.getfield 13, 3) := by decide +kernel
theorem dX6_save_65 : decode cX6_save 65 = .ok (.sipush 196, 3) := by decide +kernel
theorem dX6_save_68 : decode cX6_save 68 = .ok (.aload_n 0, 1) := by decide +kernel
theorem dX6_save_69 : decode cX6_save 69 = .ok (.getfield 26, 3) := by decide +kernel
theorem dX6_save_72 : decode cX6_save 72 = .ok (.imul, 1) := by decide +kernel
theorem dX6_save_73 : decode cX6_save 73 = .ok (.iload_n 1, 1) := by decide +kernel
theorem dX6_save_74 : decode cX6_save 74 = .ok (.iadd, 1) := by decide +kernel
theorem dX6_save_75 : decode cX6_save 75 = .ok (.aload_n 0, 1) := by decide +kernel
theorem dX6_save_76 : decode cX6_save 76 = .ok (.getfield 7, 3) := by decide +kernel
theorem dX6_save_79 : decode cX6_save 79 = .ok (.iload_n 1, 1) := by decide +kernel
theorem dX6_save_80 : decode cX6_save 80 = .ok (.iaload, 1) := by decide +kernel
theorem dX6_save_81 : decode cX6_save 81 = .ok (.iastore, 1) := by decide +kernel
theorem dX6_save_82 : decode cX6_save 82 = .ok (.iinc 1 1, 3) := by decide +kernel
theorem dX6_save_85 : decode cX6_save 85 = .ok (.goto (-31), 3) := by decide +kernel
theorem dX6_save_88 : decode cX6_save 88 = .ok (.aload_n 0, 1) := by decide +kernel
theorem dX6_save_89 : decode cX6_save 89 = .ok (.dup, 1) := by decide +kernel
theorem dX6_save_90 : decode cX6_save 90 = .ok (.getfield 26, 3) := by decide +kernel
theorem dX6_save_93 : decode cX6_save 93 = .ok (.iconst 1, 1) := by decide +kernel
theorem dX6_save_94 : decode cX6_save 94 = .ok (.iadd, 1) := by decide +kernel
theorem dX6_save_95 : decode cX6_save 95 = .ok (.putfield 26, 3) := by decide +kernel
theorem dX6_save_98 : decode cX6_save 98 = .ok (.return_, 1) := by decide +kernel
theorem dX6_isWallet_0 : decode cX6_isWallet 0 = .ok (.iload_n 0, 1) := by decide +kernel
theorem dX6_isWallet_1 : decode cX6_isWallet 1 = .ok (.iconst 0, 1) := by decide +kernel
theorem dX6_isWallet_2 : decode cX6_isWallet 2 = .ok (.iconst 3, 1) := by decide +kernel
theorem dX6_isWallet_3 : decode cX6_isWallet 3 = .ok (.invokestatic 29, 3) := by decide +kernel
theorem dX6_isWallet_6 : decode cX6_isWallet 6 = .ok (.ireturn, 1) := by decide +kernel
theorem dX6_isCurrency_0 : decode cX6_isCurrency 0 = .ok (.iload_n 0, 1) := by decide +kernel
theorem dX6_isCurrency_1 : decode cX6_isCurrency 1 = .ok (.iconst 0, 1) := by decide +kernel
theorem dX6_isCurrency_2 : decode cX6_isCurrency 2 = .ok (.iconst 3, 1) := by decide +kernel
theorem dX6_isCurrency_3 : decode cX6_isCurrency 3 = .ok (.invokestatic 29, 3) := by decide +kernel
theorem dX6_isCurrency_6 : decode cX6_isCurrency 6 = .ok (.ireturn, 1) := by decide +kernel
theorem dX6_isPurse_0 : decode cX6_isPurse 0 = .ok (.iload_n 0, 1) := by decide +kernel
theorem dX6_isPurse_1 : decode cX6_isPurse 1 = .ok (.invokestatic 33, 3) := by decide +kernel
theorem dX6_isPurse_4 : decode cX6_isPurse 4 = .ok (.ifCond .eq 14, 3) := by decide +kernel
theorem dX6_isPurse_7 : decode cX6_isPurse 7 = .ok (.iload_n 1, 1) := by decide +kernel
theorem dX6_isPurse_8 : decode cX6_isPurse 8 = .ok (.invokestatic 37, 3) := by decide +kernel
theorem dX6_isPurse_11 : decode cX6_isPurse 11 = .ok (.ifCond .eq 7, 3) := by decide +kernel
theorem dX6_isPurse_14 : decode cX6_isPurse 14 = .ok (.iconst 1, 1) := by decide +kernel
theorem dX6_isPurse_15 : decode cX6_isPurse 15 = .ok (.goto 4, 3) := by decide +kernel
theorem dX6_isPurse_18 : decode cX6_isPurse 18 = .ok (.iconst 0, 1) := by decide +kernel
theorem dX6_isPurse_19 : decode cX6_isPurse 19 = .ok (.ireturn, 1) := by decide +kernel
theorem dX6_isForeign_0 : decode cX6_isForeign 0 = .ok (.iload_n 0, 1) := by decide +kernel
theorem dX6_isForeign_1 : decode cX6_isForeign 1 = .ok (.iload_n 1, 1) := by decide +kernel
theorem dX6_isForeign_2 : decode cX6_isForeign 2 = .ok (.invokestatic 40, 3) := by decide +kernel
theorem dX6_isForeign_5 : decode cX6_isForeign 5 = .ok (.ifCond .eq 11, 3) := by decide +kernel
theorem dX6_isForeign_8 : decode cX6_isForeign 8 = .ok (.iload_n 1, 1) := by decide +kernel
theorem dX6_isForeign_9 : decode cX6_isForeign 9 = .ok (.ifCond .le 7, 3) := by decide +kernel
theorem dX6_isForeign_12 : decode cX6_isForeign 12 = .ok (.iconst 1, 1) := by decide +kernel
theorem dX6_isForeign_13 : decode cX6_isForeign 13 = .ok (.goto 4, 3) := by decide +kernel
theorem dX6_isForeign_16 : decode cX6_isForeign 16 = .ok (.iconst 0, 1) := by decide +kernel
theorem dX6_isForeign_17 : decode cX6_isForeign 17 = .ok (.ireturn, 1) := by decide +kernel
theorem dX6_isMoney_0 : decode cX6_isMoney 0 = .ok (.iload_n 0, 1) := by decide +kernel
theorem dX6_isMoney_1 : decode cX6_isMoney 1 = .ok (.iconst 1, 1) := by decide +kernel
theorem dX6_isMoney_2 : decode cX6_isMoney 2 = .ok (.ldc 44, 2) := by decide +kernel
theorem dX6_isMoney_4 : decode cX6_isMoney 4 = .ok (.invokestatic 29, 3) := by decide +kernel
theorem dX6_isMoney_7 : decode cX6_isMoney 7 = .ok (.ireturn, 1) := by decide +kernel
theorem dX6_at_0 : decode cX6_at 0 = .ok (.bipush 16, 2) := by decide +kernel
theorem dX6_at_2 : decode cX6_at 2 = .ok (.iconst 5, 1) := by decide +kernel
theorem dX6_at_3 : decode cX6_at 3 = .ok (.iconst 4, 1) := by decide +kernel
theorem dX6_at_4 : decode cX6_at 4 = .ok (.iload_n 0, 1) := by decide +kernel
theorem dX6_at_5 : decode cX6_at 5 = .ok (.imul, 1) := by decide +kernel
theorem dX6_at_6 : decode cX6_at 6 = .ok (.iload_n 1, 1) := by decide +kernel
theorem dX6_at_7 : decode cX6_at 7 = .ok (.iadd, 1) := by decide +kernel
theorem dX6_at_8 : decode cX6_at 8 = .ok (.imul, 1) := by decide +kernel
theorem dX6_at_9 : decode cX6_at 9 = .ok (.iadd, 1) := by decide +kernel
theorem dX6_at_10 : decode cX6_at 10 = .ok (.ireturn, 1) := by decide +kernel
theorem dX6_of_0 : decode cX6_of 0 = .ok (.aload_n 0, 1) := by decide +kernel
theorem dX6_of_1 : decode cX6_of 1 = .ok (.getfield 7, 3) := by decide +kernel
theorem dX6_of_4 : decode cX6_of 4 = .ok (.iload_n 1, 1) := by decide +kernel
theorem dX6_of_5 : decode cX6_of 5 = .ok (.iload_n 2, 1) := by decide +kernel
theorem dX6_of_6 : decode cX6_of 6 = .ok (.invokestatic 45, 3) := by decide +kernel
theorem dX6_of_9 : decode cX6_of 9 = .ok (.iload_n 3, 1) := by decide +kernel
theorem dX6_of_10 : decode cX6_of 10 = .ok (.iadd, 1) := by decide +kernel
theorem dX6_of_11 : decode cX6_of 11 = .ok (.iaload, 1) := by decide +kernel
theorem dX6_of_12 : decode cX6_of 12 = .ok (.ireturn, 1) := by decide +kernel
theorem dX6_ofHold_0 : decode cX6_ofHold 0 = .ok (.aload_n 0, 1) := by decide +kernel
theorem dX6_ofHold_1 : decode cX6_ofHold 1 = .ok (.getfield 7, 3) := by decide +kernel
theorem dX6_ofHold_4 : decode cX6_ofHold 4 = .ok (.bipush 96, 2) := by decide +kernel
theorem dX6_ofHold_6 : decode cX6_ofHold 6 = .ok (.iconst 5, 1) := by decide +kernel
theorem dX6_ofHold_7 : decode cX6_ofHold 7 = .ok (.iload_n 1, 1) := by decide +kernel
theorem dX6_ofHold_8 : decode cX6_ofHold 8 = .ok (.imul, 1) := by decide +kernel
theorem dX6_ofHold_9 : decode cX6_ofHold 9 = .ok (.iadd, 1) := by decide +kernel
theorem dX6_ofHold_10 : decode cX6_ofHold 10 = .ok (.iload_n 2, 1) := by decide +kernel
theorem dX6_ofHold_11 : decode cX6_ofHold 11 = .ok (.iadd, 1) := by decide +kernel
theorem dX6_ofHold_12 : decode cX6_ofHold 12 = .ok (.iaload, 1) := by decide +kernel
theorem dX6_ofHold_13 : decode cX6_ofHold 13 = .ok (.ireturn, 1) := by decide +kernel
theorem dX6_ofPayment_0 : decode cX6_ofPayment 0 = .ok (.aload_n 0, 1) := by decide +kernel
theorem dX6_ofPayment_1 : decode cX6_ofPayment 1 = .ok (.getfield 7, 3) := by decide +kernel
theorem dX6_ofPayment_4 : decode cX6_ofPayment 4 = .ok (.sipush 136, 3) := by decide +kernel
theorem dX6_ofPayment_7 : decode cX6_ofPayment 7 = .ok (.iconst 5, 1) := by decide +kernel
theorem dX6_ofPayment_8 : decode cX6_ofPayment 8 = .ok (.iload_n 1, 1) := by decide +kernel
theorem dX6_ofPayment_9 : decode cX6_ofPayment 9 = .ok (.imul, 1) := by decide +kernel
theorem dX6_ofPayment_10 : decode cX6_ofPayment 10 = .ok (.iadd, 1) := by decide +kernel
theorem dX6_ofPayment_11 : decode cX6_ofPayment 11 = .ok (.iload_n 2, 1) := by decide +kernel
theorem dX6_ofPayment_12 : decode cX6_ofPayment 12 = .ok (.iadd, 1) := by decide +kernel
theorem dX6_ofPayment_13 : decode cX6_ofPayment 13 = .ok (.iaload, 1) := by decide +kernel
theorem dX6_ofPayment_14 : decode cX6_ofPayment 14 = .ok (.ireturn, 1) := by decide +kernel
theorem dX6_isHold_0 : decode cX6_isHold 0 = .ok (.iload_n 1, 1) := by decide +kernel
theorem dX6_isHold_1 : decode cX6_isHold 1 = .ok (.iconst 0, 1) := by decide +kernel
theorem dX6_isHold_2 : decode cX6_isHold 2 = .ok (.aload_n 0, 1) := by decide +kernel
theorem dX6_isHold_3 : decode cX6_isHold 3 = .ok (.getfield 7, 3) := by decide +kernel
theorem dX6_isHold_6 : decode cX6_isHold 6 = .ok (.bipush 8, 2) := by decide +kernel
theorem dX6_isHold_8 : decode cX6_isHold 8 = .ok (.iaload, 1) := by decide +kernel
theorem dX6_isHold_9 : decode cX6_isHold 9 = .ok (.iconst 1, 1) := by decide +kernel
theorem dX6_isHold_10 : decode cX6_isHold 10 = .ok (.isub, 1) := by decide +kernel
theorem dX6_isHold_11 : decode cX6_isHold 11 = .ok (.invokestatic 29, 3) := by decide +kernel
theorem dX6_isHold_14 : decode cX6_isHold 14 = .ok (.ireturn, 1) := by decide +kernel
theorem dX6_isPayment_0 : decode cX6_isPayment 0 = .ok (.iload_n 1, 1) := by decide +kernel
theorem dX6_isPayment_1 : decode cX6_isPayment 1 = .ok (.iconst 0, 1) := by decide +kernel
theorem dX6_isPayment_2 : decode cX6_isPayment 2 = .ok (.aload_n 0, 1) := by decide +kernel
theorem dX6_isPayment_3 : decode cX6_isPayment 3 = .ok (.getfield 7, 3) := by decide +kernel
theorem dX6_isPayment_6 : decode cX6_isPayment 6 = .ok (.bipush 9, 2) := by decide +kernel
theorem dX6_isPayment_8 : decode cX6_isPayment 8 = .ok (.iaload, 1) := by decide +kernel
theorem dX6_isPayment_9 : decode cX6_isPayment 9 = .ok (.iconst 1, 1) := by decide +kernel
theorem dX6_isPayment_10 : decode cX6_isPayment 10 = .ok (.isub, 1) := by decide +kernel
theorem dX6_isPayment_11 : decode cX6_isPayment 11 = .ok (.invokestatic 29, 3) := by decide +kernel
theorem dX6_isPayment_14 : decode cX6_isPayment 14 = .ok (.ireturn, 1) := by decide +kernel
theorem dX6_isOf_0 : decode cX6_isOf 0 = .ok (.aload_n 0, 1) := by decide +kernel
theorem dX6_isOf_1 : decode cX6_isOf 1 = .ok (.getfield 7, 3) := by decide +kernel
theorem dX6_isOf_4 : decode cX6_isOf 4 = .ok (.iload_n 1, 1) := by decide +kernel
theorem dX6_isOf_5 : decode cX6_isOf 5 = .ok (.iconst 0, 1) := by decide +kernel
theorem dX6_isOf_6 : decode cX6_isOf 6 = .ok (.iadd, 1) := by decide +kernel
theorem dX6_isOf_7 : decode cX6_isOf 7 = .ok (.iaload, 1) := by decide +kernel
theorem dX6_isOf_8 : decode cX6_isOf 8 = .ok (.iload_n 2, 1) := by decide +kernel
theorem dX6_isOf_9 : decode cX6_isOf 9 = .ok (.if_icmp .ne 19, 3) := by decide +kernel
theorem dX6_isOf_12 : decode cX6_isOf 12 = .ok (.aload_n 0, 1) := by decide +kernel
theorem dX6_isOf_13 : decode cX6_isOf 13 = .ok (.getfield 7, 3) := by decide +kernel
theorem dX6_isOf_16 : decode cX6_isOf 16 = .ok (.iload_n 1, 1) := by decide +kernel
theorem dX6_isOf_17 : decode cX6_isOf 17 = .ok (.iconst 1, 1) := by decide +kernel
theorem dX6_isOf_18 : decode cX6_isOf 18 = .ok (.iadd, 1) := by decide +kernel
theorem dX6_isOf_19 : decode cX6_isOf 19 = .ok (.iaload, 1) := by decide +kernel
theorem dX6_isOf_20 : decode cX6_isOf 20 = .ok (.iload_n 3, 1) := by decide +kernel
theorem dX6_isOf_21 : decode cX6_isOf 21 = .ok (.if_icmp .ne 7, 3) := by decide +kernel
theorem dX6_isOf_24 : decode cX6_isOf 24 = .ok (.iconst 1, 1) := by decide +kernel
theorem dX6_isOf_25 : decode cX6_isOf 25 = .ok (.goto 4, 3) := by decide +kernel
theorem dX6_isOf_28 : decode cX6_isOf 28 = .ok (.iconst 0, 1) := by decide +kernel
theorem dX6_isOf_29 : decode cX6_isOf 29 = .ok (.ireturn, 1) := by decide +kernel
theorem dX6_keptOf_0 : decode cX6_keptOf 0 = .ok (.iconst 0, 1) := by decide +kernel
theorem dX6_keptOf_1 : decode cX6_keptOf 1 = .ok (.istore_n 3, 1) := by decide +kernel
theorem dX6_keptOf_2 : decode cX6_keptOf 2 = .ok (.iconst 0, 1) := by decide +kernel
theorem dX6_keptOf_3 : decode cX6_keptOf 3 = .ok (.istore 4, 2) := by decide +kernel
theorem dX6_keptOf_5 : decode cX6_keptOf 5 = .ok (.iload 4, 2) := by decide +kernel
theorem dX6_keptOf_7 : decode cX6_keptOf 7 = .ok (.aload_n 0, 1) := by decide +kernel
theorem dX6_keptOf_8 : decode cX6_keptOf 8 = .ok (.getfield 7, 3) := by decide +kernel
theorem dX6_keptOf_11 : decode cX6_keptOf 11 = .ok (.bipush 8, 2) := by decide +kernel
theorem dX6_keptOf_13 : decode cX6_keptOf 13 = .ok (.iaload, 1) := by decide +kernel
theorem dX6_keptOf_14 : decode cX6_keptOf 14 = .ok (.if_icmp .ge 39, 3) := by decide +kernel
theorem dX6_keptOf_17 : decode cX6_keptOf 17 = .ok (.iload_n 3, 1) := by decide +kernel
theorem dX6_keptOf_18 : decode cX6_keptOf 18 = .ok (.aload_n 0, 1) := by decide +kernel
theorem dX6_keptOf_19 : decode cX6_keptOf 19 = .ok (.bipush 96, 2) := by decide +kernel
theorem dX6_keptOf_21 : decode cX6_keptOf 21 = .ok (.iconst 5, 1) := by decide +kernel
theorem dX6_keptOf_22 : decode cX6_keptOf 22 = .ok (.iload 4, 2) := by decide +kernel
theorem dX6_keptOf_24 : decode cX6_keptOf 24 = .ok (.imul, 1) := by decide +kernel
theorem dX6_keptOf_25 : decode cX6_keptOf 25 = .ok (.iadd, 1) := by decide +kernel
theorem dX6_keptOf_26 : decode cX6_keptOf 26 = .ok (.iload_n 1, 1) := by decide +kernel
theorem dX6_keptOf_27 : decode cX6_keptOf 27 = .ok (.iload_n 2, 1) := by decide +kernel
theorem dX6_keptOf_28 : decode cX6_keptOf 28 = .ok (.invokevirtual 49, 3) := by decide +kernel
theorem dX6_keptOf_31 : decode cX6_keptOf 31 = .ok (.ifCond .eq 13, 3) := by decide +kernel
theorem dX6_keptOf_34 : decode cX6_keptOf 34 = .ok (.aload_n 0, 1) := by decide +kernel
theorem dX6_keptOf_35 : decode cX6_keptOf 35 = .ok (.iload 4, 2) := by decide +kernel
theorem dX6_keptOf_37 : decode cX6_keptOf 37 = .ok (.iconst 3, 1) := by decide +kernel
theorem dX6_keptOf_38 : decode cX6_keptOf 38 = .ok (.invokevirtual 52, 3) := by decide +kernel
theorem dX6_keptOf_41 : decode cX6_keptOf 41 = .ok (.goto 4, 3) := by decide +kernel
theorem dX6_keptOf_44 : decode cX6_keptOf 44 = .ok (.iconst 0, 1) := by decide +kernel
theorem dX6_keptOf_45 : decode cX6_keptOf 45 = .ok (.iadd, 1) := by decide +kernel
theorem dX6_keptOf_46 : decode cX6_keptOf 46 = .ok (.istore_n 3, 1) := by decide +kernel
theorem dX6_keptOf_47 : decode cX6_keptOf 47 = .ok (.iinc 4 1, 3) := by decide +kernel
theorem dX6_keptOf_50 : decode cX6_keptOf 50 = .ok (.goto (-45), 3) := by decide +kernel
theorem dX6_keptOf_53 : decode cX6_keptOf 53 = .ok (.iload_n 3, 1) := by decide +kernel
theorem dX6_keptOf_54 : decode cX6_keptOf 54 = .ok (.ireturn, 1) := by decide +kernel
theorem dX6_freeOf_0 : decode cX6_freeOf 0 = .ok (.aload_n 0, 1) := by decide +kernel
theorem dX6_freeOf_1 : decode cX6_freeOf 1 = .ok (.iload_n 1, 1) := by decide +kernel
theorem dX6_freeOf_2 : decode cX6_freeOf 2 = .ok (.iload_n 2, 1) := by decide +kernel
theorem dX6_freeOf_3 : decode cX6_freeOf 3 = .ok (.iconst 0, 1) := by decide +kernel
theorem dX6_freeOf_4 : decode cX6_freeOf 4 = .ok (.invokevirtual 55, 3) := by decide +kernel
theorem dX6_freeOf_7 : decode cX6_freeOf 7 = .ok (.aload_n 0, 1) := by decide +kernel
theorem dX6_freeOf_8 : decode cX6_freeOf 8 = .ok (.iload_n 1, 1) := by decide +kernel
theorem dX6_freeOf_9 : decode cX6_freeOf 9 = .ok (.iload_n 2, 1) := by decide +kernel
theorem dX6_freeOf_10 : decode cX6_freeOf 10 = .ok (.invokevirtual 59, 3) := by decide +kernel
theorem dX6_freeOf_13 : decode cX6_freeOf 13 = .ok (.isub, 1) := by decide +kernel
theorem dX6_freeOf_14 : decode cX6_freeOf 14 = .ok (.ireturn, 1) := by decide +kernel
theorem dX6_comeIn_0 : decode cX6_comeIn 0 = .ok (.aload_n 0, 1) := by decide +kernel
theorem dX6_comeIn_1 : decode cX6_comeIn 1 = .ok (.iload_n 1, 1) := by decide +kernel
theorem dX6_comeIn_2 : decode cX6_comeIn 2 = .ok (.iload_n 2, 1) := by decide +kernel
theorem dX6_comeIn_3 : decode cX6_comeIn 3 = .ok (.iconst 1, 1) := by decide +kernel
theorem dX6_comeIn_4 : decode cX6_comeIn 4 = .ok (.invokevirtual 55, 3) := by decide +kernel
theorem dX6_comeIn_7 : decode cX6_comeIn 7 = .ok (.istore 4, 2) := by decide +kernel
theorem dX6_comeIn_9 : decode cX6_comeIn 9 = .ok (.iload 4, 2) := by decide +kernel
theorem dX6_comeIn_11 : decode cX6_comeIn 11 = .ok (.iload_n 3, 1) := by decide +kernel
theorem dX6_comeIn_12 : decode cX6_comeIn 12 = .ok (.if_icmp .ge 8, 3) := by decide +kernel
theorem dX6_comeIn_15 : decode cX6_comeIn 15 = .ok (.iload 4, 2) := by decide +kernel
theorem dX6_comeIn_17 : decode cX6_comeIn 17 = .ok (.goto 4, 3) := by decide +kernel
theorem dX6_comeIn_20 : decode cX6_comeIn 20 = .ok (.iload_n 3, 1) := by decide +kernel
theorem dX6_comeIn_21 : decode cX6_comeIn 21 = .ok (.istore 5, 2) := by decide +kernel
theorem dX6_comeIn_23 : decode cX6_comeIn 23 = .ok (.aload_n 0, 1) := by decide +kernel
theorem dX6_comeIn_24 : decode cX6_comeIn 24 = .ok (.getfield 7, 3) := by decide +kernel
theorem dX6_comeIn_27 : decode cX6_comeIn 27 = .ok (.iload_n 1, 1) := by decide +kernel
theorem dX6_comeIn_28 : decode cX6_comeIn 28 = .ok (.iload_n 2, 1) := by decide +kernel
theorem dX6_comeIn_29 : decode cX6_comeIn 29 = .ok (.invokestatic 45, 3) := by decide +kernel
theorem dX6_comeIn_32 : decode cX6_comeIn 32 = .ok (.iconst 1, 1) := by decide +kernel
theorem dX6_comeIn_33 : decode cX6_comeIn 33 = .ok (.iadd, 1) := by decide +kernel
theorem dX6_comeIn_34 : decode cX6_comeIn 34 = .ok (.dup2, 1) := by decide +kernel
theorem dX6_comeIn_35 : decode cX6_comeIn 35 = .ok (.iaload, 1) := by decide +kernel
theorem dX6_comeIn_36 : decode cX6_comeIn 36 = .ok (.iload 5, 2) := by decide +kernel
theorem dX6_comeIn_38 : decode cX6_comeIn 38 = .ok (.isub, 1) := by decide +kernel
theorem dX6_comeIn_39 : decode cX6_comeIn 39 = .ok (.iastore, 1) := by decide +kernel
theorem dX6_comeIn_40 : decode cX6_comeIn 40 = .ok (.aload_n 0, 1) := by decide +kernel
theorem dX6_comeIn_41 : decode cX6_comeIn 41 = .ok (.getfield 7, 3) := by decide +kernel
theorem dX6_comeIn_44 : decode cX6_comeIn 44 = .ok (.bipush 15, 2) := by decide +kernel
theorem dX6_comeIn_46 : decode cX6_comeIn 46 = .ok (.dup2, 1) := by decide +kernel
theorem dX6_comeIn_47 : decode cX6_comeIn 47 = .ok (.iaload, 1) := by decide +kernel
theorem dX6_comeIn_48 : decode cX6_comeIn 48 = .ok (.iload 5, 2) := by decide +kernel
theorem dX6_comeIn_50 : decode cX6_comeIn 50 = .ok (.iadd, 1) := by decide +kernel
theorem dX6_comeIn_51 : decode cX6_comeIn 51 = .ok (.iastore, 1) := by decide +kernel
theorem dX6_comeIn_52 : decode cX6_comeIn 52 = .ok (.aload_n 0, 1) := by decide +kernel
theorem dX6_comeIn_53 : decode cX6_comeIn 53 = .ok (.getfield 7, 3) := by decide +kernel
theorem dX6_comeIn_56 : decode cX6_comeIn 56 = .ok (.iload_n 1, 1) := by decide +kernel
theorem dX6_comeIn_57 : decode cX6_comeIn 57 = .ok (.iload_n 2, 1) := by decide +kernel
theorem dX6_comeIn_58 : decode cX6_comeIn 58 = .ok (.invokestatic 45, 3) := by decide +kernel
theorem dX6_comeIn_61 : decode cX6_comeIn 61 = .ok (.iconst 0, 1) := by decide +kernel
theorem dX6_comeIn_62 : decode cX6_comeIn 62 = .ok (.iadd, 1) := by decide +kernel
theorem dX6_comeIn_63 : decode cX6_comeIn 63 = .ok (.dup2, 1) := by decide +kernel
theorem dX6_comeIn_64 : decode cX6_comeIn 64 = .ok (.iaload, 1) := by decide +kernel
theorem dX6_comeIn_65 : decode cX6_comeIn 65 = .ok (.iload_n 3, 1) := by decide +kernel
theorem dX6_comeIn_66 : decode cX6_comeIn 66 = .ok (.iload 5, 2) := by decide +kernel
theorem dX6_comeIn_68 : decode cX6_comeIn 68 = .ok (.isub, 1) := by decide +kernel
theorem dX6_comeIn_69 : decode cX6_comeIn 69 = .ok (.iadd, 1) := by decide +kernel
theorem dX6_comeIn_70 : decode cX6_comeIn 70 = .ok (.iastore, 1) := by decide +kernel
theorem dX6_comeIn_71 : decode cX6_comeIn 71 = .ok (.return_, 1) := by decide +kernel
theorem dX6_load_0 : decode cX6_load 0 = .ok (.aload_n 0, 1) := by decide +kernel
theorem dX6_load_1 : decode cX6_load 1 = .ok (.iload_n 1, 1) := by decide +kernel
theorem dX6_load_2 : decode cX6_load 2 = .ok (.invokestatic 33, 3) := by decide +kernel
theorem dX6_load_5 : decode cX6_load 5 = .ok (.ifCond .ne 7, 3) := by decide +kernel
theorem dX6_load_8 : decode cX6_load 8 = .ok (.iconst 1, 1) := by decide +kernel
theorem dX6_load_9 : decode cX6_load 9 = .ok (.goto 28, 3) := by decide +kernel
theorem dX6_load_12 : decode cX6_load 12 = .ok (.iload_n 2, 1) := by decide +kernel
theorem dX6_load_13 : decode cX6_load 13 = .ok (.invokestatic 62, 3) := by decide +kernel
theorem dX6_load_16 : decode cX6_load 16 = .ok (.ifCond .ne 7, 3) := by decide +kernel
theorem dX6_load_19 : decode cX6_load 19 = .ok (.iconst 2, 1) := by decide +kernel
theorem dX6_load_20 : decode cX6_load 20 = .ok (.goto 17, 3) := by decide +kernel
theorem dX6_load_23 : decode cX6_load 23 = .ok (.aload_n 0, 1) := by decide +kernel
theorem dX6_load_24 : decode cX6_load 24 = .ok (.iload_n 1, 1) := by decide +kernel
theorem dX6_load_25 : decode cX6_load 25 = .ok (.iload_n 2, 1) := by decide +kernel
theorem dX6_load_26 : decode cX6_load 26 = .ok (.invokevirtual 65, 3) := by decide +kernel
theorem dX6_load_29 : decode cX6_load 29 = .ok (.ifCond .eq 7, 3) := by decide +kernel
theorem dX6_load_32 : decode cX6_load 32 = .ok (.iconst 0, 1) := by decide +kernel
theorem dX6_load_33 : decode cX6_load 33 = .ok (.goto 4, 3) := by decide +kernel
theorem dX6_load_36 : decode cX6_load 36 = .ok (.iconst 3, 1) := by decide +kernel
theorem dX6_load_37 : decode cX6_load 37 = .ok (.putfield 22, 3) := by decide +kernel
theorem dX6_load_40 : decode cX6_load 40 = .ok (.aload_n 0, 1) := by decide +kernel
theorem dX6_load_41 : decode cX6_load 41 = .ok (.getfield 22, 3) := by decide +kernel
theorem dX6_load_44 : decode cX6_load 44 = .ok (.ifCond .le 5, 3) := by decide +kernel
theorem dX6_load_47 : decode cX6_load 47 = .ok (.iconst 0, 1) := by decide +kernel
theorem dX6_load_48 : decode cX6_load 48 = .ok (.ireturn, 1) := by decide +kernel
theorem dX6_load_49 : decode cX6_load 49 = .ok (.aload_n 0, 1) := by decide +kernel
theorem dX6_load_50 : decode cX6_load 50 = .ok (.invokevirtual 68, 3) := by decide +kernel
theorem dX6_load_53 : decode cX6_load 53 = .ok (.aload_n 0, 1) := by decide +kernel
theorem dX6_load_54 : decode cX6_load 54 = .ok (.iload_n 1, 1) := by decide +kernel
theorem dX6_load_55 : decode cX6_load 55 = .ok (.iload_n 2, 1) := by decide +kernel
theorem dX6_load_56 : decode cX6_load 56 = .ok (.invokevirtual 71, 3) := by decide +kernel
theorem dX6_load_59 : decode cX6_load 59 = .ok (.aload_n 0, 1) := by decide +kernel
theorem dX6_load_60 : decode cX6_load 60 = .ok (.iload_n 1, 1) := by decide +kernel
theorem dX6_load_61 : decode cX6_load 61 = .ok (.iconst 0, 1) := by decide +kernel
theorem dX6_load_62 : decode cX6_load 62 = .ok (.iconst 0, 1) := by decide +kernel
theorem dX6_load_63 : decode cX6_load 63 = .ok (.invokevirtual 55, 3) := by decide +kernel
theorem dX6_load_66 : decode cX6_load 66 = .ok (.ireturn, 1) := by decide +kernel
theorem dX6_canLoad_0 : decode cX6_canLoad 0 = .ok (.aload_n 0, 1) := by decide +kernel
theorem dX6_canLoad_1 : decode cX6_canLoad 1 = .ok (.iload_n 1, 1) := by decide +kernel
theorem dX6_canLoad_2 : decode cX6_canLoad 2 = .ok (.iconst 0, 1) := by decide +kernel
theorem dX6_canLoad_3 : decode cX6_canLoad 3 = .ok (.iconst 0, 1) := by decide +kernel
theorem dX6_canLoad_4 : decode cX6_canLoad 4 = .ok (.invokevirtual 55, 3) := by decide +kernel
theorem dX6_canLoad_7 : decode cX6_canLoad 7 = .ok (.iload_n 2, 1) := by decide +kernel
theorem dX6_canLoad_8 : decode cX6_canLoad 8 = .ok (.iadd, 1) := by decide +kernel
theorem dX6_canLoad_9 : decode cX6_canLoad 9 = .ok (.ldc 75, 2) := by decide +kernel
theorem dX6_canLoad_11 : decode cX6_canLoad 11 = .ok (.if_icmp .gt 7, 3) := by decide +kernel
theorem dX6_canLoad_14 : decode cX6_canLoad 14 = .ok (.iconst 1, 1) := by decide +kernel
theorem dX6_canLoad_15 : decode cX6_canLoad 15 = .ok (.goto 4, 3) := by decide +kernel
theorem dX6_canLoad_18 : decode cX6_canLoad 18 = .ok (.iconst 0, 1) := by decide +kernel
theorem dX6_canLoad_19 : decode cX6_canLoad 19 = .ok (.ireturn, 1) := by decide +kernel
theorem dX6_loads_0 : decode cX6_loads 0 = .ok (.aload_n 0, 1) := by decide +kernel
theorem dX6_loads_1 : decode cX6_loads 1 = .ok (.iload_n 1, 1) := by decide +kernel
theorem dX6_loads_2 : decode cX6_loads 2 = .ok (.iconst 0, 1) := by decide +kernel
theorem dX6_loads_3 : decode cX6_loads 3 = .ok (.iload_n 2, 1) := by decide +kernel
theorem dX6_loads_4 : decode cX6_loads 4 = .ok (.invokevirtual 76, 3) := by decide +kernel
theorem dX6_loads_7 : decode cX6_loads 7 = .ok (.aload_n 0, 1) := by decide +kernel
theorem dX6_loads_8 : decode cX6_loads 8 = .ok (.getfield 7, 3) := by decide +kernel
theorem dX6_loads_11 : decode cX6_loads 11 = .ok (.bipush 10, 2) := by decide +kernel
theorem dX6_loads_13 : decode cX6_loads 13 = .ok (.dup2, 1) := by decide +kernel
theorem dX6_loads_14 : decode cX6_loads 14 = .ok (.iaload, 1) := by decide +kernel
theorem dX6_loads_15 : decode cX6_loads 15 = .ok (.iload_n 2, 1) := by decide +kernel
theorem dX6_loads_16 : decode cX6_loads 16 = .ok (.iadd, 1) := by decide +kernel
theorem dX6_loads_17 : decode cX6_loads 17 = .ok (.iastore, 1) := by decide +kernel
theorem dX6_loads_18 : decode cX6_loads 18 = .ok (.return_, 1) := by decide +kernel
theorem dX6_quote_0 : decode cX6_quote 0 = .ok (.aload_n 0, 1) := by decide +kernel
theorem dX6_quote_1 : decode cX6_quote 1 = .ok (.iload_n 1, 1) := by decide +kernel
theorem dX6_quote_2 : decode cX6_quote 2 = .ok (.iconst 1, 1) := by decide +kernel
theorem dX6_quote_3 : decode cX6_quote 3 = .ok (.iconst 3, 1) := by decide +kernel
theorem dX6_quote_4 : decode cX6_quote 4 = .ok (.invokestatic 29, 3) := by decide +kernel
theorem dX6_quote_7 : decode cX6_quote 7 = .ok (.ifCond .ne 7, 3) := by decide +kernel
theorem dX6_quote_10 : decode cX6_quote 10 = .ok (.iconst 1, 1) := by decide +kernel
theorem dX6_quote_11 : decode cX6_quote 11 = .ok (.goto 20, 3) := by decide +kernel
theorem dX6_quote_14 : decode cX6_quote 14 = .ok (.iload_n 2, 1) := by decide +kernel
theorem dX6_quote_15 : decode cX6_quote 15 = .ok (.bipush 100, 2) := by decide +kernel
theorem dX6_quote_17 : decode cX6_quote 17 = .ok (.sipush 2000, 3) := by decide +kernel
theorem dX6_quote_20 : decode cX6_quote 20 = .ok (.invokestatic 29, 3) := by decide +kernel
theorem dX6_quote_23 : decode cX6_quote 23 = .ok (.ifCond .eq 7, 3) := by decide +kernel
theorem dX6_quote_26 : decode cX6_quote 26 = .ok (.iconst 0, 1) := by decide +kernel
theorem dX6_quote_27 : decode cX6_quote 27 = .ok (.goto 4, 3) := by decide +kernel
theorem dX6_quote_30 : decode cX6_quote 30 = .ok (.iconst 2, 1) := by decide +kernel
theorem dX6_quote_31 : decode cX6_quote 31 = .ok (.putfield 22, 3) := by decide +kernel
theorem dX6_quote_34 : decode cX6_quote 34 = .ok (.aload_n 0, 1) := by decide +kernel
theorem dX6_quote_35 : decode cX6_quote 35 = .ok (.getfield 22, 3) := by decide +kernel
theorem dX6_quote_38 : decode cX6_quote 38 = .ok (.ifCond .le 5, 3) := by decide +kernel
theorem dX6_quote_41 : decode cX6_quote 41 = .ok (.iconst 0, 1) := by decide +kernel
theorem dX6_quote_42 : decode cX6_quote 42 = .ok (.ireturn, 1) := by decide +kernel
theorem dX6_quote_43 : decode cX6_quote 43 = .ok (.aload_n 0, 1) := by decide +kernel
theorem dX6_quote_44 : decode cX6_quote 44 = .ok (.invokevirtual 68, 3) := by decide +kernel
theorem dX6_quote_47 : decode cX6_quote 47 = .ok (.aload_n 0, 1) := by decide +kernel
theorem dX6_quote_48 : decode cX6_quote 48 = .ok (.getfield 7, 3) := by decide +kernel
theorem dX6_quote_51 : decode cX6_quote 51 = .ok (.iconst 4, 1) := by decide +kernel
theorem dX6_quote_52 : decode cX6_quote 52 = .ok (.iload_n 1, 1) := by decide +kernel
theorem dX6_quote_53 : decode cX6_quote 53 = .ok (.iadd, 1) := by decide +kernel
theorem dX6_quote_54 : decode cX6_quote 54 = .ok (.iaload, 1) := by decide +kernel
theorem dX6_quote_55 : decode cX6_quote 55 = .ok (.istore_n 3, 1) := by decide +kernel
theorem dX6_quote_56 : decode cX6_quote 56 = .ok (.aload_n 0, 1) := by decide +kernel
theorem dX6_quote_57 : decode cX6_quote 57 = .ok (.getfield 7, 3) := by decide +kernel
theorem dX6_quote_60 : decode cX6_quote 60 = .ok (.iconst 4, 1) := by decide +kernel
theorem dX6_quote_61 : decode cX6_quote 61 = .ok (.iload_n 1, 1) := by decide +kernel
theorem dX6_quote_62 : decode cX6_quote 62 = .ok (.iadd, 1) := by decide +kernel
theorem dX6_quote_63 : decode cX6_quote 63 = .ok (.iload_n 2, 1) := by decide +kernel
theorem dX6_quote_64 : decode cX6_quote 64 = .ok (.iastore, 1) := by decide +kernel
theorem dX6_quote_65 : decode cX6_quote 65 = .ok (.iload_n 3, 1) := by decide +kernel
theorem dX6_quote_66 : decode cX6_quote 66 = .ok (.ireturn, 1) := by decide +kernel
theorem dX6_isLocked_0 : decode cX6_isLocked 0 = .ok (.aload_n 0, 1) := by decide +kernel
theorem dX6_isLocked_1 : decode cX6_isLocked 1 = .ok (.iload_n 1, 1) := by decide +kernel
theorem dX6_isLocked_2 : decode cX6_isLocked 2 = .ok (.iload_n 2, 1) := by decide +kernel
theorem dX6_isLocked_3 : decode cX6_isLocked 3 = .ok (.iconst 2, 1) := by decide +kernel
theorem dX6_isLocked_4 : decode cX6_isLocked 4 = .ok (.invokevirtual 55, 3) := by decide +kernel
theorem dX6_isLocked_7 : decode cX6_isLocked 7 = .ok (.ifCond .le 23, 3) := by decide +kernel
theorem dX6_isLocked_10 : decode cX6_isLocked 10 = .ok (.aload_n 0, 1) := by decide +kernel
theorem dX6_isLocked_11 : decode cX6_isLocked 11 = .ok (.iload_n 1, 1) := by decide +kernel
theorem dX6_isLocked_12 : decode cX6_isLocked 12 = .ok (.iload_n 2, 1) := by decide +kernel
theorem dX6_isLocked_13 : decode cX6_isLocked 13 = .ok (.iconst 3, 1) := by decide +kernel
theorem dX6_isLocked_14 : decode cX6_isLocked 14 = .ok (.invokevirtual 55, 3) := by decide +kernel
theorem dX6_isLocked_17 : decode cX6_isLocked 17 = .ok (.aload_n 0, 1) := by decide +kernel
theorem dX6_isLocked_18 : decode cX6_isLocked 18 = .ok (.getfield 7, 3) := by decide +kernel
theorem dX6_isLocked_21 : decode cX6_isLocked 21 = .ok (.iconst 4, 1) := by decide +kernel
theorem dX6_isLocked_22 : decode cX6_isLocked 22 = .ok (.iaload, 1) := by decide +kernel
theorem dX6_isLocked_23 : decode cX6_isLocked 23 = .ok (.if_icmp .lt 7, 3) := by decide +kernel
theorem dX6_isLocked_26 : decode cX6_isLocked 26 = .ok (.iconst 1, 1) := by decide +kernel
theorem dX6_isLocked_27 : decode cX6_isLocked 27 = .ok (.goto 4, 3) := by decide +kernel
theorem dX6_isLocked_30 : decode cX6_isLocked 30 = .ok (.iconst 0, 1) := by decide +kernel
theorem dX6_isLocked_31 : decode cX6_isLocked 31 = .ok (.ireturn, 1) := by decide +kernel
theorem dX6_rateOf_0 : decode cX6_rateOf 0 = .ok (.iload_n 2, 1) := by decide +kernel
theorem dX6_rateOf_1 : decode cX6_rateOf 1 = .ok (.ifCond .ne 9, 3) := by decide +kernel
theorem dX6_rateOf_4 : decode cX6_rateOf 4 = .ok (.sipush 1000, 3) := by decide +kernel
theorem dX6_rateOf_7 : decode cX6_rateOf 7 = .ok (.goto 30, 3) := by decide +kernel
theorem dX6_rateOf_10 : decode cX6_rateOf 10 = .ok (.aload_n 0, 1) := by decide +kernel
theorem dX6_rateOf_11 : decode cX6_rateOf 11 = .ok (.iload_n 1, 1) := by decide +kernel
theorem dX6_rateOf_12 : decode cX6_rateOf 12 = .ok (.iload_n 2, 1) := by decide +kernel
theorem dX6_rateOf_13 : decode cX6_rateOf 13 = .ok (.invokevirtual 80, 3) := by decide +kernel
theorem dX6_rateOf_16 : decode cX6_rateOf 16 = .ok (.ifCond .eq 13, 3) := by decide +kernel
theorem dX6_rateOf_19 : decode cX6_rateOf 19 = .ok (.aload_n 0, 1) := by decide +kernel
theorem dX6_rateOf_20 : decode cX6_rateOf 20 = .ok (.iload_n 1, 1) := by decide +kernel
theorem dX6_rateOf_21 : decode cX6_rateOf 21 = .ok (.iload_n 2, 1) := by decide +kernel
theorem dX6_rateOf_22 : decode cX6_rateOf 22 = .ok (.iconst 2, 1) := by decide +kernel
theorem dX6_rateOf_23 : decode cX6_rateOf 23 = .ok (.invokevirtual 55, 3) := by decide +kernel
theorem dX6_rateOf_26 : decode cX6_rateOf 26 = .ok (.goto 11, 3) := by decide +kernel
theorem dX6_rateOf_29 : decode cX6_rateOf 29 = .ok (.aload_n 0, 1) := by decide +kernel
theorem dX6_rateOf_30 : decode cX6_rateOf 30 = .ok (.getfield 7, 3) := by decide +kernel
theorem dX6_rateOf_33 : decode cX6_rateOf 33 = .ok (.iconst 4, 1) := by decide +kernel
theorem dX6_rateOf_34 : decode cX6_rateOf 34 = .ok (.iload_n 2, 1) := by decide +kernel
theorem dX6_rateOf_35 : decode cX6_rateOf 35 = .ok (.iadd, 1) := by decide +kernel
theorem dX6_rateOf_36 : decode cX6_rateOf 36 = .ok (.iaload, 1) := by decide +kernel
theorem dX6_rateOf_37 : decode cX6_rateOf 37 = .ok (.ireturn, 1) := by decide +kernel
theorem dX6_lock_0 : decode cX6_lock 0 = .ok (.aload_n 0, 1) := by decide +kernel
theorem dX6_lock_1 : decode cX6_lock 1 = .ok (.iload_n 1, 1) := by decide +kernel
theorem dX6_lock_2 : decode cX6_lock 2 = .ok (.iload_n 2, 1) := by decide +kernel
theorem dX6_lock_3 : decode cX6_lock 3 = .ok (.invokestatic 83, 3) := by decide +kernel
theorem dX6_lock_6 : decode cX6_lock 6 = .ok (.ifCond .eq 7, 3) := by decide +kernel
theorem dX6_lock_9 : decode cX6_lock 9 = .ok (.iconst 0, 1) := by decide +kernel
theorem dX6_lock_10 : decode cX6_lock 10 = .ok (.goto 4, 3) := by decide +kernel
theorem dX6_lock_13 : decode cX6_lock 13 = .ok (.iconst 1, 1) := by decide +kernel
theorem dX6_lock_14 : decode cX6_lock 14 = .ok (.putfield 22, 3) := by decide +kernel
theorem dX6_lock_17 : decode cX6_lock 17 = .ok (.aload_n 0, 1) := by decide +kernel
theorem dX6_lock_18 : decode cX6_lock 18 = .ok (.getfield 22, 3) := by decide +kernel
theorem dX6_lock_21 : decode cX6_lock 21 = .ok (.ifCond .le 5, 3) := by decide +kernel
theorem dX6_lock_24 : decode cX6_lock 24 = .ok (.iconst 0, 1) := by decide +kernel
theorem dX6_lock_25 : decode cX6_lock 25 = .ok (.ireturn, 1) := by decide +kernel
theorem dX6_lock_26 : decode cX6_lock 26 = .ok (.aload_n 0, 1) := by decide +kernel
theorem dX6_lock_27 : decode cX6_lock 27 = .ok (.invokevirtual 68, 3) := by decide +kernel
theorem dX6_lock_30 : decode cX6_lock 30 = .ok (.aload_n 0, 1) := by decide +kernel
theorem dX6_lock_31 : decode cX6_lock 31 = .ok (.getfield 7, 3) := by decide +kernel
theorem dX6_lock_34 : decode cX6_lock 34 = .ok (.iload_n 1, 1) := by decide +kernel
theorem dX6_lock_35 : decode cX6_lock 35 = .ok (.iload_n 2, 1) := by decide +kernel
theorem dX6_lock_36 : decode cX6_lock 36 = .ok (.invokestatic 45, 3) := by decide +kernel
theorem dX6_lock_39 : decode cX6_lock 39 = .ok (.iconst 2, 1) := by decide +kernel
theorem dX6_lock_40 : decode cX6_lock 40 = .ok (.iadd, 1) := by decide +kernel
theorem dX6_lock_41 : decode cX6_lock 41 = .ok (.aload_n 0, 1) := by decide +kernel
theorem dX6_lock_42 : decode cX6_lock 42 = .ok (.getfield 7, 3) := by decide +kernel
theorem dX6_lock_45 : decode cX6_lock 45 = .ok (.iconst 4, 1) := by decide +kernel
theorem dX6_lock_46 : decode cX6_lock 46 = .ok (.iload_n 2, 1) := by decide +kernel
theorem dX6_lock_47 : decode cX6_lock 47 = .ok (.iadd, 1) := by decide +kernel
theorem dX6_lock_48 : decode cX6_lock 48 = .ok (.iaload, 1) := by decide +kernel
theorem dX6_lock_49 : decode cX6_lock 49 = .ok (.iastore, 1) := by decide +kernel
theorem dX6_lock_50 : decode cX6_lock 50 = .ok (.aload_n 0, 1) := by decide +kernel
theorem dX6_lock_51 : decode cX6_lock 51 = .ok (.getfield 7, 3) := by decide +kernel
theorem dX6_lock_54 : decode cX6_lock 54 = .ok (.iload_n 1, 1) := by decide +kernel
theorem dX6_lock_55 : decode cX6_lock 55 = .ok (.iload_n 2, 1) := by decide +kernel
theorem dX6_lock_56 : decode cX6_lock 56 = .ok (.invokestatic 45, 3) := by decide +kernel
theorem dX6_lock_59 : decode cX6_lock 59 = .ok (.iconst 3, 1) := by decide +kernel
theorem dX6_lock_60 : decode cX6_lock 60 = .ok (.iadd, 1) := by decide +kernel
theorem dX6_lock_61 : decode cX6_lock 61 = .ok (.aload_n 0, 1) := by decide +kernel
theorem dX6_lock_62 : decode cX6_lock 62 = .ok (.getfield 7, 3) := by decide +kernel
theorem dX6_lock_65 : decode cX6_lock 65 = .ok (.iconst 4, 1) := by decide +kernel
theorem dX6_lock_66 : decode cX6_lock 66 = .ok (.iaload, 1) := by decide +kernel
theorem dX6_lock_67 : decode cX6_lock 67 = .ok (.aload_n 0, 1) := by decide +kernel
theorem dX6_lock_68 : decode cX6_lock 68 = .ok (.getfield 7, 3) := by decide +kernel
theorem dX6_lock_71 : decode cX6_lock 71 = .ok (.iconst 0, 1) := by decide +kernel
theorem dX6_lock_72 : decode cX6_lock 72 = .ok (.iaload, 1) := by decide +kernel
theorem dX6_lock_73 : decode cX6_lock 73 = .ok (.iadd, 1) := by decide +kernel
theorem dX6_lock_74 : decode cX6_lock 74 = .ok (.iastore, 1) := by decide +kernel
theorem dX6_lock_75 : decode cX6_lock 75 = .ok (.aload_n 0, 1) := by decide +kernel
theorem dX6_lock_76 : decode cX6_lock 76 = .ok (.getfield 7, 3) := by decide +kernel
theorem dX6_lock_79 : decode cX6_lock 79 = .ok (.iconst 4, 1) := by decide +kernel
theorem dX6_lock_80 : decode cX6_lock 80 = .ok (.iaload, 1) := by decide +kernel
theorem dX6_lock_81 : decode cX6_lock 81 = .ok (.aload_n 0, 1) := by decide +kernel
theorem dX6_lock_82 : decode cX6_lock 82 = .ok (.getfield 7, 3) := by decide +kernel
theorem dX6_lock_85 : decode cX6_lock 85 = .ok (.iconst 0, 1) := by decide +kernel
theorem dX6_lock_86 : decode cX6_lock 86 = .ok (.iaload, 1) := by decide +kernel
theorem dX6_lock_87 : decode cX6_lock 87 = .ok (.iadd, 1) := by decide +kernel
theorem dX6_lock_88 : decode cX6_lock 88 = .ok (.ireturn, 1) := by decide +kernel
theorem dX6_given_0 : decode cX6_given 0 = .ok (.iload_n 2, 1) := by decide +kernel
theorem dX6_given_1 : decode cX6_given 1 = .ok (.ifCond .ne 22, 3) := by decide +kernel
theorem dX6_given_4 : decode cX6_given 4 = .ok (.ldc2_w 86, 3) := by decide +kernel
theorem dX6_given_7 : decode cX6_given 7 = .ok (.iload 4, 2) := by decide +kernel
theorem dX6_given_9 : decode cX6_given 9 = .ok (.i2l, 1) := by decide +kernel
theorem dX6_given_10 : decode cX6_given 10 = .ok (.lmul, 1) := by decide +kernel
theorem dX6_given_11 : decode cX6_given 11 = .ok (.aload_n 0, 1) := by decide +kernel
theorem dX6_given_12 : decode cX6_given 12 = .ok (.iload_n 1, 1) := by decide +kernel
theorem dX6_given_13 : decode cX6_given 13 = .ok (.iload_n 3, 1) := by decide +kernel
theorem dX6_given_14 : decode cX6_given 14 = .ok (.invokevirtual 88, 3) := by decide +kernel
theorem dX6_given_17 : decode cX6_given 17 = .ok (.i2l, 1) := by decide +kernel
theorem dX6_given_18 : decode cX6_given 18 = .ok (.ldiv, 1) := by decide +kernel
theorem dX6_given_19 : decode cX6_given 19 = .ok (.l2i, 1) := by decide +kernel
theorem dX6_given_20 : decode cX6_given 20 = .ok (.goto 19, 3) := by decide +kernel
theorem dX6_given_23 : decode cX6_given 23 = .ok (.iload 4, 2) := by decide +kernel
theorem dX6_given_25 : decode cX6_given 25 = .ok (.i2l, 1) := by decide +kernel
theorem dX6_given_26 : decode cX6_given 26 = .ok (.aload_n 0, 1) := by decide +kernel
theorem dX6_given_27 : decode cX6_given 27 = .ok (.iload_n 1, 1) := by decide +kernel
theorem dX6_given_28 : decode cX6_given 28 = .ok (.iload_n 2, 1) := by decide +kernel
theorem dX6_given_29 : decode cX6_given 29 = .ok (.invokevirtual 88, 3) := by decide +kernel
theorem dX6_given_32 : decode cX6_given 32 = .ok (.i2l, 1) := by decide +kernel
theorem dX6_given_33 : decode cX6_given 33 = .ok (.lmul, 1) := by decide +kernel
theorem dX6_given_34 : decode cX6_given 34 = .ok (.ldc2_w 86, 3) := by decide +kernel
theorem dX6_given_37 : decode cX6_given 37 = .ok (.ldiv, 1) := by decide +kernel
theorem dX6_given_38 : decode cX6_given 38 = .ok (.l2i, 1) := by decide +kernel
theorem dX6_given_39 : decode cX6_given 39 = .ok (.ireturn, 1) := by decide +kernel
theorem dX6_spreadOf_0 : decode cX6_spreadOf 0 = .ok (.iload_n 1, 1) := by decide +kernel
theorem dX6_spreadOf_1 : decode cX6_spreadOf 1 = .ok (.i2l, 1) := by decide +kernel
theorem dX6_spreadOf_2 : decode cX6_spreadOf 2 = .ok (.aload_n 0, 1) := by decide +kernel
theorem dX6_spreadOf_3 : decode cX6_spreadOf 3 = .ok (.getfield 7, 3) := by decide +kernel
theorem dX6_spreadOf_6 : decode cX6_spreadOf 6 = .ok (.iconst 1, 1) := by decide +kernel
theorem dX6_spreadOf_7 : decode cX6_spreadOf 7 = .ok (.iaload, 1) := by decide +kernel
theorem dX6_spreadOf_8 : decode cX6_spreadOf 8 = .ok (.i2l, 1) := by decide +kernel
theorem dX6_spreadOf_9 : decode cX6_spreadOf 9 = .ok (.lmul, 1) := by decide +kernel
theorem dX6_spreadOf_10 : decode cX6_spreadOf 10 = .ok (.ldc2_w 86, 3) := by decide +kernel
theorem dX6_spreadOf_13 : decode cX6_spreadOf 13 = .ok (.ldiv, 1) := by decide +kernel
theorem dX6_spreadOf_14 : decode cX6_spreadOf 14 = .ok (.l2i, 1) := by decide +kernel
theorem dX6_spreadOf_15 : decode cX6_spreadOf 15 = .ok (.ireturn, 1) := by decide +kernel
theorem dX6_brings_0 : decode cX6_brings 0 = .ok (.aload_n 0, 1) := by decide +kernel
theorem dX6_brings_1 : decode cX6_brings 1 = .ok (.iload_n 1, 1) := by decide +kernel
theorem dX6_brings_2 : decode cX6_brings 2 = .ok (.iload_n 2, 1) := by decide +kernel
theorem dX6_brings_3 : decode cX6_brings 3 = .ok (.iload_n 3, 1) := by decide +kernel
theorem dX6_brings_4 : decode cX6_brings 4 = .ok (.iload 4, 2) := by decide +kernel
theorem dX6_brings_6 : decode cX6_brings 6 = .ok (.invokevirtual 91, 3) := by decide +kernel
theorem dX6_brings_9 : decode cX6_brings 9 = .ok (.istore 5, 2) := by decide +kernel
theorem dX6_brings_11 : decode cX6_brings 11 = .ok (.iload 5, 2) := by decide +kernel
theorem dX6_brings_13 : decode cX6_brings 13 = .ok (.aload_n 0, 1) := by decide +kernel
theorem dX6_brings_14 : decode cX6_brings 14 = .ok (.iload 5, 2) := by decide +kernel
theorem dX6_brings_16 : decode cX6_brings 16 = .ok (.invokevirtual 95, 3) := by decide +kernel
theorem dX6_brings_19 : decode cX6_brings 19 = .ok (.isub, 1) := by decide +kernel
theorem dX6_brings_20 : decode cX6_brings 20 = .ok (.ireturn, 1) := by decide +kernel
theorem dX6_isWrongPair_0 : decode cX6_isWrongPair 0 = .ok (.iload_n 0, 1) := by decide +kernel
theorem dX6_isWrongPair_1 : decode cX6_isWrongPair 1 = .ok (.iload_n 1, 1) := by decide +kernel
theorem dX6_isWrongPair_2 : decode cX6_isWrongPair 2 = .ok (.if_icmp .eq 11, 3) := by decide +kernel
theorem dX6_isWrongPair_5 : decode cX6_isWrongPair 5 = .ok (.iload_n 0, 1) := by decide +kernel
theorem dX6_isWrongPair_6 : decode cX6_isWrongPair 6 = .ok (.ifCond .le 11, 3) := by decide +kernel
theorem dX6_isWrongPair_9 : decode cX6_isWrongPair 9 = .ok (.iload_n 1, 1) := by decide +kernel
theorem dX6_isWrongPair_10 : decode cX6_isWrongPair 10 = .ok (.ifCond .le 7, 3) := by decide +kernel
theorem dX6_isWrongPair_13 : decode cX6_isWrongPair 13 = .ok (.iconst 1, 1) := by decide +kernel
theorem dX6_isWrongPair_14 : decode cX6_isWrongPair 14 = .ok (.goto 4, 3) := by decide +kernel
theorem dX6_isWrongPair_17 : decode cX6_isWrongPair 17 = .ok (.iconst 0, 1) := by decide +kernel
theorem dX6_isWrongPair_18 : decode cX6_isWrongPair 18 = .ok (.ireturn, 1) := by decide +kernel
theorem dX6_whyNoExchange_0 : decode cX6_whyNoExchange 0 = .ok (.iload_n 2, 1) := by decide +kernel
theorem dX6_whyNoExchange_1 : decode cX6_whyNoExchange 1 = .ok (.iload_n 3, 1) := by decide +kernel
theorem dX6_whyNoExchange_2 : decode cX6_whyNoExchange 2 = .ok (.invokestatic 99, 3) := by decide +kernel
theorem dX6_whyNoExchange_5 : decode cX6_whyNoExchange 5 = .ok (.ifCond .eq 7, 3) := by decide +kernel
theorem dX6_whyNoExchange_8 : decode cX6_whyNoExchange 8 = .ok (.iconst 1, 1) := by decide +kernel
theorem dX6_whyNoExchange_9 : decode cX6_whyNoExchange 9 = .ok (.goto 19, 3) := by decide +kernel
theorem dX6_whyNoExchange_12 : decode cX6_whyNoExchange 12 = .ok (.aload_n 0, 1) := by decide +kernel
theorem dX6_whyNoExchange_13 : decode cX6_whyNoExchange 13 = .ok (.iload_n 1, 1) := by decide +kernel
theorem dX6_whyNoExchange_14 : decode cX6_whyNoExchange 14 = .ok (.iload_n 2, 1) := by decide +kernel
theorem dX6_whyNoExchange_15 : decode cX6_whyNoExchange 15 = .ok (.invokevirtual 102, 3) := by decide +kernel
theorem dX6_whyNoExchange_18 : decode cX6_whyNoExchange 18 = .ok (.iload 4, 2) := by decide +kernel
theorem dX6_whyNoExchange_20 : decode cX6_whyNoExchange 20 = .ok (.if_icmp .ge 7, 3) := by decide +kernel
theorem dX6_whyNoExchange_23 : decode cX6_whyNoExchange 23 = .ok (.iconst 2, 1) := by decide +kernel
theorem dX6_whyNoExchange_24 : decode cX6_whyNoExchange 24 = .ok (.goto 4, 3) := by decide +kernel
theorem dX6_whyNoExchange_27 : decode cX6_whyNoExchange 27 = .ok (.iconst 0, 1) := by decide +kernel
theorem dX6_whyNoExchange_28 : decode cX6_whyNoExchange 28 = .ok (.ireturn, 1) := by decide +kernel
theorem dX6_exchanges_0 : decode cX6_exchanges 0 = .ok (.aload_n 0, 1) := by decide +kernel
theorem dX6_exchanges_1 : decode cX6_exchanges 1 = .ok (.iload_n 1, 1) := by decide +kernel
theorem dX6_exchanges_2 : decode cX6_exchanges 2 = .ok (.iload_n 2, 1) := by decide +kernel
theorem dX6_exchanges_3 : decode cX6_exchanges 3 = .ok (.iload_n 3, 1) := by decide +kernel
theorem dX6_exchanges_4 : decode cX6_exchanges 4 = .ok (.iload 4, 2) := by decide +kernel
theorem dX6_exchanges_6 : decode cX6_exchanges 6 = .ok (.invokevirtual 91, 3) := by decide +kernel
theorem dX6_exchanges_9 : decode cX6_exchanges 9 = .ok (.istore 5, 2) := by decide +kernel
theorem dX6_exchanges_11 : decode cX6_exchanges 11 = .ok (.aload_n 0, 1) := by decide +kernel
theorem dX6_exchanges_12 : decode cX6_exchanges 12 = .ok (.iload 5, 2) := by decide +kernel
theorem dX6_exchanges_14 : decode cX6_exchanges 14 = .ok (.invokevirtual 95, 3) := by decide +kernel
theorem dX6_exchanges_17 : decode cX6_exchanges 17 = .ok (.istore 6, 2) := by decide +kernel
theorem dX6_exchanges_19 : decode cX6_exchanges 19 = .ok (.aload_n 0, 1) := by decide +kernel
theorem dX6_exchanges_20 : decode cX6_exchanges 20 = .ok (.getfield 7, 3) := by decide +kernel
theorem dX6_exchanges_23 : decode cX6_exchanges 23 = .ok (.iload_n 1, 1) := by decide +kernel
theorem dX6_exchanges_24 : decode cX6_exchanges 24 = .ok (.iload_n 2, 1) := by decide +kernel
theorem dX6_exchanges_25 : decode cX6_exchanges 25 = .ok (.invokestatic 45, 3) := by decide +kernel
theorem dX6_exchanges_28 : decode cX6_exchanges 28 = .ok (.iconst 0, 1) := by decide +kernel
theorem dX6_exchanges_29 : decode cX6_exchanges 29 = .ok (.iadd, 1) := by decide +kernel
theorem dX6_exchanges_30 : decode cX6_exchanges 30 = .ok (.dup2, 1) := by decide +kernel
theorem dX6_exchanges_31 : decode cX6_exchanges 31 = .ok (.iaload, 1) := by decide +kernel
theorem dX6_exchanges_32 : decode cX6_exchanges 32 = .ok (.iload 4, 2) := by decide +kernel
theorem dX6_exchanges_34 : decode cX6_exchanges 34 = .ok (.isub, 1) := by decide +kernel
theorem dX6_exchanges_35 : decode cX6_exchanges 35 = .ok (.iastore, 1) := by decide +kernel
theorem dX6_exchanges_36 : decode cX6_exchanges 36 = .ok (.aload_n 0, 1) := by decide +kernel
theorem dX6_exchanges_37 : decode cX6_exchanges 37 = .ok (.iload_n 1, 1) := by decide +kernel
theorem dX6_exchanges_38 : decode cX6_exchanges 38 = .ok (.iload_n 3, 1) := by decide +kernel
theorem dX6_exchanges_39 : decode cX6_exchanges 39 = .ok (.iload 5, 2) := by decide +kernel
theorem dX6_exchanges_41 : decode cX6_exchanges 41 = .ok (.iload 6, 2) := by decide +kernel
theorem dX6_exchanges_43 : decode cX6_exchanges 43 = .ok (.isub, 1) := by decide +kernel
theorem dX6_exchanges_44 : decode cX6_exchanges 44 = .ok (.invokevirtual 76, 3) := by decide +kernel
theorem dX6_exchanges_47 : decode cX6_exchanges 47 = .ok (.aload_n 0, 1) := by decide +kernel
theorem dX6_exchanges_48 : decode cX6_exchanges 48 = .ok (.getfield 7, 3) := by decide +kernel
theorem dX6_exchanges_51 : decode cX6_exchanges 51 = .ok (.bipush 12, 2) := by decide +kernel
theorem dX6_exchanges_53 : decode cX6_exchanges 53 = .ok (.dup2, 1) := by decide +kernel
theorem dX6_exchanges_54 : decode cX6_exchanges 54 = .ok (.iaload, 1) := by decide +kernel
theorem dX6_exchanges_55 : decode cX6_exchanges 55 = .ok (.iconst 1, 1) := by decide +kernel
theorem dX6_exchanges_56 : decode cX6_exchanges 56 = .ok (.iadd, 1) := by decide +kernel
theorem dX6_exchanges_57 : decode cX6_exchanges 57 = .ok (.iastore, 1) := by decide +kernel
theorem dX6_exchanges_58 : decode cX6_exchanges 58 = .ok (.aload_n 0, 1) := by decide +kernel
theorem dX6_exchanges_59 : decode cX6_exchanges 59 = .ok (.getfield 7, 3) := by decide +kernel
theorem dX6_exchanges_62 : decode cX6_exchanges 62 = .ok (.iload_n 3, 1) := by decide +kernel
theorem dX6_exchanges_63 : decode cX6_exchanges 63 = .ok (.ifCond .ne 8, 3) := by decide +kernel
theorem dX6_exchanges_66 : decode cX6_exchanges 66 = .ok (.bipush 13, 2) := by decide +kernel
theorem dX6_exchanges_68 : decode cX6_exchanges 68 = .ok (.goto 5, 3) := by decide +kernel
theorem dX6_exchanges_71 : decode cX6_exchanges 71 = .ok (.bipush 14, 2) := by decide +kernel
theorem dX6_exchanges_73 : decode cX6_exchanges 73 = .ok (.dup2, 1) := by decide +kernel
theorem dX6_exchanges_74 : decode cX6_exchanges 74 = .ok (.iaload, 1) := by decide +kernel
theorem dX6_exchanges_75 : decode cX6_exchanges 75 = .ok (.iload 6, 2) := by decide +kernel
theorem dX6_exchanges_77 : decode cX6_exchanges 77 = .ok (.iadd, 1) := by decide +kernel
theorem dX6_exchanges_78 : decode cX6_exchanges 78 = .ok (.iastore, 1) := by decide +kernel
theorem dX6_exchanges_79 : decode cX6_exchanges 79 = .ok (.iload 5, 2) := by decide +kernel
theorem dX6_exchanges_81 : decode cX6_exchanges 81 = .ok (.iload 6, 2) := by decide +kernel
theorem dX6_exchanges_83 : decode cX6_exchanges 83 = .ok (.isub, 1) := by decide +kernel
theorem dX6_exchanges_84 : decode cX6_exchanges 84 = .ok (.ireturn, 1) := by decide +kernel
theorem dX6_exchange_0 : decode cX6_exchange 0 = .ok (.aload_n 0, 1) := by decide +kernel
theorem dX6_exchange_1 : decode cX6_exchange 1 = .ok (.iload_n 1, 1) := by decide +kernel
theorem dX6_exchange_2 : decode cX6_exchange 2 = .ok (.iload_n 2, 1) := by decide +kernel
theorem dX6_exchange_3 : decode cX6_exchange 3 = .ok (.invokestatic 40, 3) := by decide +kernel
theorem dX6_exchange_6 : decode cX6_exchange 6 = .ok (.ifCond .eq 10, 3) := by decide +kernel
theorem dX6_exchange_9 : decode cX6_exchange 9 = .ok (.iload_n 3, 1) := by decide +kernel
theorem dX6_exchange_10 : decode cX6_exchange 10 = .ok (.invokestatic 37, 3) := by decide +kernel
theorem dX6_exchange_13 : decode cX6_exchange 13 = .ok (.ifCond .ne 7, 3) := by decide +kernel
theorem dX6_exchange_16 : decode cX6_exchange 16 = .ok (.iconst 1, 1) := by decide +kernel
theorem dX6_exchange_17 : decode cX6_exchange 17 = .ok (.goto 32, 3) := by decide +kernel
theorem dX6_exchange_20 : decode cX6_exchange 20 = .ok (.iload 4, 2) := by decide +kernel
theorem dX6_exchange_22 : decode cX6_exchange 22 = .ok (.invokestatic 62, 3) := by decide +kernel
theorem dX6_exchange_25 : decode cX6_exchange 25 = .ok (.ifCond .ne 7, 3) := by decide +kernel
theorem dX6_exchange_28 : decode cX6_exchange 28 = .ok (.iconst 2, 1) := by decide +kernel
theorem dX6_exchange_29 : decode cX6_exchange 29 = .ok (.goto 20, 3) := by decide +kernel
theorem dX6_exchange_32 : decode cX6_exchange 32 = .ok (.aload_n 0, 1) := by decide +kernel
theorem dX6_exchange_33 : decode cX6_exchange 33 = .ok (.iload_n 1, 1) := by decide +kernel
theorem dX6_exchange_34 : decode cX6_exchange 34 = .ok (.iload_n 2, 1) := by decide +kernel
theorem dX6_exchange_35 : decode cX6_exchange 35 = .ok (.iload_n 3, 1) := by decide +kernel
theorem dX6_exchange_36 : decode cX6_exchange 36 = .ok (.iload 4, 2) := by decide +kernel
theorem dX6_exchange_38 : decode cX6_exchange 38 = .ok (.invokevirtual 105, 3) := by decide +kernel
theorem dX6_exchange_41 : decode cX6_exchange 41 = .ok (.ifCond .ne 7, 3) := by decide +kernel
theorem dX6_exchange_44 : decode cX6_exchange 44 = .ok (.iconst 0, 1) := by decide +kernel
theorem dX6_exchange_45 : decode cX6_exchange 45 = .ok (.goto 4, 3) := by decide +kernel
theorem dX6_exchange_48 : decode cX6_exchange 48 = .ok (.iconst 3, 1) := by decide +kernel
theorem dX6_exchange_49 : decode cX6_exchange 49 = .ok (.putfield 22, 3) := by decide +kernel
theorem dX6_exchange_52 : decode cX6_exchange 52 = .ok (.aload_n 0, 1) := by decide +kernel
theorem dX6_exchange_53 : decode cX6_exchange 53 = .ok (.getfield 22, 3) := by decide +kernel
theorem dX6_exchange_56 : decode cX6_exchange 56 = .ok (.ifCond .le 5, 3) := by decide +kernel
theorem dX6_exchange_59 : decode cX6_exchange 59 = .ok (.iconst 0, 1) := by decide +kernel
theorem dX6_exchange_60 : decode cX6_exchange 60 = .ok (.ireturn, 1) := by decide +kernel
theorem dX6_exchange_61 : decode cX6_exchange 61 = .ok (.aload_n 0, 1) := by decide +kernel
theorem dX6_exchange_62 : decode cX6_exchange 62 = .ok (.invokevirtual 68, 3) := by decide +kernel
theorem dX6_exchange_65 : decode cX6_exchange 65 = .ok (.aload_n 0, 1) := by decide +kernel
theorem dX6_exchange_66 : decode cX6_exchange 66 = .ok (.iload_n 1, 1) := by decide +kernel
theorem dX6_exchange_67 : decode cX6_exchange 67 = .ok (.iload_n 2, 1) := by decide +kernel
theorem dX6_exchange_68 : decode cX6_exchange 68 = .ok (.iload_n 3, 1) := by decide +kernel
theorem dX6_exchange_69 : decode cX6_exchange 69 = .ok (.iload 4, 2) := by decide +kernel
theorem dX6_exchange_71 : decode cX6_exchange 71 = .ok (.invokevirtual 108, 3) := by decide +kernel
theorem dX6_exchange_74 : decode cX6_exchange 74 = .ok (.ireturn, 1) := by decide +kernel
theorem dX6_withTip_0 : decode cX6_withTip 0 = .ok (.iload_n 1, 1) := by decide +kernel
theorem dX6_withTip_1 : decode cX6_withTip 1 = .ok (.iload_n 1, 1) := by decide +kernel
theorem dX6_withTip_2 : decode cX6_withTip 2 = .ok (.aload_n 0, 1) := by decide +kernel
theorem dX6_withTip_3 : decode cX6_withTip 3 = .ok (.getfield 7, 3) := by decide +kernel
theorem dX6_withTip_6 : decode cX6_withTip 6 = .ok (.iconst 2, 1) := by decide +kernel
theorem dX6_withTip_7 : decode cX6_withTip 7 = .ok (.iaload, 1) := by decide +kernel
theorem dX6_withTip_8 : decode cX6_withTip 8 = .ok (.imul, 1) := by decide +kernel
theorem dX6_withTip_9 : decode cX6_withTip 9 = .ok (.bipush 100, 2) := by decide +kernel
theorem dX6_withTip_11 : decode cX6_withTip 11 = .ok (.idiv, 1) := by decide +kernel
theorem dX6_withTip_12 : decode cX6_withTip 12 = .ok (.iadd, 1) := by decide +kernel
theorem dX6_withTip_13 : decode cX6_withTip 13 = .ok (.ireturn, 1) := by decide +kernel
theorem dX6_whyNoHold_0 : decode cX6_whyNoHold 0 = .ok (.aload_n 0, 1) := by decide +kernel
theorem dX6_whyNoHold_1 : decode cX6_whyNoHold 1 = .ok (.iload_n 1, 1) := by decide +kernel
theorem dX6_whyNoHold_2 : decode cX6_whyNoHold 2 = .ok (.iload_n 2, 1) := by decide +kernel
theorem dX6_whyNoHold_3 : decode cX6_whyNoHold 3 = .ok (.invokevirtual 102, 3) := by decide +kernel
theorem dX6_whyNoHold_6 : decode cX6_whyNoHold 6 = .ok (.aload_n 0, 1) := by decide +kernel
theorem dX6_whyNoHold_7 : decode cX6_whyNoHold 7 = .ok (.iload_n 3, 1) := by decide +kernel
theorem dX6_whyNoHold_8 : decode cX6_whyNoHold 8 = .ok (.invokevirtual 111, 3) := by decide +kernel
theorem dX6_whyNoHold_11 : decode cX6_whyNoHold 11 = .ok (.if_icmp .ge 7, 3) := by decide +kernel
theorem dX6_whyNoHold_14 : decode cX6_whyNoHold 14 = .ok (.iconst 2, 1) := by decide +kernel
theorem dX6_whyNoHold_15 : decode cX6_whyNoHold 15 = .ok (.goto 20, 3) := by decide +kernel
theorem dX6_whyNoHold_18 : decode cX6_whyNoHold 18 = .ok (.aload_n 0, 1) := by decide +kernel
theorem dX6_whyNoHold_19 : decode cX6_whyNoHold 19 = .ok (.getfield 7, 3) := by decide +kernel
theorem dX6_whyNoHold_22 : decode cX6_whyNoHold 22 = .ok (.bipush 8, 2) := by decide +kernel
theorem dX6_whyNoHold_24 : decode cX6_whyNoHold 24 = .ok (.iaload, 1) := by decide +kernel
theorem dX6_whyNoHold_25 : decode cX6_whyNoHold 25 = .ok (.bipush 8, 2) := by decide +kernel
theorem dX6_whyNoHold_27 : decode cX6_whyNoHold 27 = .ok (.if_icmp .ne 7, 3) := by decide +kernel
theorem dX6_whyNoHold_30 : decode cX6_whyNoHold 30 = .ok (.iconst 3, 1) := by decide +kernel
theorem dX6_whyNoHold_31 : decode cX6_whyNoHold 31 = .ok (.goto 4, 3) := by decide +kernel
theorem dX6_whyNoHold_34 : decode cX6_whyNoHold 34 = .ok (.iconst 0, 1) := by decide +kernel
theorem dX6_whyNoHold_35 : decode cX6_whyNoHold 35 = .ok (.ireturn, 1) := by decide +kernel
theorem dX6_holds_0 : decode cX6_holds 0 = .ok (.bipush 96, 2) := by decide +kernel
theorem dX6_holds_2 : decode cX6_holds 2 = .ok (.iconst 5, 1) := by decide +kernel
theorem dX6_holds_3 : decode cX6_holds 3 = .ok (.aload_n 0, 1) := by decide +kernel
theorem dX6_holds_4 : decode cX6_holds 4 = .ok (.getfield 7, 3) := by decide +kernel
theorem dX6_holds_7 : decode cX6_holds 7 = .ok (.bipush 8, 2) := by decide +kernel
theorem dX6_holds_9 : decode cX6_holds 9 = .ok (.iaload, 1) := by decide +kernel
theorem dX6_holds_10 : decode cX6_holds 10 = .ok (.imul, 1) := by decide +kernel
theorem dX6_holds_11 : decode cX6_holds 11 = .ok (.iadd, 1) := by decide +kernel
theorem dX6_holds_12 : decode cX6_holds 12 = .ok (.istore 4, 2) := by decide +kernel
theorem dX6_holds_14 : decode cX6_holds 14 = .ok (.aload_n 0, 1) := by decide +kernel
theorem dX6_holds_15 : decode cX6_holds 15 = .ok (.getfield 7, 3) := by decide +kernel
theorem dX6_holds_18 : decode cX6_holds 18 = .ok (.bipush 8, 2) := by decide +kernel
theorem dX6_holds_20 : decode cX6_holds 20 = .ok (.dup2, 1) := by decide +kernel
theorem dX6_holds_21 : decode cX6_holds 21 = .ok (.iaload, 1) := by decide +kernel
theorem dX6_holds_22 : decode cX6_holds 22 = .ok (.iconst 1, 1) := by decide +kernel
theorem dX6_holds_23 : decode cX6_holds 23 = .ok (.iadd, 1) := by decide +kernel
theorem dX6_holds_24 : decode cX6_holds 24 = .ok (.iastore, 1) := by decide +kernel
theorem dX6_holds_25 : decode cX6_holds 25 = .ok (.aload_n 0, 1) := by decide +kernel
theorem dX6_holds_26 : decode cX6_holds 26 = .ok (.getfield 7, 3) := by decide +kernel
theorem dX6_holds_29 : decode cX6_holds 29 = .ok (.iload 4, 2) := by decide +kernel
theorem dX6_holds_31 : decode cX6_holds 31 = .ok (.iconst 0, 1) := by decide +kernel
theorem dX6_holds_32 : decode cX6_holds 32 = .ok (.iadd, 1) := by decide +kernel
theorem dX6_holds_33 : decode cX6_holds 33 = .ok (.iload_n 1, 1) := by decide +kernel
theorem dX6_holds_34 : decode cX6_holds 34 = .ok (.iastore, 1) := by decide +kernel
theorem dX6_holds_35 : decode cX6_holds 35 = .ok (.aload_n 0, 1) := by decide +kernel
theorem dX6_holds_36 : decode cX6_holds 36 = .ok (.getfield 7, 3) := by decide +kernel
theorem dX6_holds_39 : decode cX6_holds 39 = .ok (.iload 4, 2) := by decide +kernel
theorem dX6_holds_41 : decode cX6_holds 41 = .ok (.iconst 1, 1) := by decide +kernel
theorem dX6_holds_42 : decode cX6_holds 42 = .ok (.iadd, 1) := by decide +kernel
theorem dX6_holds_43 : decode cX6_holds 43 = .ok (.iload_n 2, 1) := by decide +kernel
theorem dX6_holds_44 : decode cX6_holds 44 = .ok (.iastore, 1) := by decide +kernel
theorem dX6_holds_45 : decode cX6_holds 45 = .ok (.aload_n 0, 1) := by decide +kernel
theorem dX6_holds_46 : decode cX6_holds 46 = .ok (.getfield 7, 3) := by decide +kernel
theorem dX6_holds_49 : decode cX6_holds 49 = .ok (.iload 4, 2) := by decide +kernel
theorem dX6_holds_51 : decode cX6_holds 51 = .ok (.iconst 2, 1) := by decide +kernel
theorem dX6_holds_52 : decode cX6_holds 52 = .ok (.iadd, 1) := by decide +kernel
theorem dX6_holds_53 : decode cX6_holds 53 = .ok (.iload_n 3, 1) := by decide +kernel
theorem dX6_holds_54 : decode cX6_holds 54 = .ok (.iastore, 1) := by decide +kernel
theorem dX6_holds_55 : decode cX6_holds 55 = .ok (.aload_n 0, 1) := by decide +kernel
end
section
theorem dX6_holds_56 : decode cX6_holds 56 = .ok (.getfield 7, 3) := by decide +kernel
theorem dX6_holds_59 : decode cX6_holds 59 = .ok (.iload 4, 2) := by decide +kernel
theorem dX6_holds_61 : decode cX6_holds 61 = .ok (.iconst 3, 1) := by decide +kernel
theorem dX6_holds_62 : decode cX6_holds 62 = .ok (.iadd, 1) := by decide +kernel
theorem dX6_holds_63 : decode cX6_holds 63 = .ok (.aload_n 0, 1) := by decide +kernel
theorem dX6_holds_64 : decode cX6_holds 64 = .ok (.iload_n 3, 1) := by decide +kernel
theorem dX6_holds_65 : decode cX6_holds 65 = .ok (.invokevirtual 111, 3) := by decide +kernel
theorem dX6_holds_68 : decode cX6_holds 68 = .ok (.iastore, 1) := by decide +kernel
theorem dX6_holds_69 : decode cX6_holds 69 = .ok (.aload_n 0, 1) := by decide +kernel
theorem dX6_holds_70 : decode cX6_holds 70 = .ok (.getfield 7, 3) := by decide +kernel
theorem dX6_holds_73 : decode cX6_holds 73 = .ok (.iload 4, 2) := by decide +kernel
theorem dX6_holds_75 : decode cX6_holds 75 = .ok (.iconst 4, 1) := by decide +kernel
theorem dX6_holds_76 : decode cX6_holds 76 = .ok (.iadd, 1) := by decide +kernel
theorem dX6_holds_77 : decode cX6_holds 77 = .ok (.aload_n 0, 1) := by decide +kernel
theorem dX6_holds_78 : decode cX6_holds 78 = .ok (.getfield 7, 3) := by decide +kernel
theorem dX6_holds_81 : decode cX6_holds 81 = .ok (.iconst 4, 1) := by decide +kernel
theorem dX6_holds_82 : decode cX6_holds 82 = .ok (.iaload, 1) := by decide +kernel
theorem dX6_holds_83 : decode cX6_holds 83 = .ok (.iastore, 1) := by decide +kernel
theorem dX6_holds_84 : decode cX6_holds 84 = .ok (.aload_n 0, 1) := by decide +kernel
theorem dX6_holds_85 : decode cX6_holds 85 = .ok (.getfield 7, 3) := by decide +kernel
theorem dX6_holds_88 : decode cX6_holds 88 = .ok (.bipush 8, 2) := by decide +kernel
theorem dX6_holds_90 : decode cX6_holds 90 = .ok (.iaload, 1) := by decide +kernel
theorem dX6_holds_91 : decode cX6_holds 91 = .ok (.iconst 1, 1) := by decide +kernel
theorem dX6_holds_92 : decode cX6_holds 92 = .ok (.isub, 1) := by decide +kernel
theorem dX6_holds_93 : decode cX6_holds 93 = .ok (.ireturn, 1) := by decide +kernel
theorem dX6_hold_0 : decode cX6_hold 0 = .ok (.aload_n 0, 1) := by decide +kernel
theorem dX6_hold_1 : decode cX6_hold 1 = .ok (.iload_n 1, 1) := by decide +kernel
theorem dX6_hold_2 : decode cX6_hold 2 = .ok (.iload_n 2, 1) := by decide +kernel
theorem dX6_hold_3 : decode cX6_hold 3 = .ok (.invokestatic 40, 3) := by decide +kernel
theorem dX6_hold_6 : decode cX6_hold 6 = .ok (.ifCond .ne 7, 3) := by decide +kernel
theorem dX6_hold_9 : decode cX6_hold 9 = .ok (.iconst 1, 1) := by decide +kernel
theorem dX6_hold_10 : decode cX6_hold 10 = .ok (.goto 29, 3) := by decide +kernel
theorem dX6_hold_13 : decode cX6_hold 13 = .ok (.iload_n 3, 1) := by decide +kernel
theorem dX6_hold_14 : decode cX6_hold 14 = .ok (.invokestatic 62, 3) := by decide +kernel
theorem dX6_hold_17 : decode cX6_hold 17 = .ok (.ifCond .ne 7, 3) := by decide +kernel
theorem dX6_hold_20 : decode cX6_hold 20 = .ok (.iconst 2, 1) := by decide +kernel
theorem dX6_hold_21 : decode cX6_hold 21 = .ok (.goto 18, 3) := by decide +kernel
theorem dX6_hold_24 : decode cX6_hold 24 = .ok (.aload_n 0, 1) := by decide +kernel
theorem dX6_hold_25 : decode cX6_hold 25 = .ok (.iload_n 1, 1) := by decide +kernel
theorem dX6_hold_26 : decode cX6_hold 26 = .ok (.iload_n 2, 1) := by decide +kernel
theorem dX6_hold_27 : decode cX6_hold 27 = .ok (.iload_n 3, 1) := by decide +kernel
theorem dX6_hold_28 : decode cX6_hold 28 = .ok (.invokevirtual 114, 3) := by decide +kernel
theorem dX6_hold_31 : decode cX6_hold 31 = .ok (.ifCond .ne 7, 3) := by decide +kernel
theorem dX6_hold_34 : decode cX6_hold 34 = .ok (.iconst 0, 1) := by decide +kernel
theorem dX6_hold_35 : decode cX6_hold 35 = .ok (.goto 4, 3) := by decide +kernel
theorem dX6_hold_38 : decode cX6_hold 38 = .ok (.iconst 3, 1) := by decide +kernel
theorem dX6_hold_39 : decode cX6_hold 39 = .ok (.putfield 22, 3) := by decide +kernel
theorem dX6_hold_42 : decode cX6_hold 42 = .ok (.aload_n 0, 1) := by decide +kernel
theorem dX6_hold_43 : decode cX6_hold 43 = .ok (.getfield 22, 3) := by decide +kernel
theorem dX6_hold_46 : decode cX6_hold 46 = .ok (.ifCond .le 5, 3) := by decide +kernel
theorem dX6_hold_49 : decode cX6_hold 49 = .ok (.iconst 0, 1) := by decide +kernel
theorem dX6_hold_50 : decode cX6_hold 50 = .ok (.ireturn, 1) := by decide +kernel
theorem dX6_hold_51 : decode cX6_hold 51 = .ok (.aload_n 0, 1) := by decide +kernel
theorem dX6_hold_52 : decode cX6_hold 52 = .ok (.invokevirtual 68, 3) := by decide +kernel
theorem dX6_hold_55 : decode cX6_hold 55 = .ok (.aload_n 0, 1) := by decide +kernel
theorem dX6_hold_56 : decode cX6_hold 56 = .ok (.iload_n 1, 1) := by decide +kernel
theorem dX6_hold_57 : decode cX6_hold 57 = .ok (.iload_n 2, 1) := by decide +kernel
theorem dX6_hold_58 : decode cX6_hold 58 = .ok (.iload_n 3, 1) := by decide +kernel
theorem dX6_hold_59 : decode cX6_hold 59 = .ok (.invokevirtual 117, 3) := by decide +kernel
theorem dX6_hold_62 : decode cX6_hold 62 = .ok (.ireturn, 1) := by decide +kernel
theorem dX6_removeHold_0 : decode cX6_removeHold 0 = .ok (.aload_n 0, 1) := by decide +kernel
theorem dX6_removeHold_1 : decode cX6_removeHold 1 = .ok (.getfield 7, 3) := by decide +kernel
theorem dX6_removeHold_4 : decode cX6_removeHold 4 = .ok (.bipush 8, 2) := by decide +kernel
theorem dX6_removeHold_6 : decode cX6_removeHold 6 = .ok (.dup2, 1) := by decide +kernel
theorem dX6_removeHold_7 : decode cX6_removeHold 7 = .ok (.iaload, 1) := by decide +kernel
theorem dX6_removeHold_8 : decode cX6_removeHold 8 = .ok (.iconst 1, 1) := by decide +kernel
theorem dX6_removeHold_9 : decode cX6_removeHold 9 = .ok (.isub, 1) := by decide +kernel
theorem dX6_removeHold_10 : decode cX6_removeHold 10 = .ok (.iastore, 1) := by decide +kernel
theorem dX6_removeHold_11 : decode cX6_removeHold 11 = .ok (.bipush 96, 2) := by decide +kernel
theorem dX6_removeHold_13 : decode cX6_removeHold 13 = .ok (.iconst 5, 1) := by decide +kernel
theorem dX6_removeHold_14 : decode cX6_removeHold 14 = .ok (.iload_n 1, 1) := by decide +kernel
theorem dX6_removeHold_15 : decode cX6_removeHold 15 = .ok (.imul, 1) := by decide +kernel
theorem dX6_removeHold_16 : decode cX6_removeHold 16 = .ok (.iadd, 1) := by decide +kernel
theorem dX6_removeHold_17 : decode cX6_removeHold 17 = .ok (.istore_n 2, 1) := by decide +kernel
theorem dX6_removeHold_18 : decode cX6_removeHold 18 = .ok (.iload_n 2, 1) := by decide +kernel
theorem dX6_removeHold_19 : decode cX6_removeHold 19 = .ok (.bipush 96, 2) := by decide +kernel
theorem dX6_removeHold_21 : decode cX6_removeHold 21 = .ok (.iconst 5, 1) := by decide +kernel
theorem dX6_removeHold_22 : decode cX6_removeHold 22 = .ok (.aload_n 0, 1) := by decide +kernel
theorem dX6_removeHold_23 : decode cX6_removeHold 23 = .ok (.getfield 7, 3) := by decide +kernel
theorem dX6_removeHold_26 : decode cX6_removeHold 26 = .ok (.bipush 8, 2) := by decide +kernel
theorem dX6_removeHold_28 : decode cX6_removeHold 28 = .ok (.iaload, 1) := by decide +kernel
theorem dX6_removeHold_29 : decode cX6_removeHold 29 = .ok (.imul, 1) := by decide +kernel
theorem dX6_removeHold_30 : decode cX6_removeHold 30 = .ok (.iadd, 1) := by decide +kernel
theorem dX6_removeHold_31 : decode cX6_removeHold 31 = .ok (.if_icmp .ge 23, 3) := by decide +kernel
theorem dX6_removeHold_34 : decode cX6_removeHold 34 = .ok (.aload_n 0, 1) := by decide +kernel
theorem dX6_removeHold_35 : decode cX6_removeHold 35 = .ok (.getfield 7, 3) := by decide +kernel
theorem dX6_removeHold_38 : decode cX6_removeHold 38 = .ok (.iload_n 2, 1) := by decide +kernel
theorem dX6_removeHold_39 : decode cX6_removeHold 39 = .ok (.aload_n 0, 1) := by decide +kernel
theorem dX6_removeHold_40 : decode cX6_removeHold 40 = .ok (.getfield 7, 3) := by decide +kernel
theorem dX6_removeHold_43 : decode cX6_removeHold 43 = .ok (.iload_n 2, 1) := by decide +kernel
theorem dX6_removeHold_44 : decode cX6_removeHold 44 = .ok (.iconst 5, 1) := by decide +kernel
theorem dX6_removeHold_45 : decode cX6_removeHold 45 = .ok (.iadd, 1) := by decide +kernel
theorem dX6_removeHold_46 : decode cX6_removeHold 46 = .ok (.iaload, 1) := by decide +kernel
theorem dX6_removeHold_47 : decode cX6_removeHold 47 = .ok (.iastore, 1) := by decide +kernel
theorem dX6_removeHold_48 : decode cX6_removeHold 48 = .ok (.iinc 2 1, 3) := by decide +kernel
theorem dX6_removeHold_51 : decode cX6_removeHold 51 = .ok (.goto (-33), 3) := by decide +kernel
theorem dX6_removeHold_54 : decode cX6_removeHold 54 = .ok (.return_, 1) := by decide +kernel
theorem dX6_pay_0 : decode cX6_pay 0 = .ok (.aload_n 0, 1) := by decide +kernel
theorem dX6_pay_1 : decode cX6_pay 1 = .ok (.aload_n 0, 1) := by decide +kernel
theorem dX6_pay_2 : decode cX6_pay 2 = .ok (.iload_n 1, 1) := by decide +kernel
theorem dX6_pay_3 : decode cX6_pay 3 = .ok (.invokevirtual 120, 3) := by decide +kernel
theorem dX6_pay_6 : decode cX6_pay 6 = .ok (.ifCond .ne 7, 3) := by decide +kernel
theorem dX6_pay_9 : decode cX6_pay 9 = .ok (.iconst 1, 1) := by decide +kernel
theorem dX6_pay_10 : decode cX6_pay 10 = .ok (.goto 39, 3) := by decide +kernel
theorem dX6_pay_13 : decode cX6_pay 13 = .ok (.iload_n 2, 1) := by decide +kernel
theorem dX6_pay_14 : decode cX6_pay 14 = .ok (.iconst 1, 1) := by decide +kernel
theorem dX6_pay_15 : decode cX6_pay 15 = .ok (.if_icmp .ge 7, 3) := by decide +kernel
theorem dX6_pay_18 : decode cX6_pay 18 = .ok (.iconst 2, 1) := by decide +kernel
theorem dX6_pay_19 : decode cX6_pay 19 = .ok (.goto 30, 3) := by decide +kernel
theorem dX6_pay_22 : decode cX6_pay 22 = .ok (.iload_n 2, 1) := by decide +kernel
theorem dX6_pay_23 : decode cX6_pay 23 = .ok (.aload_n 0, 1) := by decide +kernel
theorem dX6_pay_24 : decode cX6_pay 24 = .ok (.iload_n 1, 1) := by decide +kernel
theorem dX6_pay_25 : decode cX6_pay 25 = .ok (.iconst 3, 1) := by decide +kernel
theorem dX6_pay_26 : decode cX6_pay 26 = .ok (.invokevirtual 52, 3) := by decide +kernel
theorem dX6_pay_29 : decode cX6_pay 29 = .ok (.if_icmp .gt 15, 3) := by decide +kernel
theorem dX6_pay_32 : decode cX6_pay 32 = .ok (.aload_n 0, 1) := by decide +kernel
theorem dX6_pay_33 : decode cX6_pay 33 = .ok (.getfield 7, 3) := by decide +kernel
theorem dX6_pay_36 : decode cX6_pay 36 = .ok (.bipush 9, 2) := by decide +kernel
theorem dX6_pay_38 : decode cX6_pay 38 = .ok (.iaload, 1) := by decide +kernel
theorem dX6_pay_39 : decode cX6_pay 39 = .ok (.bipush 12, 2) := by decide +kernel
theorem dX6_pay_41 : decode cX6_pay 41 = .ok (.if_icmp .ne 7, 3) := by decide +kernel
theorem dX6_pay_44 : decode cX6_pay 44 = .ok (.iconst 3, 1) := by decide +kernel
theorem dX6_pay_45 : decode cX6_pay 45 = .ok (.goto 4, 3) := by decide +kernel
theorem dX6_pay_48 : decode cX6_pay 48 = .ok (.iconst 0, 1) := by decide +kernel
theorem dX6_pay_49 : decode cX6_pay 49 = .ok (.putfield 22, 3) := by decide +kernel
theorem dX6_pay_52 : decode cX6_pay 52 = .ok (.aload_n 0, 1) := by decide +kernel
theorem dX6_pay_53 : decode cX6_pay 53 = .ok (.getfield 22, 3) := by decide +kernel
theorem dX6_pay_56 : decode cX6_pay 56 = .ok (.ifCond .le 5, 3) := by decide +kernel
theorem dX6_pay_59 : decode cX6_pay 59 = .ok (.iconst 0, 1) := by decide +kernel
theorem dX6_pay_60 : decode cX6_pay 60 = .ok (.ireturn, 1) := by decide +kernel
theorem dX6_pay_61 : decode cX6_pay 61 = .ok (.aload_n 0, 1) := by decide +kernel
theorem dX6_pay_62 : decode cX6_pay 62 = .ok (.invokevirtual 68, 3) := by decide +kernel
theorem dX6_pay_65 : decode cX6_pay 65 = .ok (.aload_n 0, 1) := by decide +kernel
theorem dX6_pay_66 : decode cX6_pay 66 = .ok (.getfield 7, 3) := by decide +kernel
theorem dX6_pay_69 : decode cX6_pay 69 = .ok (.bipush 9, 2) := by decide +kernel
theorem dX6_pay_71 : decode cX6_pay 71 = .ok (.iaload, 1) := by decide +kernel
theorem dX6_pay_72 : decode cX6_pay 72 = .ok (.istore_n 3, 1) := by decide +kernel
theorem dX6_pay_73 : decode cX6_pay 73 = .ok (.sipush 136, 3) := by decide +kernel
theorem dX6_pay_76 : decode cX6_pay 76 = .ok (.iconst 5, 1) := by decide +kernel
theorem dX6_pay_77 : decode cX6_pay 77 = .ok (.iload_n 3, 1) := by decide +kernel
theorem dX6_pay_78 : decode cX6_pay 78 = .ok (.imul, 1) := by decide +kernel
theorem dX6_pay_79 : decode cX6_pay 79 = .ok (.iadd, 1) := by decide +kernel
theorem dX6_pay_80 : decode cX6_pay 80 = .ok (.istore 4, 2) := by decide +kernel
theorem dX6_pay_82 : decode cX6_pay 82 = .ok (.aload_n 0, 1) := by decide +kernel
theorem dX6_pay_83 : decode cX6_pay 83 = .ok (.getfield 7, 3) := by decide +kernel
theorem dX6_pay_86 : decode cX6_pay 86 = .ok (.bipush 9, 2) := by decide +kernel
theorem dX6_pay_88 : decode cX6_pay 88 = .ok (.dup2, 1) := by decide +kernel
theorem dX6_pay_89 : decode cX6_pay 89 = .ok (.iaload, 1) := by decide +kernel
theorem dX6_pay_90 : decode cX6_pay 90 = .ok (.iconst 1, 1) := by decide +kernel
theorem dX6_pay_91 : decode cX6_pay 91 = .ok (.iadd, 1) := by decide +kernel
theorem dX6_pay_92 : decode cX6_pay 92 = .ok (.iastore, 1) := by decide +kernel
theorem dX6_pay_93 : decode cX6_pay 93 = .ok (.aload_n 0, 1) := by decide +kernel
theorem dX6_pay_94 : decode cX6_pay 94 = .ok (.getfield 7, 3) := by decide +kernel
theorem dX6_pay_97 : decode cX6_pay 97 = .ok (.iload 4, 2) := by decide +kernel
theorem dX6_pay_99 : decode cX6_pay 99 = .ok (.iconst 0, 1) := by decide +kernel
theorem dX6_pay_100 : decode cX6_pay 100 = .ok (.iadd, 1) := by decide +kernel
theorem dX6_pay_101 : decode cX6_pay 101 = .ok (.aload_n 0, 1) := by decide +kernel
theorem dX6_pay_102 : decode cX6_pay 102 = .ok (.iload_n 1, 1) := by decide +kernel
theorem dX6_pay_103 : decode cX6_pay 103 = .ok (.iconst 0, 1) := by decide +kernel
theorem dX6_pay_104 : decode cX6_pay 104 = .ok (.invokevirtual 52, 3) := by decide +kernel
theorem dX6_pay_107 : decode cX6_pay 107 = .ok (.iastore, 1) := by decide +kernel
theorem dX6_pay_108 : decode cX6_pay 108 = .ok (.aload_n 0, 1) := by decide +kernel
theorem dX6_pay_109 : decode cX6_pay 109 = .ok (.getfield 7, 3) := by decide +kernel
theorem dX6_pay_112 : decode cX6_pay 112 = .ok (.iload 4, 2) := by decide +kernel
theorem dX6_pay_114 : decode cX6_pay 114 = .ok (.iconst 1, 1) := by decide +kernel
theorem dX6_pay_115 : decode cX6_pay 115 = .ok (.iadd, 1) := by decide +kernel
theorem dX6_pay_116 : decode cX6_pay 116 = .ok (.aload_n 0, 1) := by decide +kernel
theorem dX6_pay_117 : decode cX6_pay 117 = .ok (.iload_n 1, 1) := by decide +kernel
theorem dX6_pay_118 : decode cX6_pay 118 = .ok (.iconst 1, 1) := by decide +kernel
theorem dX6_pay_119 : decode cX6_pay 119 = .ok (.invokevirtual 52, 3) := by decide +kernel
theorem dX6_pay_122 : decode cX6_pay 122 = .ok (.iastore, 1) := by decide +kernel
theorem dX6_pay_123 : decode cX6_pay 123 = .ok (.aload_n 0, 1) := by decide +kernel
theorem dX6_pay_124 : decode cX6_pay 124 = .ok (.getfield 7, 3) := by decide +kernel
theorem dX6_pay_127 : decode cX6_pay 127 = .ok (.iload 4, 2) := by decide +kernel
theorem dX6_pay_129 : decode cX6_pay 129 = .ok (.iconst 2, 1) := by decide +kernel
theorem dX6_pay_130 : decode cX6_pay 130 = .ok (.iadd, 1) := by decide +kernel
theorem dX6_pay_131 : decode cX6_pay 131 = .ok (.iload_n 2, 1) := by decide +kernel
theorem dX6_pay_132 : decode cX6_pay 132 = .ok (.iastore, 1) := by decide +kernel
theorem dX6_pay_133 : decode cX6_pay 133 = .ok (.aload_n 0, 1) := by decide +kernel
theorem dX6_pay_134 : decode cX6_pay 134 = .ok (.getfield 7, 3) := by decide +kernel
theorem dX6_pay_137 : decode cX6_pay 137 = .ok (.iload 4, 2) := by decide +kernel
theorem dX6_pay_139 : decode cX6_pay 139 = .ok (.iconst 3, 1) := by decide +kernel
theorem dX6_pay_140 : decode cX6_pay 140 = .ok (.iadd, 1) := by decide +kernel
theorem dX6_pay_141 : decode cX6_pay 141 = .ok (.aload_n 0, 1) := by decide +kernel
theorem dX6_pay_142 : decode cX6_pay 142 = .ok (.getfield 7, 3) := by decide +kernel
theorem dX6_pay_145 : decode cX6_pay 145 = .ok (.iconst 4, 1) := by decide +kernel
theorem dX6_pay_146 : decode cX6_pay 146 = .ok (.iaload, 1) := by decide +kernel
theorem dX6_pay_147 : decode cX6_pay 147 = .ok (.iastore, 1) := by decide +kernel
theorem dX6_pay_148 : decode cX6_pay 148 = .ok (.aload_n 0, 1) := by decide +kernel
theorem dX6_pay_149 : decode cX6_pay 149 = .ok (.getfield 7, 3) := by decide +kernel
theorem dX6_pay_152 : decode cX6_pay 152 = .ok (.iload 4, 2) := by decide +kernel
theorem dX6_pay_154 : decode cX6_pay 154 = .ok (.iconst 4, 1) := by decide +kernel
theorem dX6_pay_155 : decode cX6_pay 155 = .ok (.iadd, 1) := by decide +kernel
theorem dX6_pay_156 : decode cX6_pay 156 = .ok (.iconst 0, 1) := by decide +kernel
theorem dX6_pay_157 : decode cX6_pay 157 = .ok (.iastore, 1) := by decide +kernel
theorem dX6_pay_158 : decode cX6_pay 158 = .ok (.aload_n 0, 1) := by decide +kernel
theorem dX6_pay_159 : decode cX6_pay 159 = .ok (.iload_n 1, 1) := by decide +kernel
theorem dX6_pay_160 : decode cX6_pay 160 = .ok (.invokevirtual 123, 3) := by decide +kernel
theorem dX6_pay_163 : decode cX6_pay 163 = .ok (.aload_n 0, 1) := by decide +kernel
theorem dX6_pay_164 : decode cX6_pay 164 = .ok (.getfield 7, 3) := by decide +kernel
theorem dX6_pay_167 : decode cX6_pay 167 = .ok (.iload 4, 2) := by decide +kernel
theorem dX6_pay_169 : decode cX6_pay 169 = .ok (.iconst 0, 1) := by decide +kernel
theorem dX6_pay_170 : decode cX6_pay 170 = .ok (.iadd, 1) := by decide +kernel
theorem dX6_pay_171 : decode cX6_pay 171 = .ok (.iaload, 1) := by decide +kernel
theorem dX6_pay_172 : decode cX6_pay 172 = .ok (.aload_n 0, 1) := by decide +kernel
theorem dX6_pay_173 : decode cX6_pay 173 = .ok (.getfield 7, 3) := by decide +kernel
theorem dX6_pay_176 : decode cX6_pay 176 = .ok (.iload 4, 2) := by decide +kernel
theorem dX6_pay_178 : decode cX6_pay 178 = .ok (.iconst 1, 1) := by decide +kernel
theorem dX6_pay_179 : decode cX6_pay 179 = .ok (.iadd, 1) := by decide +kernel
theorem dX6_pay_180 : decode cX6_pay 180 = .ok (.iaload, 1) := by decide +kernel
theorem dX6_pay_181 : decode cX6_pay 181 = .ok (.invokestatic 45, 3) := by decide +kernel
theorem dX6_pay_184 : decode cX6_pay 184 = .ok (.istore 5, 2) := by decide +kernel
theorem dX6_pay_186 : decode cX6_pay 186 = .ok (.aload_n 0, 1) := by decide +kernel
theorem dX6_pay_187 : decode cX6_pay 187 = .ok (.getfield 7, 3) := by decide +kernel
theorem dX6_pay_190 : decode cX6_pay 190 = .ok (.iload 5, 2) := by decide +kernel
theorem dX6_pay_192 : decode cX6_pay 192 = .ok (.iconst 0, 1) := by decide +kernel
theorem dX6_pay_193 : decode cX6_pay 193 = .ok (.iadd, 1) := by decide +kernel
theorem dX6_pay_194 : decode cX6_pay 194 = .ok (.dup2, 1) := by decide +kernel
theorem dX6_pay_195 : decode cX6_pay 195 = .ok (.iaload, 1) := by decide +kernel
theorem dX6_pay_196 : decode cX6_pay 196 = .ok (.iload_n 2, 1) := by decide +kernel
theorem dX6_pay_197 : decode cX6_pay 197 = .ok (.isub, 1) := by decide +kernel
theorem dX6_pay_198 : decode cX6_pay 198 = .ok (.iastore, 1) := by decide +kernel
theorem dX6_pay_199 : decode cX6_pay 199 = .ok (.aload_n 0, 1) := by decide +kernel
theorem dX6_pay_200 : decode cX6_pay 200 = .ok (.getfield 7, 3) := by decide +kernel
theorem dX6_pay_203 : decode cX6_pay 203 = .ok (.iload 5, 2) := by decide +kernel
theorem dX6_pay_205 : decode cX6_pay 205 = .ok (.iconst 4, 1) := by decide +kernel
theorem dX6_pay_206 : decode cX6_pay 206 = .ok (.iadd, 1) := by decide +kernel
theorem dX6_pay_207 : decode cX6_pay 207 = .ok (.dup2, 1) := by decide +kernel
theorem dX6_pay_208 : decode cX6_pay 208 = .ok (.iaload, 1) := by decide +kernel
theorem dX6_pay_209 : decode cX6_pay 209 = .ok (.iload_n 2, 1) := by decide +kernel
theorem dX6_pay_210 : decode cX6_pay 210 = .ok (.iadd, 1) := by decide +kernel
theorem dX6_pay_211 : decode cX6_pay 211 = .ok (.iastore, 1) := by decide +kernel
theorem dX6_pay_212 : decode cX6_pay 212 = .ok (.iload_n 3, 1) := by decide +kernel
theorem dX6_pay_213 : decode cX6_pay 213 = .ok (.ireturn, 1) := by decide +kernel
theorem dX6_letGo_0 : decode cX6_letGo 0 = .ok (.aload_n 0, 1) := by decide +kernel
theorem dX6_letGo_1 : decode cX6_letGo 1 = .ok (.aload_n 0, 1) := by decide +kernel
theorem dX6_letGo_2 : decode cX6_letGo 2 = .ok (.iload_n 1, 1) := by decide +kernel
theorem dX6_letGo_3 : decode cX6_letGo 3 = .ok (.invokevirtual 120, 3) := by decide +kernel
theorem dX6_letGo_6 : decode cX6_letGo 6 = .ok (.ifCond .eq 7, 3) := by decide +kernel
theorem dX6_letGo_9 : decode cX6_letGo 9 = .ok (.iconst 0, 1) := by decide +kernel
theorem dX6_letGo_10 : decode cX6_letGo 10 = .ok (.goto 4, 3) := by decide +kernel
theorem dX6_letGo_13 : decode cX6_letGo 13 = .ok (.iconst 1, 1) := by decide +kernel
theorem dX6_letGo_14 : decode cX6_letGo 14 = .ok (.putfield 22, 3) := by decide +kernel
theorem dX6_letGo_17 : decode cX6_letGo 17 = .ok (.aload_n 0, 1) := by decide +kernel
theorem dX6_letGo_18 : decode cX6_letGo 18 = .ok (.getfield 22, 3) := by decide +kernel
theorem dX6_letGo_21 : decode cX6_letGo 21 = .ok (.ifCond .le 5, 3) := by decide +kernel
theorem dX6_letGo_24 : decode cX6_letGo 24 = .ok (.iconst 0, 1) := by decide +kernel
theorem dX6_letGo_25 : decode cX6_letGo 25 = .ok (.ireturn, 1) := by decide +kernel
theorem dX6_letGo_26 : decode cX6_letGo 26 = .ok (.aload_n 0, 1) := by decide +kernel
theorem dX6_letGo_27 : decode cX6_letGo 27 = .ok (.invokevirtual 68, 3) := by decide +kernel
theorem dX6_letGo_30 : decode cX6_letGo 30 = .ok (.aload_n 0, 1) := by decide +kernel
theorem dX6_letGo_31 : decode cX6_letGo 31 = .ok (.iload_n 1, 1) := by decide +kernel
theorem dX6_letGo_32 : decode cX6_letGo 32 = .ok (.iconst 3, 1) := by decide +kernel
theorem dX6_letGo_33 : decode cX6_letGo 33 = .ok (.invokevirtual 52, 3) := by decide +kernel
theorem dX6_letGo_36 : decode cX6_letGo 36 = .ok (.istore_n 2, 1) := by decide +kernel
theorem dX6_letGo_37 : decode cX6_letGo 37 = .ok (.aload_n 0, 1) := by decide +kernel
theorem dX6_letGo_38 : decode cX6_letGo 38 = .ok (.iload_n 1, 1) := by decide +kernel
theorem dX6_letGo_39 : decode cX6_letGo 39 = .ok (.invokevirtual 123, 3) := by decide +kernel
theorem dX6_letGo_42 : decode cX6_letGo 42 = .ok (.iload_n 2, 1) := by decide +kernel
theorem dX6_letGo_43 : decode cX6_letGo 43 = .ok (.ireturn, 1) := by decide +kernel
theorem dX6_canDispute_0 : decode cX6_canDispute 0 = .ok (.aload_n 0, 1) := by decide +kernel
theorem dX6_canDispute_1 : decode cX6_canDispute 1 = .ok (.iload_n 1, 1) := by decide +kernel
theorem dX6_canDispute_2 : decode cX6_canDispute 2 = .ok (.iconst 4, 1) := by decide +kernel
theorem dX6_canDispute_3 : decode cX6_canDispute 3 = .ok (.invokevirtual 127, 3) := by decide +kernel
theorem dX6_canDispute_6 : decode cX6_canDispute 6 = .ok (.ifCond .ne 25, 3) := by decide +kernel
theorem dX6_canDispute_9 : decode cX6_canDispute 9 = .ok (.aload_n 0, 1) := by decide +kernel
theorem dX6_canDispute_10 : decode cX6_canDispute 10 = .ok (.getfield 7, 3) := by decide +kernel
theorem dX6_canDispute_13 : decode cX6_canDispute 13 = .ok (.iconst 4, 1) := by decide +kernel
theorem dX6_canDispute_14 : decode cX6_canDispute 14 = .ok (.iaload, 1) := by decide +kernel
theorem dX6_canDispute_15 : decode cX6_canDispute 15 = .ok (.aload_n 0, 1) := by decide +kernel
theorem dX6_canDispute_16 : decode cX6_canDispute 16 = .ok (.iload_n 1, 1) := by decide +kernel
theorem dX6_canDispute_17 : decode cX6_canDispute 17 = .ok (.iconst 3, 1) := by decide +kernel
theorem dX6_canDispute_18 : decode cX6_canDispute 18 = .ok (.invokevirtual 127, 3) := by decide +kernel
theorem dX6_canDispute_21 : decode cX6_canDispute 21 = .ok (.bipush 30, 2) := by decide +kernel
theorem dX6_canDispute_23 : decode cX6_canDispute 23 = .ok (.iadd, 1) := by decide +kernel
theorem dX6_canDispute_24 : decode cX6_canDispute 24 = .ok (.if_icmp .gt 7, 3) := by decide +kernel
theorem dX6_canDispute_27 : decode cX6_canDispute 27 = .ok (.iconst 1, 1) := by decide +kernel
theorem dX6_canDispute_28 : decode cX6_canDispute 28 = .ok (.goto 4, 3) := by decide +kernel
theorem dX6_canDispute_31 : decode cX6_canDispute 31 = .ok (.iconst 0, 1) := by decide +kernel
theorem dX6_canDispute_32 : decode cX6_canDispute 32 = .ok (.ireturn, 1) := by decide +kernel
theorem dX6_dispute_0 : decode cX6_dispute 0 = .ok (.aload_n 0, 1) := by decide +kernel
theorem dX6_dispute_1 : decode cX6_dispute 1 = .ok (.aload_n 0, 1) := by decide +kernel
theorem dX6_dispute_2 : decode cX6_dispute 2 = .ok (.iload_n 1, 1) := by decide +kernel
theorem dX6_dispute_3 : decode cX6_dispute 3 = .ok (.invokevirtual 130, 3) := by decide +kernel
theorem dX6_dispute_6 : decode cX6_dispute 6 = .ok (.ifCond .ne 7, 3) := by decide +kernel
theorem dX6_dispute_9 : decode cX6_dispute 9 = .ok (.iconst 1, 1) := by decide +kernel
theorem dX6_dispute_10 : decode cX6_dispute 10 = .ok (.goto 16, 3) := by decide +kernel
theorem dX6_dispute_13 : decode cX6_dispute 13 = .ok (.aload_n 0, 1) := by decide +kernel
theorem dX6_dispute_14 : decode cX6_dispute 14 = .ok (.iload_n 1, 1) := by decide +kernel
theorem dX6_dispute_15 : decode cX6_dispute 15 = .ok (.invokevirtual 133, 3) := by decide +kernel
theorem dX6_dispute_18 : decode cX6_dispute 18 = .ok (.ifCond .eq 7, 3) := by decide +kernel
theorem dX6_dispute_21 : decode cX6_dispute 21 = .ok (.iconst 0, 1) := by decide +kernel
theorem dX6_dispute_22 : decode cX6_dispute 22 = .ok (.goto 4, 3) := by decide +kernel
theorem dX6_dispute_25 : decode cX6_dispute 25 = .ok (.iconst 2, 1) := by decide +kernel
theorem dX6_dispute_26 : decode cX6_dispute 26 = .ok (.putfield 22, 3) := by decide +kernel
theorem dX6_dispute_29 : decode cX6_dispute 29 = .ok (.aload_n 0, 1) := by decide +kernel
theorem dX6_dispute_30 : decode cX6_dispute 30 = .ok (.getfield 22, 3) := by decide +kernel
theorem dX6_dispute_33 : decode cX6_dispute 33 = .ok (.ifCond .le 5, 3) := by decide +kernel
theorem dX6_dispute_36 : decode cX6_dispute 36 = .ok (.iconst 0, 1) := by decide +kernel
theorem dX6_dispute_37 : decode cX6_dispute 37 = .ok (.ireturn, 1) := by decide +kernel
theorem dX6_dispute_38 : decode cX6_dispute 38 = .ok (.aload_n 0, 1) := by decide +kernel
theorem dX6_dispute_39 : decode cX6_dispute 39 = .ok (.invokevirtual 68, 3) := by decide +kernel
theorem dX6_dispute_42 : decode cX6_dispute 42 = .ok (.aload_n 0, 1) := by decide +kernel
theorem dX6_dispute_43 : decode cX6_dispute 43 = .ok (.iload_n 1, 1) := by decide +kernel
theorem dX6_dispute_44 : decode cX6_dispute 44 = .ok (.iconst 0, 1) := by decide +kernel
theorem dX6_dispute_45 : decode cX6_dispute 45 = .ok (.invokevirtual 127, 3) := by decide +kernel
theorem dX6_dispute_48 : decode cX6_dispute 48 = .ok (.istore_n 2, 1) := by decide +kernel
theorem dX6_dispute_49 : decode cX6_dispute 49 = .ok (.aload_n 0, 1) := by decide +kernel
theorem dX6_dispute_50 : decode cX6_dispute 50 = .ok (.iload_n 1, 1) := by decide +kernel
theorem dX6_dispute_51 : decode cX6_dispute 51 = .ok (.iconst 1, 1) := by decide +kernel
theorem dX6_dispute_52 : decode cX6_dispute 52 = .ok (.invokevirtual 127, 3) := by decide +kernel
theorem dX6_dispute_55 : decode cX6_dispute 55 = .ok (.istore_n 3, 1) := by decide +kernel
theorem dX6_dispute_56 : decode cX6_dispute 56 = .ok (.aload_n 0, 1) := by decide +kernel
theorem dX6_dispute_57 : decode cX6_dispute 57 = .ok (.getfield 7, 3) := by decide +kernel
theorem dX6_dispute_60 : decode cX6_dispute 60 = .ok (.sipush 136, 3) := by decide +kernel
theorem dX6_dispute_63 : decode cX6_dispute 63 = .ok (.iconst 5, 1) := by decide +kernel
theorem dX6_dispute_64 : decode cX6_dispute 64 = .ok (.iload_n 1, 1) := by decide +kernel
theorem dX6_dispute_65 : decode cX6_dispute 65 = .ok (.imul, 1) := by decide +kernel
theorem dX6_dispute_66 : decode cX6_dispute 66 = .ok (.iadd, 1) := by decide +kernel
theorem dX6_dispute_67 : decode cX6_dispute 67 = .ok (.iconst 4, 1) := by decide +kernel
theorem dX6_dispute_68 : decode cX6_dispute 68 = .ok (.iadd, 1) := by decide +kernel
theorem dX6_dispute_69 : decode cX6_dispute 69 = .ok (.iconst 1, 1) := by decide +kernel
theorem dX6_dispute_70 : decode cX6_dispute 70 = .ok (.iastore, 1) := by decide +kernel
theorem dX6_dispute_71 : decode cX6_dispute 71 = .ok (.aload_n 0, 1) := by decide +kernel
theorem dX6_dispute_72 : decode cX6_dispute 72 = .ok (.iload_n 2, 1) := by decide +kernel
theorem dX6_dispute_73 : decode cX6_dispute 73 = .ok (.iload_n 3, 1) := by decide +kernel
theorem dX6_dispute_74 : decode cX6_dispute 74 = .ok (.aload_n 0, 1) := by decide +kernel
theorem dX6_dispute_75 : decode cX6_dispute 75 = .ok (.iload_n 1, 1) := by decide +kernel
theorem dX6_dispute_76 : decode cX6_dispute 76 = .ok (.iconst 2, 1) := by decide +kernel
theorem dX6_dispute_77 : decode cX6_dispute 77 = .ok (.invokevirtual 127, 3) := by decide +kernel
theorem dX6_dispute_80 : decode cX6_dispute 80 = .ok (.invokevirtual 76, 3) := by decide +kernel
theorem dX6_dispute_83 : decode cX6_dispute 83 = .ok (.aload_n 0, 1) := by decide +kernel
theorem dX6_dispute_84 : decode cX6_dispute 84 = .ok (.iload_n 2, 1) := by decide +kernel
theorem dX6_dispute_85 : decode cX6_dispute 85 = .ok (.iload_n 3, 1) := by decide +kernel
theorem dX6_dispute_86 : decode cX6_dispute 86 = .ok (.iconst 0, 1) := by decide +kernel
theorem dX6_dispute_87 : decode cX6_dispute 87 = .ok (.invokevirtual 55, 3) := by decide +kernel
theorem dX6_dispute_90 : decode cX6_dispute 90 = .ok (.ireturn, 1) := by decide +kernel
theorem dX6_takesBack_0 : decode cX6_takesBack 0 = .ok (.aload_n 0, 1) := by decide +kernel
theorem dX6_takesBack_1 : decode cX6_takesBack 1 = .ok (.iload_n 1, 1) := by decide +kernel
theorem dX6_takesBack_2 : decode cX6_takesBack 2 = .ok (.iload_n 2, 1) := by decide +kernel
theorem dX6_takesBack_3 : decode cX6_takesBack 3 = .ok (.invokevirtual 102, 3) := by decide +kernel
theorem dX6_takesBack_6 : decode cX6_takesBack 6 = .ok (.istore 4, 2) := by decide +kernel
theorem dX6_takesBack_8 : decode cX6_takesBack 8 = .ok (.iload 4, 2) := by decide +kernel
theorem dX6_takesBack_10 : decode cX6_takesBack 10 = .ok (.iload_n 3, 1) := by decide +kernel
theorem dX6_takesBack_11 : decode cX6_takesBack 11 = .ok (.if_icmp .ge 8, 3) := by decide +kernel
theorem dX6_takesBack_14 : decode cX6_takesBack 14 = .ok (.iload 4, 2) := by decide +kernel
theorem dX6_takesBack_16 : decode cX6_takesBack 16 = .ok (.goto 4, 3) := by decide +kernel
theorem dX6_takesBack_19 : decode cX6_takesBack 19 = .ok (.iload_n 3, 1) := by decide +kernel
theorem dX6_takesBack_20 : decode cX6_takesBack 20 = .ok (.istore 5, 2) := by decide +kernel
theorem dX6_takesBack_22 : decode cX6_takesBack 22 = .ok (.aload_n 0, 1) := by decide +kernel
theorem dX6_takesBack_23 : decode cX6_takesBack 23 = .ok (.getfield 7, 3) := by decide +kernel
theorem dX6_takesBack_26 : decode cX6_takesBack 26 = .ok (.iload_n 1, 1) := by decide +kernel
theorem dX6_takesBack_27 : decode cX6_takesBack 27 = .ok (.iload_n 2, 1) := by decide +kernel
theorem dX6_takesBack_28 : decode cX6_takesBack 28 = .ok (.invokestatic 45, 3) := by decide +kernel
theorem dX6_takesBack_31 : decode cX6_takesBack 31 = .ok (.iconst 0, 1) := by decide +kernel
theorem dX6_takesBack_32 : decode cX6_takesBack 32 = .ok (.iadd, 1) := by decide +kernel
theorem dX6_takesBack_33 : decode cX6_takesBack 33 = .ok (.dup2, 1) := by decide +kernel
theorem dX6_takesBack_34 : decode cX6_takesBack 34 = .ok (.iaload, 1) := by decide +kernel
theorem dX6_takesBack_35 : decode cX6_takesBack 35 = .ok (.iload 5, 2) := by decide +kernel
theorem dX6_takesBack_37 : decode cX6_takesBack 37 = .ok (.isub, 1) := by decide +kernel
theorem dX6_takesBack_38 : decode cX6_takesBack 38 = .ok (.iastore, 1) := by decide +kernel
theorem dX6_takesBack_39 : decode cX6_takesBack 39 = .ok (.aload_n 0, 1) := by decide +kernel
theorem dX6_takesBack_40 : decode cX6_takesBack 40 = .ok (.getfield 7, 3) := by decide +kernel
theorem dX6_takesBack_43 : decode cX6_takesBack 43 = .ok (.iload_n 1, 1) := by decide +kernel
theorem dX6_takesBack_44 : decode cX6_takesBack 44 = .ok (.iload_n 2, 1) := by decide +kernel
theorem dX6_takesBack_45 : decode cX6_takesBack 45 = .ok (.invokestatic 45, 3) := by decide +kernel
theorem dX6_takesBack_48 : decode cX6_takesBack 48 = .ok (.iconst 1, 1) := by decide +kernel
theorem dX6_takesBack_49 : decode cX6_takesBack 49 = .ok (.iadd, 1) := by decide +kernel
theorem dX6_takesBack_50 : decode cX6_takesBack 50 = .ok (.dup2, 1) := by decide +kernel
theorem dX6_takesBack_51 : decode cX6_takesBack 51 = .ok (.iaload, 1) := by decide +kernel
theorem dX6_takesBack_52 : decode cX6_takesBack 52 = .ok (.iload_n 3, 1) := by decide +kernel
theorem dX6_takesBack_53 : decode cX6_takesBack 53 = .ok (.iload 5, 2) := by decide +kernel
theorem dX6_takesBack_55 : decode cX6_takesBack 55 = .ok (.isub, 1) := by decide +kernel
theorem dX6_takesBack_56 : decode cX6_takesBack 56 = .ok (.iadd, 1) := by decide +kernel
theorem dX6_takesBack_57 : decode cX6_takesBack 57 = .ok (.iastore, 1) := by decide +kernel
theorem dX6_takesBack_58 : decode cX6_takesBack 58 = .ok (.iload_n 3, 1) := by decide +kernel
theorem dX6_takesBack_59 : decode cX6_takesBack 59 = .ok (.iload 5, 2) := by decide +kernel
theorem dX6_takesBack_61 : decode cX6_takesBack 61 = .ok (.isub, 1) := by decide +kernel
theorem dX6_takesBack_62 : decode cX6_takesBack 62 = .ok (.ireturn, 1) := by decide +kernel
theorem dX6_decide_0 : decode cX6_decide 0 = .ok (.aload_n 0, 1) := by decide +kernel
theorem dX6_decide_1 : decode cX6_decide 1 = .ok (.aload_n 0, 1) := by decide +kernel
theorem dX6_decide_2 : decode cX6_decide 2 = .ok (.iload_n 1, 1) := by decide +kernel
theorem dX6_decide_3 : decode cX6_decide 3 = .ok (.invokevirtual 130, 3) := by decide +kernel
theorem dX6_decide_6 : decode cX6_decide 6 = .ok (.ifCond .ne 7, 3) := by decide +kernel
theorem dX6_decide_9 : decode cX6_decide 9 = .ok (.iconst 1, 1) := by decide +kernel
theorem dX6_decide_10 : decode cX6_decide 10 = .ok (.goto 18, 3) := by decide +kernel
theorem dX6_decide_13 : decode cX6_decide 13 = .ok (.aload_n 0, 1) := by decide +kernel
theorem dX6_decide_14 : decode cX6_decide 14 = .ok (.iload_n 1, 1) := by decide +kernel
theorem dX6_decide_15 : decode cX6_decide 15 = .ok (.iconst 4, 1) := by decide +kernel
theorem dX6_decide_16 : decode cX6_decide 16 = .ok (.invokevirtual 127, 3) := by decide +kernel
theorem dX6_decide_19 : decode cX6_decide 19 = .ok (.iconst 1, 1) := by decide +kernel
theorem dX6_decide_20 : decode cX6_decide 20 = .ok (.if_icmp .ne 7, 3) := by decide +kernel
theorem dX6_decide_23 : decode cX6_decide 23 = .ok (.iconst 0, 1) := by decide +kernel
theorem dX6_decide_24 : decode cX6_decide 24 = .ok (.goto 4, 3) := by decide +kernel
theorem dX6_decide_27 : decode cX6_decide 27 = .ok (.iconst 2, 1) := by decide +kernel
theorem dX6_decide_28 : decode cX6_decide 28 = .ok (.putfield 22, 3) := by decide +kernel
theorem dX6_decide_31 : decode cX6_decide 31 = .ok (.aload_n 0, 1) := by decide +kernel
theorem dX6_decide_32 : decode cX6_decide 32 = .ok (.getfield 22, 3) := by decide +kernel
theorem dX6_decide_35 : decode cX6_decide 35 = .ok (.ifCond .le 5, 3) := by decide +kernel
theorem dX6_decide_38 : decode cX6_decide 38 = .ok (.iconst 0, 1) := by decide +kernel
theorem dX6_decide_39 : decode cX6_decide 39 = .ok (.ireturn, 1) := by decide +kernel
theorem dX6_decide_40 : decode cX6_decide 40 = .ok (.aload_n 0, 1) := by decide +kernel
theorem dX6_decide_41 : decode cX6_decide 41 = .ok (.invokevirtual 68, 3) := by decide +kernel
theorem dX6_decide_44 : decode cX6_decide 44 = .ok (.aload_n 0, 1) := by decide +kernel
theorem dX6_decide_45 : decode cX6_decide 45 = .ok (.getfield 7, 3) := by decide +kernel
theorem dX6_decide_48 : decode cX6_decide 48 = .ok (.sipush 136, 3) := by decide +kernel
theorem dX6_decide_51 : decode cX6_decide 51 = .ok (.iconst 5, 1) := by decide +kernel
theorem dX6_decide_52 : decode cX6_decide 52 = .ok (.iload_n 1, 1) := by decide +kernel
theorem dX6_decide_53 : decode cX6_decide 53 = .ok (.imul, 1) := by decide +kernel
theorem dX6_decide_54 : decode cX6_decide 54 = .ok (.iadd, 1) := by decide +kernel
theorem dX6_decide_55 : decode cX6_decide 55 = .ok (.iconst 4, 1) := by decide +kernel
theorem dX6_decide_56 : decode cX6_decide 56 = .ok (.iadd, 1) := by decide +kernel
theorem dX6_decide_57 : decode cX6_decide 57 = .ok (.iload_n 2, 1) := by decide +kernel
theorem dX6_decide_58 : decode cX6_decide 58 = .ok (.ifCond .eq 7, 3) := by decide +kernel
theorem dX6_decide_61 : decode cX6_decide 61 = .ok (.iconst 2, 1) := by decide +kernel
theorem dX6_decide_62 : decode cX6_decide 62 = .ok (.goto 4, 3) := by decide +kernel
theorem dX6_decide_65 : decode cX6_decide 65 = .ok (.iconst 3, 1) := by decide +kernel
theorem dX6_decide_66 : decode cX6_decide 66 = .ok (.iastore, 1) := by decide +kernel
theorem dX6_decide_67 : decode cX6_decide 67 = .ok (.iload_n 2, 1) := by decide +kernel
theorem dX6_decide_68 : decode cX6_decide 68 = .ok (.ifCond .eq 7, 3) := by decide +kernel
theorem dX6_decide_71 : decode cX6_decide 71 = .ok (.iconst 0, 1) := by decide +kernel
theorem dX6_decide_72 : decode cX6_decide 72 = .ok (.goto 25, 3) := by decide +kernel
theorem dX6_decide_75 : decode cX6_decide 75 = .ok (.aload_n 0, 1) := by decide +kernel
theorem dX6_decide_76 : decode cX6_decide 76 = .ok (.aload_n 0, 1) := by decide +kernel
theorem dX6_decide_77 : decode cX6_decide 77 = .ok (.iload_n 1, 1) := by decide +kernel
theorem dX6_decide_78 : decode cX6_decide 78 = .ok (.iconst 0, 1) := by decide +kernel
theorem dX6_decide_79 : decode cX6_decide 79 = .ok (.invokevirtual 127, 3) := by decide +kernel
theorem dX6_decide_82 : decode cX6_decide 82 = .ok (.aload_n 0, 1) := by decide +kernel
theorem dX6_decide_83 : decode cX6_decide 83 = .ok (.iload_n 1, 1) := by decide +kernel
theorem dX6_decide_84 : decode cX6_decide 84 = .ok (.iconst 1, 1) := by decide +kernel
theorem dX6_decide_85 : decode cX6_decide 85 = .ok (.invokevirtual 127, 3) := by decide +kernel
theorem dX6_decide_88 : decode cX6_decide 88 = .ok (.aload_n 0, 1) := by decide +kernel
theorem dX6_decide_89 : decode cX6_decide 89 = .ok (.iload_n 1, 1) := by decide +kernel
theorem dX6_decide_90 : decode cX6_decide 90 = .ok (.iconst 2, 1) := by decide +kernel
theorem dX6_decide_91 : decode cX6_decide 91 = .ok (.invokevirtual 127, 3) := by decide +kernel
theorem dX6_decide_94 : decode cX6_decide 94 = .ok (.invokevirtual 136, 3) := by decide +kernel
theorem dX6_decide_97 : decode cX6_decide 97 = .ok (.ireturn, 1) := by decide +kernel
theorem dX6_hasHold_0 : decode cX6_hasHold 0 = .ok (.iconst 0, 1) := by decide +kernel
theorem dX6_hasHold_1 : decode cX6_hasHold 1 = .ok (.istore_n 2, 1) := by decide +kernel
theorem dX6_hasHold_2 : decode cX6_hasHold 2 = .ok (.iconst 0, 1) := by decide +kernel
theorem dX6_hasHold_3 : decode cX6_hasHold 3 = .ok (.istore_n 3, 1) := by decide +kernel
theorem dX6_hasHold_4 : decode cX6_hasHold 4 = .ok (.iload_n 3, 1) := by decide +kernel
theorem dX6_hasHold_5 : decode cX6_hasHold 5 = .ok (.aload_n 0, 1) := by decide +kernel
theorem dX6_hasHold_6 : decode cX6_hasHold 6 = .ok (.getfield 7, 3) := by decide +kernel
theorem dX6_hasHold_9 : decode cX6_hasHold 9 = .ok (.bipush 8, 2) := by decide +kernel
theorem dX6_hasHold_11 : decode cX6_hasHold 11 = .ok (.iaload, 1) := by decide +kernel
theorem dX6_hasHold_12 : decode cX6_hasHold 12 = .ok (.if_icmp .ge 29, 3) := by decide +kernel
theorem dX6_hasHold_15 : decode cX6_hasHold 15 = .ok (.iload_n 2, 1) := by decide +kernel
theorem dX6_hasHold_16 : decode cX6_hasHold 16 = .ok (.ifCond .ne 13, 3) := by decide +kernel
theorem dX6_hasHold_19 : decode cX6_hasHold 19 = .ok (.aload_n 0, 1) := by decide +kernel
theorem dX6_hasHold_20 : decode cX6_hasHold 20 = .ok (.iload_n 3, 1) := by decide +kernel
theorem dX6_hasHold_21 : decode cX6_hasHold 21 = .ok (.iconst 0, 1) := by decide +kernel
theorem dX6_hasHold_22 : decode cX6_hasHold 22 = .ok (.invokevirtual 52, 3) := by decide +kernel
theorem dX6_hasHold_25 : decode cX6_hasHold 25 = .ok (.iload_n 1, 1) := by decide +kernel
theorem dX6_hasHold_26 : decode cX6_hasHold 26 = .ok (.if_icmp .ne 7, 3) := by decide +kernel
theorem dX6_hasHold_29 : decode cX6_hasHold 29 = .ok (.iconst 1, 1) := by decide +kernel
theorem dX6_hasHold_30 : decode cX6_hasHold 30 = .ok (.goto 4, 3) := by decide +kernel
theorem dX6_hasHold_33 : decode cX6_hasHold 33 = .ok (.iconst 0, 1) := by decide +kernel
theorem dX6_hasHold_34 : decode cX6_hasHold 34 = .ok (.istore_n 2, 1) := by decide +kernel
theorem dX6_hasHold_35 : decode cX6_hasHold 35 = .ok (.iinc 3 1, 3) := by decide +kernel
theorem dX6_hasHold_38 : decode cX6_hasHold 38 = .ok (.goto (-34), 3) := by decide +kernel
theorem dX6_hasHold_41 : decode cX6_hasHold 41 = .ok (.iload_n 2, 1) := by decide +kernel
theorem dX6_hasHold_42 : decode cX6_hasHold 42 = .ok (.ireturn, 1) := by decide +kernel
theorem dX6_hasDispute_0 : decode cX6_hasDispute 0 = .ok (.iconst 0, 1) := by decide +kernel
theorem dX6_hasDispute_1 : decode cX6_hasDispute 1 = .ok (.istore_n 2, 1) := by decide +kernel
theorem dX6_hasDispute_2 : decode cX6_hasDispute 2 = .ok (.iconst 0, 1) := by decide +kernel
theorem dX6_hasDispute_3 : decode cX6_hasDispute 3 = .ok (.istore_n 3, 1) := by decide +kernel
theorem dX6_hasDispute_4 : decode cX6_hasDispute 4 = .ok (.iload_n 3, 1) := by decide +kernel
theorem dX6_hasDispute_5 : decode cX6_hasDispute 5 = .ok (.aload_n 0, 1) := by decide +kernel
theorem dX6_hasDispute_6 : decode cX6_hasDispute 6 = .ok (.getfield 7, 3) := by decide +kernel
theorem dX6_hasDispute_9 : decode cX6_hasDispute 9 = .ok (.bipush 9, 2) := by decide +kernel
theorem dX6_hasDispute_11 : decode cX6_hasDispute 11 = .ok (.iaload, 1) := by decide +kernel
theorem dX6_hasDispute_12 : decode cX6_hasDispute 12 = .ok (.if_icmp .ge 39, 3) := by decide +kernel
theorem dX6_hasDispute_15 : decode cX6_hasDispute 15 = .ok (.iload_n 2, 1) := by decide +kernel
theorem dX6_hasDispute_16 : decode cX6_hasDispute 16 = .ok (.ifCond .ne 23, 3) := by decide +kernel
theorem dX6_hasDispute_19 : decode cX6_hasDispute 19 = .ok (.aload_n 0, 1) := by decide +kernel
theorem dX6_hasDispute_20 : decode cX6_hasDispute 20 = .ok (.iload_n 3, 1) := by decide +kernel
theorem dX6_hasDispute_21 : decode cX6_hasDispute 21 = .ok (.iconst 0, 1) := by decide +kernel
theorem dX6_hasDispute_22 : decode cX6_hasDispute 22 = .ok (.invokevirtual 127, 3) := by decide +kernel
theorem dX6_hasDispute_25 : decode cX6_hasDispute 25 = .ok (.iload_n 1, 1) := by decide +kernel
theorem dX6_hasDispute_26 : decode cX6_hasDispute 26 = .ok (.if_icmp .ne 17, 3) := by decide +kernel
theorem dX6_hasDispute_29 : decode cX6_hasDispute 29 = .ok (.aload_n 0, 1) := by decide +kernel
theorem dX6_hasDispute_30 : decode cX6_hasDispute 30 = .ok (.iload_n 3, 1) := by decide +kernel
theorem dX6_hasDispute_31 : decode cX6_hasDispute 31 = .ok (.iconst 4, 1) := by decide +kernel
theorem dX6_hasDispute_32 : decode cX6_hasDispute 32 = .ok (.invokevirtual 127, 3) := by decide +kernel
theorem dX6_hasDispute_35 : decode cX6_hasDispute 35 = .ok (.iconst 1, 1) := by decide +kernel
theorem dX6_hasDispute_36 : decode cX6_hasDispute 36 = .ok (.if_icmp .ne 7, 3) := by decide +kernel
theorem dX6_hasDispute_39 : decode cX6_hasDispute 39 = .ok (.iconst 1, 1) := by decide +kernel
theorem dX6_hasDispute_40 : decode cX6_hasDispute 40 = .ok (.goto 4, 3) := by decide +kernel
theorem dX6_hasDispute_43 : decode cX6_hasDispute 43 = .ok (.iconst 0, 1) := by decide +kernel
theorem dX6_hasDispute_44 : decode cX6_hasDispute 44 = .ok (.istore_n 2, 1) := by decide +kernel
theorem dX6_hasDispute_45 : decode cX6_hasDispute 45 = .ok (.iinc 3 1, 3) := by decide +kernel
theorem dX6_hasDispute_48 : decode cX6_hasDispute 48 = .ok (.goto (-44), 3) := by decide +kernel
theorem dX6_hasDispute_51 : decode cX6_hasDispute 51 = .ok (.iload_n 2, 1) := by decide +kernel
theorem dX6_hasDispute_52 : decode cX6_hasDispute 52 = .ok (.ireturn, 1) := by decide +kernel
theorem dX6_hasDebt_0 : decode cX6_hasDebt 0 = .ok (.iconst 0, 1) := by decide +kernel
theorem dX6_hasDebt_1 : decode cX6_hasDebt 1 = .ok (.istore_n 2, 1) := by decide +kernel
theorem dX6_hasDebt_2 : decode cX6_hasDebt 2 = .ok (.iconst 0, 1) := by decide +kernel
theorem dX6_hasDebt_3 : decode cX6_hasDebt 3 = .ok (.istore_n 3, 1) := by decide +kernel
theorem dX6_hasDebt_4 : decode cX6_hasDebt 4 = .ok (.iload_n 3, 1) := by decide +kernel
theorem dX6_hasDebt_5 : decode cX6_hasDebt 5 = .ok (.iconst 4, 1) := by decide +kernel
theorem dX6_hasDebt_6 : decode cX6_hasDebt 6 = .ok (.if_icmp .ge 29, 3) := by decide +kernel
theorem dX6_hasDebt_9 : decode cX6_hasDebt 9 = .ok (.iload_n 2, 1) := by decide +kernel
theorem dX6_hasDebt_10 : decode cX6_hasDebt 10 = .ok (.ifCond .ne 13, 3) := by decide +kernel
theorem dX6_hasDebt_13 : decode cX6_hasDebt 13 = .ok (.aload_n 0, 1) := by decide +kernel
theorem dX6_hasDebt_14 : decode cX6_hasDebt 14 = .ok (.iload_n 1, 1) := by decide +kernel
theorem dX6_hasDebt_15 : decode cX6_hasDebt 15 = .ok (.iload_n 3, 1) := by decide +kernel
theorem dX6_hasDebt_16 : decode cX6_hasDebt 16 = .ok (.iconst 1, 1) := by decide +kernel
theorem dX6_hasDebt_17 : decode cX6_hasDebt 17 = .ok (.invokevirtual 55, 3) := by decide +kernel
theorem dX6_hasDebt_20 : decode cX6_hasDebt 20 = .ok (.ifCond .le 7, 3) := by decide +kernel
theorem dX6_hasDebt_23 : decode cX6_hasDebt 23 = .ok (.iconst 1, 1) := by decide +kernel
theorem dX6_hasDebt_24 : decode cX6_hasDebt 24 = .ok (.goto 4, 3) := by decide +kernel
theorem dX6_hasDebt_27 : decode cX6_hasDebt 27 = .ok (.iconst 0, 1) := by decide +kernel
theorem dX6_hasDebt_28 : decode cX6_hasDebt 28 = .ok (.istore_n 2, 1) := by decide +kernel
theorem dX6_hasDebt_29 : decode cX6_hasDebt 29 = .ok (.iinc 3 1, 3) := by decide +kernel
theorem dX6_hasDebt_32 : decode cX6_hasDebt 32 = .ok (.goto (-28), 3) := by decide +kernel
theorem dX6_hasDebt_35 : decode cX6_hasDebt 35 = .ok (.iload_n 2, 1) := by decide +kernel
theorem dX6_hasDebt_36 : decode cX6_hasDebt 36 = .ok (.ireturn, 1) := by decide +kernel
theorem dX6_whyNoClosing_0 : decode cX6_whyNoClosing 0 = .ok (.aload_n 0, 1) := by decide +kernel
theorem dX6_whyNoClosing_1 : decode cX6_whyNoClosing 1 = .ok (.iload_n 1, 1) := by decide +kernel
theorem dX6_whyNoClosing_2 : decode cX6_whyNoClosing 2 = .ok (.invokevirtual 139, 3) := by decide +kernel
theorem dX6_whyNoClosing_5 : decode cX6_whyNoClosing 5 = .ok (.ifCond .eq 7, 3) := by decide +kernel
theorem dX6_whyNoClosing_8 : decode cX6_whyNoClosing 8 = .ok (.iconst 4, 1) := by decide +kernel
theorem dX6_whyNoClosing_9 : decode cX6_whyNoClosing 9 = .ok (.goto 29, 3) := by decide +kernel
theorem dX6_whyNoClosing_12 : decode cX6_whyNoClosing 12 = .ok (.aload_n 0, 1) := by decide +kernel
theorem dX6_whyNoClosing_13 : decode cX6_whyNoClosing 13 = .ok (.iload_n 1, 1) := by decide +kernel
theorem dX6_whyNoClosing_14 : decode cX6_whyNoClosing 14 = .ok (.invokevirtual 142, 3) := by decide +kernel
theorem dX6_whyNoClosing_17 : decode cX6_whyNoClosing 17 = .ok (.ifCond .eq 7, 3) := by decide +kernel
theorem dX6_whyNoClosing_20 : decode cX6_whyNoClosing 20 = .ok (.iconst 5, 1) := by decide +kernel
theorem dX6_whyNoClosing_21 : decode cX6_whyNoClosing 21 = .ok (.goto 17, 3) := by decide +kernel
theorem dX6_whyNoClosing_24 : decode cX6_whyNoClosing 24 = .ok (.aload_n 0, 1) := by decide +kernel
theorem dX6_whyNoClosing_25 : decode cX6_whyNoClosing 25 = .ok (.iload_n 1, 1) := by decide +kernel
theorem dX6_whyNoClosing_26 : decode cX6_whyNoClosing 26 = .ok (.invokevirtual 145, 3) := by decide +kernel
theorem dX6_whyNoClosing_29 : decode cX6_whyNoClosing 29 = .ok (.ifCond .eq 8, 3) := by decide +kernel
theorem dX6_whyNoClosing_32 : decode cX6_whyNoClosing 32 = .ok (.bipush 6, 2) := by decide +kernel
theorem dX6_whyNoClosing_34 : decode cX6_whyNoClosing 34 = .ok (.goto 4, 3) := by decide +kernel
theorem dX6_whyNoClosing_37 : decode cX6_whyNoClosing 37 = .ok (.iconst 0, 1) := by decide +kernel
theorem dX6_whyNoClosing_38 : decode cX6_whyNoClosing 38 = .ok (.ireturn, 1) := by decide +kernel
theorem dX6_closes_0 : decode cX6_closes 0 = .ok (.iconst 1, 1) := by decide +kernel
theorem dX6_closes_1 : decode cX6_closes 1 = .ok (.istore_n 2, 1) := by decide +kernel
theorem dX6_closes_2 : decode cX6_closes 2 = .ok (.iload_n 2, 1) := by decide +kernel
theorem dX6_closes_3 : decode cX6_closes 3 = .ok (.iconst 4, 1) := by decide +kernel
theorem dX6_closes_4 : decode cX6_closes 4 = .ok (.if_icmp .ge 48, 3) := by decide +kernel
theorem dX6_closes_7 : decode cX6_closes 7 = .ok (.aload_n 0, 1) := by decide +kernel
theorem dX6_closes_8 : decode cX6_closes 8 = .ok (.iload_n 1, 1) := by decide +kernel
theorem dX6_closes_9 : decode cX6_closes 9 = .ok (.iload_n 2, 1) := by decide +kernel
theorem dX6_closes_10 : decode cX6_closes 10 = .ok (.iconst 0, 1) := by decide +kernel
theorem dX6_closes_11 : decode cX6_closes 11 = .ok (.invokevirtual 55, 3) := by decide +kernel
theorem dX6_closes_14 : decode cX6_closes 14 = .ok (.istore_n 3, 1) := by decide +kernel
theorem dX6_closes_15 : decode cX6_closes 15 = .ok (.iload_n 3, 1) := by decide +kernel
theorem dX6_closes_16 : decode cX6_closes 16 = .ok (.ifCond .le 14, 3) := by decide +kernel
theorem dX6_closes_19 : decode cX6_closes 19 = .ok (.aload_n 0, 1) := by decide +kernel
theorem dX6_closes_20 : decode cX6_closes 20 = .ok (.iload_n 1, 1) := by decide +kernel
theorem dX6_closes_21 : decode cX6_closes 21 = .ok (.iload_n 2, 1) := by decide +kernel
theorem dX6_closes_22 : decode cX6_closes 22 = .ok (.iconst 0, 1) := by decide +kernel
theorem dX6_closes_23 : decode cX6_closes 23 = .ok (.iload_n 3, 1) := by decide +kernel
theorem dX6_closes_24 : decode cX6_closes 24 = .ok (.invokevirtual 108, 3) := by decide +kernel
theorem dX6_closes_27 : decode cX6_closes 27 = .ok (.goto 4, 3) := by decide +kernel
theorem dX6_closes_30 : decode cX6_closes 30 = .ok (.iconst 0, 1) := by decide +kernel
theorem dX6_closes_31 : decode cX6_closes 31 = .ok (.istore 4, 2) := by decide +kernel
theorem dX6_closes_33 : decode cX6_closes 33 = .ok (.aload_n 0, 1) := by decide +kernel
theorem dX6_closes_34 : decode cX6_closes 34 = .ok (.getfield 7, 3) := by decide +kernel
theorem dX6_closes_37 : decode cX6_closes 37 = .ok (.iload_n 1, 1) := by decide +kernel
theorem dX6_closes_38 : decode cX6_closes 38 = .ok (.iload_n 2, 1) := by decide +kernel
theorem dX6_closes_39 : decode cX6_closes 39 = .ok (.invokestatic 45, 3) := by decide +kernel
theorem dX6_closes_42 : decode cX6_closes 42 = .ok (.iconst 2, 1) := by decide +kernel
theorem dX6_closes_43 : decode cX6_closes 43 = .ok (.iadd, 1) := by decide +kernel
theorem dX6_closes_44 : decode cX6_closes 44 = .ok (.iconst 0, 1) := by decide +kernel
theorem dX6_closes_45 : decode cX6_closes 45 = .ok (.iastore, 1) := by decide +kernel
theorem dX6_closes_46 : decode cX6_closes 46 = .ok (.iinc 2 1, 3) := by decide +kernel
theorem dX6_closes_49 : decode cX6_closes 49 = .ok (.goto (-47), 3) := by decide +kernel
theorem dX6_closes_52 : decode cX6_closes 52 = .ok (.aload_n 0, 1) := by decide +kernel
theorem dX6_closes_53 : decode cX6_closes 53 = .ok (.iload_n 1, 1) := by decide +kernel
theorem dX6_closes_54 : decode cX6_closes 54 = .ok (.iconst 0, 1) := by decide +kernel
theorem dX6_closes_55 : decode cX6_closes 55 = .ok (.iconst 0, 1) := by decide +kernel
theorem dX6_closes_56 : decode cX6_closes 56 = .ok (.invokevirtual 55, 3) := by decide +kernel
theorem dX6_closes_59 : decode cX6_closes 59 = .ok (.istore_n 2, 1) := by decide +kernel
theorem dX6_closes_60 : decode cX6_closes 60 = .ok (.aload_n 0, 1) := by decide +kernel
theorem dX6_closes_61 : decode cX6_closes 61 = .ok (.getfield 7, 3) := by decide +kernel
theorem dX6_closes_64 : decode cX6_closes 64 = .ok (.iload_n 1, 1) := by decide +kernel
theorem dX6_closes_65 : decode cX6_closes 65 = .ok (.iconst 0, 1) := by decide +kernel
theorem dX6_closes_66 : decode cX6_closes 66 = .ok (.invokestatic 45, 3) := by decide +kernel
theorem dX6_closes_69 : decode cX6_closes 69 = .ok (.iconst 0, 1) := by decide +kernel
theorem dX6_closes_70 : decode cX6_closes 70 = .ok (.iadd, 1) := by decide +kernel
theorem dX6_closes_71 : decode cX6_closes 71 = .ok (.iconst 0, 1) := by decide +kernel
theorem dX6_closes_72 : decode cX6_closes 72 = .ok (.iastore, 1) := by decide +kernel
theorem dX6_closes_73 : decode cX6_closes 73 = .ok (.aload_n 0, 1) := by decide +kernel
theorem dX6_closes_74 : decode cX6_closes 74 = .ok (.getfield 7, 3) := by decide +kernel
theorem dX6_closes_77 : decode cX6_closes 77 = .ok (.bipush 11, 2) := by decide +kernel
theorem dX6_closes_79 : decode cX6_closes 79 = .ok (.dup2, 1) := by decide +kernel
theorem dX6_closes_80 : decode cX6_closes 80 = .ok (.iaload, 1) := by decide +kernel
theorem dX6_closes_81 : decode cX6_closes 81 = .ok (.iload_n 2, 1) := by decide +kernel
theorem dX6_closes_82 : decode cX6_closes 82 = .ok (.iadd, 1) := by decide +kernel
theorem dX6_closes_83 : decode cX6_closes 83 = .ok (.iastore, 1) := by decide +kernel
theorem dX6_closes_84 : decode cX6_closes 84 = .ok (.iload_n 2, 1) := by decide +kernel
theorem dX6_closes_85 : decode cX6_closes 85 = .ok (.ireturn, 1) := by decide +kernel
theorem dX6_close_0 : decode cX6_close 0 = .ok (.aload_n 0, 1) := by decide +kernel
theorem dX6_close_1 : decode cX6_close 1 = .ok (.iload_n 1, 1) := by decide +kernel
theorem dX6_close_2 : decode cX6_close 2 = .ok (.invokestatic 33, 3) := by decide +kernel
theorem dX6_close_5 : decode cX6_close 5 = .ok (.ifCond .ne 7, 3) := by decide +kernel
theorem dX6_close_8 : decode cX6_close 8 = .ok (.iconst 1, 1) := by decide +kernel
theorem dX6_close_9 : decode cX6_close 9 = .ok (.goto 16, 3) := by decide +kernel
theorem dX6_close_12 : decode cX6_close 12 = .ok (.aload_n 0, 1) := by decide +kernel
theorem dX6_close_13 : decode cX6_close 13 = .ok (.iload_n 1, 1) := by decide +kernel
theorem dX6_close_14 : decode cX6_close 14 = .ok (.invokevirtual 148, 3) := by decide +kernel
theorem dX6_close_17 : decode cX6_close 17 = .ok (.ifCond .ne 7, 3) := by decide +kernel
theorem dX6_close_20 : decode cX6_close 20 = .ok (.iconst 0, 1) := by decide +kernel
theorem dX6_close_21 : decode cX6_close 21 = .ok (.goto 4, 3) := by decide +kernel
theorem dX6_close_24 : decode cX6_close 24 = .ok (.iconst 2, 1) := by decide +kernel
theorem dX6_close_25 : decode cX6_close 25 = .ok (.putfield 22, 3) := by decide +kernel
theorem dX6_close_28 : decode cX6_close 28 = .ok (.aload_n 0, 1) := by decide +kernel
theorem dX6_close_29 : decode cX6_close 29 = .ok (.getfield 22, 3) := by decide +kernel
theorem dX6_close_32 : decode cX6_close 32 = .ok (.ifCond .le 5, 3) := by decide +kernel
theorem dX6_close_35 : decode cX6_close 35 = .ok (.iconst 0, 1) := by decide +kernel
theorem dX6_close_36 : decode cX6_close 36 = .ok (.ireturn, 1) := by decide +kernel
theorem dX6_close_37 : decode cX6_close 37 = .ok (.aload_n 0, 1) := by decide +kernel
theorem dX6_close_38 : decode cX6_close 38 = .ok (.invokevirtual 68, 3) := by decide +kernel
theorem dX6_close_41 : decode cX6_close 41 = .ok (.aload_n 0, 1) := by decide +kernel
theorem dX6_close_42 : decode cX6_close 42 = .ok (.iload_n 1, 1) := by decide +kernel
theorem dX6_close_43 : decode cX6_close 43 = .ok (.invokevirtual 151, 3) := by decide +kernel
theorem dX6_close_46 : decode cX6_close 46 = .ok (.ireturn, 1) := by decide +kernel
theorem dX6_dayPasses_0 : decode cX6_dayPasses 0 = .ok (.aload_n 0, 1) := by decide +kernel
theorem dX6_dayPasses_1 : decode cX6_dayPasses 1 = .ok (.getfield 7, 3) := by decide +kernel
theorem dX6_dayPasses_4 : decode cX6_dayPasses 4 = .ok (.iconst 4, 1) := by decide +kernel
theorem dX6_dayPasses_5 : decode cX6_dayPasses 5 = .ok (.dup2, 1) := by decide +kernel
theorem dX6_dayPasses_6 : decode cX6_dayPasses 6 = .ok (.iaload, 1) := by decide +kernel
theorem dX6_dayPasses_7 : decode cX6_dayPasses 7 = .ok (.iconst 1, 1) := by decide +kernel
theorem dX6_dayPasses_8 : decode cX6_dayPasses 8 = .ok (.iadd, 1) := by decide +kernel
theorem dX6_dayPasses_9 : decode cX6_dayPasses 9 = .ok (.iastore, 1) := by decide +kernel
theorem dX6_dayPasses_10 : decode cX6_dayPasses 10 = .ok (.iconst 0, 1) := by decide +kernel
theorem dX6_dayPasses_11 : decode cX6_dayPasses 11 = .ok (.istore_n 1, 1) := by decide +kernel
theorem dX6_dayPasses_12 : decode cX6_dayPasses 12 = .ok (.aload_n 0, 1) := by decide +kernel
theorem dX6_dayPasses_13 : decode cX6_dayPasses 13 = .ok (.getfield 7, 3) := by decide +kernel
theorem dX6_dayPasses_16 : decode cX6_dayPasses 16 = .ok (.bipush 8, 2) := by decide +kernel
theorem dX6_dayPasses_18 : decode cX6_dayPasses 18 = .ok (.iaload, 1) := by decide +kernel
theorem dX6_dayPasses_19 : decode cX6_dayPasses 19 = .ok (.iconst 1, 1) := by decide +kernel
theorem dX6_dayPasses_20 : decode cX6_dayPasses 20 = .ok (.isub, 1) := by decide +kernel
theorem dX6_dayPasses_21 : decode cX6_dayPasses 21 = .ok (.istore_n 2, 1) := by decide +kernel
theorem dX6_dayPasses_22 : decode cX6_dayPasses 22 = .ok (.iload_n 2, 1) := by decide +kernel
theorem dX6_dayPasses_23 : decode cX6_dayPasses 23 = .ok (.ifCond .lt 39, 3) := by decide +kernel
theorem dX6_dayPasses_26 : decode cX6_dayPasses 26 = .ok (.aload_n 0, 1) := by decide +kernel
theorem dX6_dayPasses_27 : decode cX6_dayPasses 27 = .ok (.getfield 7, 3) := by decide +kernel
theorem dX6_dayPasses_30 : decode cX6_dayPasses 30 = .ok (.iconst 4, 1) := by decide +kernel
theorem dX6_dayPasses_31 : decode cX6_dayPasses 31 = .ok (.iaload, 1) := by decide +kernel
theorem dX6_dayPasses_32 : decode cX6_dayPasses 32 = .ok (.aload_n 0, 1) := by decide +kernel
theorem dX6_dayPasses_33 : decode cX6_dayPasses 33 = .ok (.iload_n 2, 1) := by decide +kernel
theorem dX6_dayPasses_34 : decode cX6_dayPasses 34 = .ok (.iconst 4, 1) := by decide +kernel
theorem dX6_dayPasses_35 : decode cX6_dayPasses 35 = .ok (.invokevirtual 52, 3) := by decide +kernel
theorem dX6_dayPasses_38 : decode cX6_dayPasses 38 = .ok (.isub, 1) := by decide +kernel
theorem dX6_dayPasses_39 : decode cX6_dayPasses 39 = .ok (.aload_n 0, 1) := by decide +kernel
theorem dX6_dayPasses_40 : decode cX6_dayPasses 40 = .ok (.getfield 7, 3) := by decide +kernel
theorem dX6_dayPasses_43 : decode cX6_dayPasses 43 = .ok (.iconst 3, 1) := by decide +kernel
theorem dX6_dayPasses_44 : decode cX6_dayPasses 44 = .ok (.iaload, 1) := by decide +kernel
theorem dX6_dayPasses_45 : decode cX6_dayPasses 45 = .ok (.if_icmp .le 11, 3) := by decide +kernel
theorem dX6_dayPasses_48 : decode cX6_dayPasses 48 = .ok (.aload_n 0, 1) := by decide +kernel
theorem dX6_dayPasses_49 : decode cX6_dayPasses 49 = .ok (.iload_n 2, 1) := by decide +kernel
theorem dX6_dayPasses_50 : decode cX6_dayPasses 50 = .ok (.invokevirtual 123, 3) := by decide +kernel
theorem dX6_dayPasses_53 : decode cX6_dayPasses 53 = .ok (.iinc 1 1, 3) := by decide +kernel
theorem dX6_dayPasses_56 : decode cX6_dayPasses 56 = .ok (.iinc 2 (-1), 3) := by decide +kernel
theorem dX6_dayPasses_59 : decode cX6_dayPasses 59 = .ok (.goto (-37), 3) := by decide +kernel
theorem dX6_dayPasses_62 : decode cX6_dayPasses 62 = .ok (.iload_n 1, 1) := by decide +kernel
theorem dX6_dayPasses_63 : decode cX6_dayPasses 63 = .ok (.ireturn, 1) := by decide +kernel
theorem dX6_pass_0 : decode cX6_pass 0 = .ok (.aload_n 0, 1) := by decide +kernel
theorem dX6_pass_1 : decode cX6_pass 1 = .ok (.iload_n 1, 1) := by decide +kernel
theorem dX6_pass_2 : decode cX6_pass 2 = .ok (.iconst 1, 1) := by decide +kernel
theorem dX6_pass_3 : decode cX6_pass 3 = .ok (.bipush 60, 2) := by decide +kernel
theorem dX6_pass_5 : decode cX6_pass 5 = .ok (.invokestatic 29, 3) := by decide +kernel
theorem dX6_pass_8 : decode cX6_pass 8 = .ok (.ifCond .ne 7, 3) := by decide +kernel
theorem dX6_pass_11 : decode cX6_pass 11 = .ok (.iconst 1, 1) := by decide +kernel
theorem dX6_pass_12 : decode cX6_pass 12 = .ok (.goto 22, 3) := by decide +kernel
theorem dX6_pass_15 : decode cX6_pass 15 = .ok (.aload_n 0, 1) := by decide +kernel
theorem dX6_pass_16 : decode cX6_pass 16 = .ok (.getfield 7, 3) := by decide +kernel
theorem dX6_pass_19 : decode cX6_pass 19 = .ok (.iconst 4, 1) := by decide +kernel
theorem dX6_pass_20 : decode cX6_pass 20 = .ok (.iaload, 1) := by decide +kernel
theorem dX6_pass_21 : decode cX6_pass 21 = .ok (.iload_n 1, 1) := by decide +kernel
theorem dX6_pass_22 : decode cX6_pass 22 = .ok (.iadd, 1) := by decide +kernel
theorem dX6_pass_23 : decode cX6_pass 23 = .ok (.sipush 5000, 3) := by decide +kernel
theorem dX6_pass_26 : decode cX6_pass 26 = .ok (.if_icmp .le 7, 3) := by decide +kernel
theorem dX6_pass_29 : decode cX6_pass 29 = .ok (.iconst 2, 1) := by decide +kernel
end
section
theorem dX6_pass_30 : decode cX6_pass 30 = .ok (.goto 4, 3) := by decide +kernel
theorem dX6_pass_33 : decode cX6_pass 33 = .ok (.iconst 0, 1) := by decide +kernel
theorem dX6_pass_34 : decode cX6_pass 34 = .ok (.putfield 22, 3) := by decide +kernel
theorem dX6_pass_37 : decode cX6_pass 37 = .ok (.aload_n 0, 1) := by decide +kernel
theorem dX6_pass_38 : decode cX6_pass 38 = .ok (.getfield 22, 3) := by decide +kernel
theorem dX6_pass_41 : decode cX6_pass 41 = .ok (.ifCond .le 5, 3) := by decide +kernel
theorem dX6_pass_44 : decode cX6_pass 44 = .ok (.iconst 0, 1) := by decide +kernel
theorem dX6_pass_45 : decode cX6_pass 45 = .ok (.ireturn, 1) := by decide +kernel
theorem dX6_pass_46 : decode cX6_pass 46 = .ok (.aload_n 0, 1) := by decide +kernel
theorem dX6_pass_47 : decode cX6_pass 47 = .ok (.invokevirtual 68, 3) := by decide +kernel
theorem dX6_pass_50 : decode cX6_pass 50 = .ok (.iconst 0, 1) := by decide +kernel
theorem dX6_pass_51 : decode cX6_pass 51 = .ok (.istore_n 2, 1) := by decide +kernel
theorem dX6_pass_52 : decode cX6_pass 52 = .ok (.iconst 0, 1) := by decide +kernel
theorem dX6_pass_53 : decode cX6_pass 53 = .ok (.istore_n 3, 1) := by decide +kernel
theorem dX6_pass_54 : decode cX6_pass 54 = .ok (.iload_n 3, 1) := by decide +kernel
theorem dX6_pass_55 : decode cX6_pass 55 = .ok (.iload_n 1, 1) := by decide +kernel
theorem dX6_pass_56 : decode cX6_pass 56 = .ok (.if_icmp .ge 20, 3) := by decide +kernel
theorem dX6_pass_59 : decode cX6_pass 59 = .ok (.aload_n 0, 1) := by decide +kernel
theorem dX6_pass_60 : decode cX6_pass 60 = .ok (.invokevirtual 154, 3) := by decide +kernel
theorem dX6_pass_63 : decode cX6_pass 63 = .ok (.istore 4, 2) := by decide +kernel
theorem dX6_pass_65 : decode cX6_pass 65 = .ok (.iload_n 2, 1) := by decide +kernel
theorem dX6_pass_66 : decode cX6_pass 66 = .ok (.iload 4, 2) := by decide +kernel
theorem dX6_pass_68 : decode cX6_pass 68 = .ok (.iadd, 1) := by decide +kernel
theorem dX6_pass_69 : decode cX6_pass 69 = .ok (.istore_n 2, 1) := by decide +kernel
theorem dX6_pass_70 : decode cX6_pass 70 = .ok (.iinc 3 1, 3) := by decide +kernel
theorem dX6_pass_73 : decode cX6_pass 73 = .ok (.goto (-19), 3) := by decide +kernel
theorem dX6_pass_76 : decode cX6_pass 76 = .ok (.iload_n 2, 1) := by decide +kernel
theorem dX6_pass_77 : decode cX6_pass 77 = .ok (.ireturn, 1) := by decide +kernel
theorem dX6_isSetting_0 : decode cX6_isSetting 0 = .ok (.iload_n 0, 1) := by decide +kernel
theorem dX6_isSetting_1 : decode cX6_isSetting 1 = .ok (.iconst 0, 1) := by decide +kernel
theorem dX6_isSetting_2 : decode cX6_isSetting 2 = .ok (.iconst 3, 1) := by decide +kernel
theorem dX6_isSetting_3 : decode cX6_isSetting 3 = .ok (.invokestatic 29, 3) := by decide +kernel
theorem dX6_isSetting_6 : decode cX6_isSetting 6 = .ok (.ireturn, 1) := by decide +kernel
theorem dX6_greatest_0 : decode cX6_greatest 0 = .ok (.iload_n 0, 1) := by decide +kernel
theorem dX6_greatest_1 : decode cX6_greatest 1 = .ok (.iconst 1, 1) := by decide +kernel
theorem dX6_greatest_2 : decode cX6_greatest 2 = .ok (.if_icmp .ne 8, 3) := by decide +kernel
theorem dX6_greatest_5 : decode cX6_greatest 5 = .ok (.bipush 100, 2) := by decide +kernel
theorem dX6_greatest_7 : decode cX6_greatest 7 = .ok (.goto 15, 3) := by decide +kernel
theorem dX6_greatest_10 : decode cX6_greatest 10 = .ok (.iload_n 0, 1) := by decide +kernel
theorem dX6_greatest_11 : decode cX6_greatest 11 = .ok (.iconst 2, 1) := by decide +kernel
theorem dX6_greatest_12 : decode cX6_greatest 12 = .ok (.if_icmp .ne 8, 3) := by decide +kernel
theorem dX6_greatest_15 : decode cX6_greatest 15 = .ok (.bipush 50, 2) := by decide +kernel
theorem dX6_greatest_17 : decode cX6_greatest 17 = .ok (.goto 5, 3) := by decide +kernel
theorem dX6_greatest_20 : decode cX6_greatest 20 = .ok (.bipush 60, 2) := by decide +kernel
theorem dX6_greatest_22 : decode cX6_greatest 22 = .ok (.ireturn, 1) := by decide +kernel
theorem dX6_set_0 : decode cX6_set 0 = .ok (.aload_n 0, 1) := by decide +kernel
theorem dX6_set_1 : decode cX6_set 1 = .ok (.iload_n 1, 1) := by decide +kernel
theorem dX6_set_2 : decode cX6_set 2 = .ok (.invokestatic 158, 3) := by decide +kernel
theorem dX6_set_5 : decode cX6_set 5 = .ok (.ifCond .ne 7, 3) := by decide +kernel
theorem dX6_set_8 : decode cX6_set 8 = .ok (.iconst 1, 1) := by decide +kernel
theorem dX6_set_9 : decode cX6_set 9 = .ok (.goto 20, 3) := by decide +kernel
theorem dX6_set_12 : decode cX6_set 12 = .ok (.iload_n 2, 1) := by decide +kernel
theorem dX6_set_13 : decode cX6_set 13 = .ok (.iconst 0, 1) := by decide +kernel
theorem dX6_set_14 : decode cX6_set 14 = .ok (.iload_n 1, 1) := by decide +kernel
theorem dX6_set_15 : decode cX6_set 15 = .ok (.invokestatic 161, 3) := by decide +kernel
theorem dX6_set_18 : decode cX6_set 18 = .ok (.invokestatic 29, 3) := by decide +kernel
theorem dX6_set_21 : decode cX6_set 21 = .ok (.ifCond .eq 7, 3) := by decide +kernel
theorem dX6_set_24 : decode cX6_set 24 = .ok (.iconst 0, 1) := by decide +kernel
theorem dX6_set_25 : decode cX6_set 25 = .ok (.goto 4, 3) := by decide +kernel
theorem dX6_set_28 : decode cX6_set 28 = .ok (.iconst 2, 1) := by decide +kernel
theorem dX6_set_29 : decode cX6_set 29 = .ok (.putfield 22, 3) := by decide +kernel
theorem dX6_set_32 : decode cX6_set 32 = .ok (.aload_n 0, 1) := by decide +kernel
theorem dX6_set_33 : decode cX6_set 33 = .ok (.getfield 22, 3) := by decide +kernel
theorem dX6_set_36 : decode cX6_set 36 = .ok (.ifCond .le 5, 3) := by decide +kernel
theorem dX6_set_39 : decode cX6_set 39 = .ok (.iconst 0, 1) := by decide +kernel
theorem dX6_set_40 : decode cX6_set 40 = .ok (.ireturn, 1) := by decide +kernel
theorem dX6_set_41 : decode cX6_set 41 = .ok (.aload_n 0, 1) := by decide +kernel
theorem dX6_set_42 : decode cX6_set 42 = .ok (.invokevirtual 68, 3) := by decide +kernel
theorem dX6_set_45 : decode cX6_set 45 = .ok (.aload_n 0, 1) := by decide +kernel
theorem dX6_set_46 : decode cX6_set 46 = .ok (.getfield 7, 3) := by decide +kernel
theorem dX6_set_49 : decode cX6_set 49 = .ok (.iload_n 1, 1) := by decide +kernel
theorem dX6_set_50 : decode cX6_set 50 = .ok (.iaload, 1) := by decide +kernel
theorem dX6_set_51 : decode cX6_set 51 = .ok (.istore_n 3, 1) := by decide +kernel
theorem dX6_set_52 : decode cX6_set 52 = .ok (.aload_n 0, 1) := by decide +kernel
theorem dX6_set_53 : decode cX6_set 53 = .ok (.getfield 7, 3) := by decide +kernel
theorem dX6_set_56 : decode cX6_set 56 = .ok (.iload_n 1, 1) := by decide +kernel
theorem dX6_set_57 : decode cX6_set 57 = .ok (.iload_n 2, 1) := by decide +kernel
theorem dX6_set_58 : decode cX6_set 58 = .ok (.iastore, 1) := by decide +kernel
theorem dX6_set_59 : decode cX6_set 59 = .ok (.iload_n 3, 1) := by decide +kernel
theorem dX6_set_60 : decode cX6_set 60 = .ok (.ireturn, 1) := by decide +kernel
theorem dX6_append_0 : decode cX6_append 0 = .ok (.aload_n 0, 1) := by decide +kernel
theorem dX6_append_1 : decode cX6_append 1 = .ok (.iload_n 1, 1) := by decide +kernel
theorem dX6_append_2 : decode cX6_append 2 = .ok (.bipush 33, 2) := by decide +kernel
theorem dX6_append_4 : decode cX6_append 4 = .ok (.bipush 126, 2) := by decide +kernel
theorem dX6_append_6 : decode cX6_append 6 = .ok (.invokestatic 29, 3) := by decide +kernel
theorem dX6_append_9 : decode cX6_append 9 = .ok (.ifCond .ne 7, 3) := by decide +kernel
theorem dX6_append_12 : decode cX6_append 12 = .ok (.iconst 1, 1) := by decide +kernel
theorem dX6_append_13 : decode cX6_append 13 = .ok (.goto 17, 3) := by decide +kernel
theorem dX6_append_16 : decode cX6_append 16 = .ok (.aload_n 0, 1) := by decide +kernel
theorem dX6_append_17 : decode cX6_append 17 = .ok (.getfield 164, 3) := by decide +kernel
theorem dX6_append_20 : decode cX6_append 20 = .ok (.bipush 60, 2) := by decide +kernel
theorem dX6_append_22 : decode cX6_append 22 = .ok (.if_icmp .ne 7, 3) := by decide +kernel
theorem dX6_append_25 : decode cX6_append 25 = .ok (.iconst 2, 1) := by decide +kernel
theorem dX6_append_26 : decode cX6_append 26 = .ok (.goto 4, 3) := by decide +kernel
theorem dX6_append_29 : decode cX6_append 29 = .ok (.iconst 0, 1) := by decide +kernel
theorem dX6_append_30 : decode cX6_append 30 = .ok (.putfield 22, 3) := by decide +kernel
theorem dX6_append_33 : decode cX6_append 33 = .ok (.aload_n 0, 1) := by decide +kernel
theorem dX6_append_34 : decode cX6_append 34 = .ok (.getfield 22, 3) := by decide +kernel
theorem dX6_append_37 : decode cX6_append 37 = .ok (.ifCond .le 5, 3) := by decide +kernel
theorem dX6_append_40 : decode cX6_append 40 = .ok (.iconst 0, 1) := by decide +kernel
theorem dX6_append_41 : decode cX6_append 41 = .ok (.ireturn, 1) := by decide +kernel
theorem dX6_append_42 : decode cX6_append 42 = .ok (.aload_n 0, 1) := by decide +kernel
theorem dX6_append_43 : decode cX6_append 43 = .ok (.getfield 16, 3) := by decide +kernel
theorem dX6_append_46 : decode cX6_append 46 = .ok (.aload_n 0, 1) := by decide +kernel
theorem dX6_append_47 : decode cX6_append 47 = .ok (.getfield 164, 3) := by decide +kernel
theorem dX6_append_50 : decode cX6_append 50 = .ok (.iload_n 1, 1) := by decide +kernel
theorem dX6_append_51 : decode cX6_append 51 = .ok (.iastore, 1) := by decide +kernel
theorem dX6_append_52 : decode cX6_append 52 = .ok (.aload_n 0, 1) := by decide +kernel
theorem dX6_append_53 : decode cX6_append 53 = .ok (.dup, 1) := by decide +kernel
theorem dX6_append_54 : decode cX6_append 54 = .ok (.getfield 164, 3) := by decide +kernel
theorem dX6_append_57 : decode cX6_append 57 = .ok (.iconst 1, 1) := by decide +kernel
theorem dX6_append_58 : decode cX6_append 58 = .ok (.iadd, 1) := by decide +kernel
theorem dX6_append_59 : decode cX6_append 59 = .ok (.putfield 164, 3) := by decide +kernel
theorem dX6_append_62 : decode cX6_append 62 = .ok (.aload_n 0, 1) := by decide +kernel
theorem dX6_append_63 : decode cX6_append 63 = .ok (.getfield 164, 3) := by decide +kernel
theorem dX6_append_66 : decode cX6_append 66 = .ok (.ireturn, 1) := by decide +kernel
theorem dX6_clearBuffer_0 : decode cX6_clearBuffer 0 = .ok (.aload_n 0, 1) := by decide +kernel
theorem dX6_clearBuffer_1 : decode cX6_clearBuffer 1 = .ok (.iconst 0, 1) := by decide +kernel
theorem dX6_clearBuffer_2 : decode cX6_clearBuffer 2 = .ok (.putfield 22, 3) := by decide +kernel
theorem dX6_clearBuffer_5 : decode cX6_clearBuffer 5 = .ok (.aload_n 0, 1) := by decide +kernel
theorem dX6_clearBuffer_6 : decode cX6_clearBuffer 6 = .ok (.getfield 164, 3) := by decide +kernel
theorem dX6_clearBuffer_9 : decode cX6_clearBuffer 9 = .ok (.istore_n 1, 1) := by decide +kernel
theorem dX6_clearBuffer_10 : decode cX6_clearBuffer 10 = .ok (.aload_n 0, 1) := by decide +kernel
theorem dX6_clearBuffer_11 : decode cX6_clearBuffer 11 = .ok (.iconst 0, 1) := by decide +kernel
theorem dX6_clearBuffer_12 : decode cX6_clearBuffer 12 = .ok (.putfield 164, 3) := by decide +kernel
theorem dX6_clearBuffer_15 : decode cX6_clearBuffer 15 = .ok (.iload_n 1, 1) := by decide +kernel
theorem dX6_clearBuffer_16 : decode cX6_clearBuffer 16 = .ok (.ireturn, 1) := by decide +kernel
theorem dX6_takesPlace_0 : decode cX6_takesPlace 0 = .ok (.aload_n 0, 1) := by decide +kernel
theorem dX6_takesPlace_1 : decode cX6_takesPlace 1 = .ok (.getfield 19, 3) := by decide +kernel
theorem dX6_takesPlace_4 : decode cX6_takesPlace 4 = .ok (.iconst 5, 1) := by decide +kernel
theorem dX6_takesPlace_5 : decode cX6_takesPlace 5 = .ok (.aload_n 0, 1) := by decide +kernel
theorem dX6_takesPlace_6 : decode cX6_takesPlace 6 = .ok (.getfield 167, 3) := by decide +kernel
theorem dX6_takesPlace_9 : decode cX6_takesPlace 9 = .ok (.imul, 1) := by decide +kernel
theorem dX6_takesPlace_10 : decode cX6_takesPlace 10 = .ok (.iaload, 1) := by decide +kernel
theorem dX6_takesPlace_11 : decode cX6_takesPlace 11 = .ok (.istore_n 2, 1) := by decide +kernel
theorem dX6_takesPlace_12 : decode cX6_takesPlace 12 = .ok (.iload_n 2, 1) := by decide +kernel
theorem dX6_takesPlace_13 : decode cX6_takesPlace 13 = .ok (.bipush 108, 2) := by decide +kernel
theorem dX6_takesPlace_15 : decode cX6_takesPlace 15 = .ok (.if_icmp .ne 19, 3) := by decide +kernel
theorem dX6_takesPlace_18 : decode cX6_takesPlace 18 = .ok (.aload_n 0, 1) := by decide +kernel
theorem dX6_takesPlace_19 : decode cX6_takesPlace 19 = .ok (.getfield 170, 3) := by decide +kernel
theorem dX6_takesPlace_22 : decode cX6_takesPlace 22 = .ok (.iconst 1, 1) := by decide +kernel
theorem dX6_takesPlace_23 : decode cX6_takesPlace 23 = .ok (.if_icmp .ne 7, 3) := by decide +kernel
theorem dX6_takesPlace_26 : decode cX6_takesPlace 26 = .ok (.iconst 1, 1) := by decide +kernel
theorem dX6_takesPlace_27 : decode cX6_takesPlace 27 = .ok (.goto 42, 3) := by decide +kernel
theorem dX6_takesPlace_30 : decode cX6_takesPlace 30 = .ok (.iconst 0, 1) := by decide +kernel
theorem dX6_takesPlace_31 : decode cX6_takesPlace 31 = .ok (.goto 38, 3) := by decide +kernel
theorem dX6_takesPlace_34 : decode cX6_takesPlace 34 = .ok (.iload_n 2, 1) := by decide +kernel
theorem dX6_takesPlace_35 : decode cX6_takesPlace 35 = .ok (.bipush 104, 2) := by decide +kernel
theorem dX6_takesPlace_37 : decode cX6_takesPlace 37 = .ok (.if_icmp .ne 19, 3) := by decide +kernel
theorem dX6_takesPlace_40 : decode cX6_takesPlace 40 = .ok (.aload_n 0, 1) := by decide +kernel
theorem dX6_takesPlace_41 : decode cX6_takesPlace 41 = .ok (.getfield 170, 3) := by decide +kernel
theorem dX6_takesPlace_44 : decode cX6_takesPlace 44 = .ok (.iconst 2, 1) := by decide +kernel
theorem dX6_takesPlace_45 : decode cX6_takesPlace 45 = .ok (.if_icmp .ne 7, 3) := by decide +kernel
theorem dX6_takesPlace_48 : decode cX6_takesPlace 48 = .ok (.iconst 1, 1) := by decide +kernel
theorem dX6_takesPlace_49 : decode cX6_takesPlace 49 = .ok (.goto 20, 3) := by decide +kernel
theorem dX6_takesPlace_52 : decode cX6_takesPlace 52 = .ok (.iconst 0, 1) := by decide +kernel
theorem dX6_takesPlace_53 : decode cX6_takesPlace 53 = .ok (.goto 16, 3) := by decide +kernel
theorem dX6_takesPlace_56 : decode cX6_takesPlace 56 = .ok (.aload_n 0, 1) := by decide +kernel
theorem dX6_takesPlace_57 : decode cX6_takesPlace 57 = .ok (.getfield 170, 3) := by decide +kernel
theorem dX6_takesPlace_60 : decode cX6_takesPlace 60 = .ok (.iconst 3, 1) := by decide +kernel
theorem dX6_takesPlace_61 : decode cX6_takesPlace 61 = .ok (.if_icmp .ne 7, 3) := by decide +kernel
theorem dX6_takesPlace_64 : decode cX6_takesPlace 64 = .ok (.iconst 1, 1) := by decide +kernel
theorem dX6_takesPlace_65 : decode cX6_takesPlace 65 = .ok (.goto 4, 3) := by decide +kernel
theorem dX6_takesPlace_68 : decode cX6_takesPlace 68 = .ok (.iconst 0, 1) := by decide +kernel
theorem dX6_takesPlace_69 : decode cX6_takesPlace 69 = .ok (.istore_n 3, 1) := by decide +kernel
theorem dX6_takesPlace_70 : decode cX6_takesPlace 70 = .ok (.aload_n 0, 1) := by decide +kernel
theorem dX6_takesPlace_71 : decode cX6_takesPlace 71 = .ok (.getfield 19, 3) := by decide +kernel
theorem dX6_takesPlace_74 : decode cX6_takesPlace 74 = .ok (.iconst 5, 1) := by decide +kernel
theorem dX6_takesPlace_75 : decode cX6_takesPlace 75 = .ok (.aload_n 0, 1) := by decide +kernel
theorem dX6_takesPlace_76 : decode cX6_takesPlace 76 = .ok (.getfield 167, 3) := by decide +kernel
theorem dX6_takesPlace_79 : decode cX6_takesPlace 79 = .ok (.imul, 1) := by decide +kernel
theorem dX6_takesPlace_80 : decode cX6_takesPlace 80 = .ok (.aload_n 0, 1) := by decide +kernel
theorem dX6_takesPlace_81 : decode cX6_takesPlace 81 = .ok (.getfield 170, 3) := by decide +kernel
theorem dX6_takesPlace_84 : decode cX6_takesPlace 84 = .ok (.iadd, 1) := by decide +kernel
theorem dX6_takesPlace_85 : decode cX6_takesPlace 85 = .ok (.iload_n 1, 1) := by decide +kernel
theorem dX6_takesPlace_86 : decode cX6_takesPlace 86 = .ok (.bipush 48, 2) := by decide +kernel
theorem dX6_takesPlace_88 : decode cX6_takesPlace 88 = .ok (.isub, 1) := by decide +kernel
theorem dX6_takesPlace_89 : decode cX6_takesPlace 89 = .ok (.iastore, 1) := by decide +kernel
theorem dX6_takesPlace_90 : decode cX6_takesPlace 90 = .ok (.aload_n 0, 1) := by decide +kernel
theorem dX6_takesPlace_91 : decode cX6_takesPlace 91 = .ok (.iload_n 3, 1) := by decide +kernel
theorem dX6_takesPlace_92 : decode cX6_takesPlace 92 = .ok (.ifCond .eq 7, 3) := by decide +kernel
theorem dX6_takesPlace_95 : decode cX6_takesPlace 95 = .ok (.iconst 4, 1) := by decide +kernel
theorem dX6_takesPlace_96 : decode cX6_takesPlace 96 = .ok (.goto 9, 3) := by decide +kernel
theorem dX6_takesPlace_99 : decode cX6_takesPlace 99 = .ok (.aload_n 0, 1) := by decide +kernel
theorem dX6_takesPlace_100 : decode cX6_takesPlace 100 = .ok (.getfield 170, 3) := by decide +kernel
theorem dX6_takesPlace_103 : decode cX6_takesPlace 103 = .ok (.iconst 1, 1) := by decide +kernel
theorem dX6_takesPlace_104 : decode cX6_takesPlace 104 = .ok (.iadd, 1) := by decide +kernel
theorem dX6_takesPlace_105 : decode cX6_takesPlace 105 = .ok (.putfield 170, 3) := by decide +kernel
theorem dX6_takesPlace_108 : decode cX6_takesPlace 108 = .ok (.iload_n 1, 1) := by decide +kernel
theorem dX6_takesPlace_109 : decode cX6_takesPlace 109 = .ok (.bipush 48, 2) := by decide +kernel
theorem dX6_takesPlace_111 : decode cX6_takesPlace 111 = .ok (.bipush 51, 2) := by decide +kernel
theorem dX6_takesPlace_113 : decode cX6_takesPlace 113 = .ok (.invokestatic 29, 3) := by decide +kernel
theorem dX6_takesPlace_116 : decode cX6_takesPlace 116 = .ok (.ireturn, 1) := by decide +kernel
theorem dX6_takesDigit_0 : decode cX6_takesDigit 0 = .ok (.aload_n 0, 1) := by decide +kernel
theorem dX6_takesDigit_1 : decode cX6_takesDigit 1 = .ok (.getfield 173, 3) := by decide +kernel
theorem dX6_takesDigit_4 : decode cX6_takesDigit 4 = .ok (.iconst (-1), 1) := by decide +kernel
theorem dX6_takesDigit_5 : decode cX6_takesDigit 5 = .ok (.if_icmp .ne 7, 3) := by decide +kernel
theorem dX6_takesDigit_8 : decode cX6_takesDigit 8 = .ok (.iload_n 1, 1) := by decide +kernel
theorem dX6_takesDigit_9 : decode cX6_takesDigit 9 = .ok (.goto 12, 3) := by decide +kernel
theorem dX6_takesDigit_12 : decode cX6_takesDigit 12 = .ok (.bipush 10, 2) := by decide +kernel
theorem dX6_takesDigit_14 : decode cX6_takesDigit 14 = .ok (.aload_n 0, 1) := by decide +kernel
theorem dX6_takesDigit_15 : decode cX6_takesDigit 15 = .ok (.getfield 173, 3) := by decide +kernel
theorem dX6_takesDigit_18 : decode cX6_takesDigit 18 = .ok (.imul, 1) := by decide +kernel
theorem dX6_takesDigit_19 : decode cX6_takesDigit 19 = .ok (.iload_n 1, 1) := by decide +kernel
theorem dX6_takesDigit_20 : decode cX6_takesDigit 20 = .ok (.iadd, 1) := by decide +kernel
theorem dX6_takesDigit_21 : decode cX6_takesDigit 21 = .ok (.istore_n 2, 1) := by decide +kernel
theorem dX6_takesDigit_22 : decode cX6_takesDigit 22 = .ok (.iload_n 1, 1) := by decide +kernel
theorem dX6_takesDigit_23 : decode cX6_takesDigit 23 = .ok (.iconst 0, 1) := by decide +kernel
theorem dX6_takesDigit_24 : decode cX6_takesDigit 24 = .ok (.bipush 9, 2) := by decide +kernel
theorem dX6_takesDigit_26 : decode cX6_takesDigit 26 = .ok (.invokestatic 29, 3) := by decide +kernel
theorem dX6_takesDigit_29 : decode cX6_takesDigit 29 = .ok (.ifCond .eq 14, 3) := by decide +kernel
theorem dX6_takesDigit_32 : decode cX6_takesDigit 32 = .ok (.iload_n 2, 1) := by decide +kernel
theorem dX6_takesDigit_33 : decode cX6_takesDigit 33 = .ok (.invokestatic 62, 3) := by decide +kernel
theorem dX6_takesDigit_36 : decode cX6_takesDigit 36 = .ok (.ifCond .eq 7, 3) := by decide +kernel
theorem dX6_takesDigit_39 : decode cX6_takesDigit 39 = .ok (.iconst 1, 1) := by decide +kernel
theorem dX6_takesDigit_40 : decode cX6_takesDigit 40 = .ok (.goto 4, 3) := by decide +kernel
theorem dX6_takesDigit_43 : decode cX6_takesDigit 43 = .ok (.iconst 0, 1) := by decide +kernel
theorem dX6_takesDigit_44 : decode cX6_takesDigit 44 = .ok (.istore_n 3, 1) := by decide +kernel
theorem dX6_takesDigit_45 : decode cX6_takesDigit 45 = .ok (.aload_n 0, 1) := by decide +kernel
theorem dX6_takesDigit_46 : decode cX6_takesDigit 46 = .ok (.iload_n 3, 1) := by decide +kernel
theorem dX6_takesDigit_47 : decode cX6_takesDigit 47 = .ok (.ifCond .eq 7, 3) := by decide +kernel
theorem dX6_takesDigit_50 : decode cX6_takesDigit 50 = .ok (.iload_n 2, 1) := by decide +kernel
theorem dX6_takesDigit_51 : decode cX6_takesDigit 51 = .ok (.goto 7, 3) := by decide +kernel
theorem dX6_takesDigit_54 : decode cX6_takesDigit 54 = .ok (.aload_n 0, 1) := by decide +kernel
theorem dX6_takesDigit_55 : decode cX6_takesDigit 55 = .ok (.getfield 173, 3) := by decide +kernel
theorem dX6_takesDigit_58 : decode cX6_takesDigit 58 = .ok (.putfield 173, 3) := by decide +kernel
theorem dX6_takesDigit_61 : decode cX6_takesDigit 61 = .ok (.aload_n 0, 1) := by decide +kernel
theorem dX6_takesDigit_62 : decode cX6_takesDigit 62 = .ok (.getfield 19, 3) := by decide +kernel
theorem dX6_takesDigit_65 : decode cX6_takesDigit 65 = .ok (.iconst 5, 1) := by decide +kernel
theorem dX6_takesDigit_66 : decode cX6_takesDigit 66 = .ok (.aload_n 0, 1) := by decide +kernel
theorem dX6_takesDigit_67 : decode cX6_takesDigit 67 = .ok (.getfield 167, 3) := by decide +kernel
theorem dX6_takesDigit_70 : decode cX6_takesDigit 70 = .ok (.imul, 1) := by decide +kernel
theorem dX6_takesDigit_71 : decode cX6_takesDigit 71 = .ok (.iconst 4, 1) := by decide +kernel
theorem dX6_takesDigit_72 : decode cX6_takesDigit 72 = .ok (.iadd, 1) := by decide +kernel
theorem dX6_takesDigit_73 : decode cX6_takesDigit 73 = .ok (.aload_n 0, 1) := by decide +kernel
theorem dX6_takesDigit_74 : decode cX6_takesDigit 74 = .ok (.getfield 173, 3) := by decide +kernel
theorem dX6_takesDigit_77 : decode cX6_takesDigit 77 = .ok (.iastore, 1) := by decide +kernel
theorem dX6_takesDigit_78 : decode cX6_takesDigit 78 = .ok (.iload_n 3, 1) := by decide +kernel
theorem dX6_takesDigit_79 : decode cX6_takesDigit 79 = .ok (.ireturn, 1) := by decide +kernel
theorem dX6_takes_0 : decode cX6_takes 0 = .ok (.aload_n 0, 1) := by decide +kernel
theorem dX6_takes_1 : decode cX6_takes 1 = .ok (.getfield 170, 3) := by decide +kernel
theorem dX6_takes_4 : decode cX6_takes 4 = .ok (.lookupswitch 123 #[(0, 36), (4, 82), (5, 120)], 36) := by decide +kernel
theorem dX6_takes_40 : decode cX6_takes 40 = .ok (.aload_n 0, 1) := by decide +kernel
theorem dX6_takes_41 : decode cX6_takes 41 = .ok (.getfield 19, 3) := by decide +kernel
theorem dX6_takes_44 : decode cX6_takes 44 = .ok (.iconst 5, 1) := by decide +kernel
theorem dX6_takes_45 : decode cX6_takes 45 = .ok (.aload_n 0, 1) := by decide +kernel
theorem dX6_takes_46 : decode cX6_takes 46 = .ok (.getfield 167, 3) := by decide +kernel
theorem dX6_takes_49 : decode cX6_takes 49 = .ok (.imul, 1) := by decide +kernel
theorem dX6_takes_50 : decode cX6_takes 50 = .ok (.iload_n 1, 1) := by decide +kernel
theorem dX6_takes_51 : decode cX6_takes 51 = .ok (.iastore, 1) := by decide +kernel
theorem dX6_takes_52 : decode cX6_takes 52 = .ok (.aload_n 0, 1) := by decide +kernel
theorem dX6_takes_53 : decode cX6_takes 53 = .ok (.iconst (-1), 1) := by decide +kernel
theorem dX6_takes_54 : decode cX6_takes 54 = .ok (.putfield 173, 3) := by decide +kernel
theorem dX6_takes_57 : decode cX6_takes 57 = .ok (.aload_n 0, 1) := by decide +kernel
theorem dX6_takes_58 : decode cX6_takes 58 = .ok (.iconst 1, 1) := by decide +kernel
theorem dX6_takes_59 : decode cX6_takes 59 = .ok (.putfield 170, 3) := by decide +kernel
theorem dX6_takes_62 : decode cX6_takes 62 = .ok (.iload_n 1, 1) := by decide +kernel
theorem dX6_takes_63 : decode cX6_takes 63 = .ok (.bipush 108, 2) := by decide +kernel
theorem dX6_takes_65 : decode cX6_takes 65 = .ok (.if_icmp .eq 15, 3) := by decide +kernel
theorem dX6_takes_68 : decode cX6_takes 68 = .ok (.iload_n 1, 1) := by decide +kernel
theorem dX6_takes_69 : decode cX6_takes 69 = .ok (.bipush 120, 2) := by decide +kernel
theorem dX6_takes_71 : decode cX6_takes 71 = .ok (.if_icmp .eq 9, 3) := by decide +kernel
theorem dX6_takes_74 : decode cX6_takes 74 = .ok (.iload_n 1, 1) := by decide +kernel
theorem dX6_takes_75 : decode cX6_takes 75 = .ok (.bipush 104, 2) := by decide +kernel
theorem dX6_takes_77 : decode cX6_takes 77 = .ok (.if_icmp .ne 7, 3) := by decide +kernel
theorem dX6_takes_80 : decode cX6_takes 80 = .ok (.iconst 1, 1) := by decide +kernel
theorem dX6_takes_81 : decode cX6_takes 81 = .ok (.goto 4, 3) := by decide +kernel
theorem dX6_takes_84 : decode cX6_takes 84 = .ok (.iconst 0, 1) := by decide +kernel
theorem dX6_takes_85 : decode cX6_takes 85 = .ok (.ireturn, 1) := by decide +kernel
theorem dX6_takes_86 : decode cX6_takes 86 = .ok (.aload_n 0, 1) := by decide +kernel
theorem dX6_takes_87 : decode cX6_takes 87 = .ok (.iconst 5, 1) := by decide +kernel
theorem dX6_takes_88 : decode cX6_takes 88 = .ok (.putfield 170, 3) := by decide +kernel
theorem dX6_takes_91 : decode cX6_takes 91 = .ok (.iload_n 1, 1) := by decide +kernel
theorem dX6_takes_92 : decode cX6_takes 92 = .ok (.aload_n 0, 1) := by decide +kernel
theorem dX6_takes_93 : decode cX6_takes 93 = .ok (.getfield 19, 3) := by decide +kernel
theorem dX6_takes_96 : decode cX6_takes 96 = .ok (.iconst 5, 1) := by decide +kernel
theorem dX6_takes_97 : decode cX6_takes 97 = .ok (.aload_n 0, 1) := by decide +kernel
theorem dX6_takes_98 : decode cX6_takes 98 = .ok (.getfield 167, 3) := by decide +kernel
theorem dX6_takes_101 : decode cX6_takes 101 = .ok (.imul, 1) := by decide +kernel
theorem dX6_takes_102 : decode cX6_takes 102 = .ok (.iaload, 1) := by decide +kernel
theorem dX6_takes_103 : decode cX6_takes 103 = .ok (.bipush 108, 2) := by decide +kernel
theorem dX6_takes_105 : decode cX6_takes 105 = .ok (.if_icmp .ne 8, 3) := by decide +kernel
theorem dX6_takes_108 : decode cX6_takes 108 = .ok (.bipush 43, 2) := by decide +kernel
theorem dX6_takes_110 : decode cX6_takes 110 = .ok (.goto 5, 3) := by decide +kernel
theorem dX6_takes_113 : decode cX6_takes 113 = .ok (.bipush 58, 2) := by decide +kernel
theorem dX6_takes_115 : decode cX6_takes 115 = .ok (.if_icmp .ne 7, 3) := by decide +kernel
theorem dX6_takes_118 : decode cX6_takes 118 = .ok (.iconst 1, 1) := by decide +kernel
theorem dX6_takes_119 : decode cX6_takes 119 = .ok (.goto 4, 3) := by decide +kernel
theorem dX6_takes_122 : decode cX6_takes 122 = .ok (.iconst 0, 1) := by decide +kernel
theorem dX6_takes_123 : decode cX6_takes 123 = .ok (.ireturn, 1) := by decide +kernel
theorem dX6_takes_124 : decode cX6_takes 124 = .ok (.goto 9, 3) := by decide +kernel
theorem dX6_takes_127 : decode cX6_takes 127 = .ok (.aload_n 0, 1) := by decide +kernel
theorem dX6_takes_128 : decode cX6_takes 128 = .ok (.iload_n 1, 1) := by decide +kernel
theorem dX6_takes_129 : decode cX6_takes 129 = .ok (.invokevirtual 176, 3) := by decide +kernel
theorem dX6_takes_132 : decode cX6_takes 132 = .ok (.ireturn, 1) := by decide +kernel
theorem dX6_takes_133 : decode cX6_takes 133 = .ok (.iload_n 1, 1) := by decide +kernel
theorem dX6_takes_134 : decode cX6_takes 134 = .ok (.bipush 59, 2) := by decide +kernel
theorem dX6_takes_136 : decode cX6_takes 136 = .ok (.if_icmp .ne 28, 3) := by decide +kernel
theorem dX6_takes_139 : decode cX6_takes 139 = .ok (.aload_n 0, 1) := by decide +kernel
theorem dX6_takes_140 : decode cX6_takes 140 = .ok (.getfield 173, 3) := by decide +kernel
theorem dX6_takes_143 : decode cX6_takes 143 = .ok (.iconst (-1), 1) := by decide +kernel
theorem dX6_takes_144 : decode cX6_takes 144 = .ok (.if_icmp .eq 20, 3) := by decide +kernel
theorem dX6_takes_147 : decode cX6_takes 147 = .ok (.aload_n 0, 1) := by decide +kernel
theorem dX6_takes_148 : decode cX6_takes 148 = .ok (.dup, 1) := by decide +kernel
theorem dX6_takes_149 : decode cX6_takes 149 = .ok (.getfield 167, 3) := by decide +kernel
theorem dX6_takes_152 : decode cX6_takes 152 = .ok (.iconst 1, 1) := by decide +kernel
theorem dX6_takes_153 : decode cX6_takes 153 = .ok (.iadd, 1) := by decide +kernel
theorem dX6_takes_154 : decode cX6_takes 154 = .ok (.putfield 167, 3) := by decide +kernel
theorem dX6_takes_157 : decode cX6_takes 157 = .ok (.aload_n 0, 1) := by decide +kernel
theorem dX6_takes_158 : decode cX6_takes 158 = .ok (.iconst 0, 1) := by decide +kernel
theorem dX6_takes_159 : decode cX6_takes 159 = .ok (.putfield 170, 3) := by decide +kernel
theorem dX6_takes_162 : decode cX6_takes 162 = .ok (.iconst 1, 1) := by decide +kernel
theorem dX6_takes_163 : decode cX6_takes 163 = .ok (.ireturn, 1) := by decide +kernel
theorem dX6_takes_164 : decode cX6_takes 164 = .ok (.aload_n 0, 1) := by decide +kernel
theorem dX6_takes_165 : decode cX6_takes 165 = .ok (.iload_n 1, 1) := by decide +kernel
theorem dX6_takes_166 : decode cX6_takes 166 = .ok (.bipush 48, 2) := by decide +kernel
theorem dX6_takes_168 : decode cX6_takes 168 = .ok (.isub, 1) := by decide +kernel
theorem dX6_takes_169 : decode cX6_takes 169 = .ok (.invokevirtual 179, 3) := by decide +kernel
theorem dX6_takes_172 : decode cX6_takes 172 = .ok (.ireturn, 1) := by decide +kernel
theorem dX6_rightUpTo_0 : decode cX6_rightUpTo 0 = .ok (.aload_n 0, 1) := by decide +kernel
theorem dX6_rightUpTo_1 : decode cX6_rightUpTo 1 = .ok (.iconst 0, 1) := by decide +kernel
theorem dX6_rightUpTo_2 : decode cX6_rightUpTo 2 = .ok (.putfield 167, 3) := by decide +kernel
theorem dX6_rightUpTo_5 : decode cX6_rightUpTo 5 = .ok (.aload_n 0, 1) := by decide +kernel
theorem dX6_rightUpTo_6 : decode cX6_rightUpTo 6 = .ok (.iconst 0, 1) := by decide +kernel
theorem dX6_rightUpTo_7 : decode cX6_rightUpTo 7 = .ok (.putfield 170, 3) := by decide +kernel
theorem dX6_rightUpTo_10 : decode cX6_rightUpTo 10 = .ok (.iconst 0, 1) := by decide +kernel
theorem dX6_rightUpTo_11 : decode cX6_rightUpTo 11 = .ok (.istore_n 1, 1) := by decide +kernel
theorem dX6_rightUpTo_12 : decode cX6_rightUpTo 12 = .ok (.iload_n 1, 1) := by decide +kernel
theorem dX6_rightUpTo_13 : decode cX6_rightUpTo 13 = .ok (.aload_n 0, 1) := by decide +kernel
theorem dX6_rightUpTo_14 : decode cX6_rightUpTo 14 = .ok (.getfield 164, 3) := by decide +kernel
theorem dX6_rightUpTo_17 : decode cX6_rightUpTo 17 = .ok (.if_icmp .ge 22, 3) := by decide +kernel
theorem dX6_rightUpTo_20 : decode cX6_rightUpTo 20 = .ok (.aload_n 0, 1) := by decide +kernel
theorem dX6_rightUpTo_21 : decode cX6_rightUpTo 21 = .ok (.aload_n 0, 1) := by decide +kernel
theorem dX6_rightUpTo_22 : decode cX6_rightUpTo 22 = .ok (.getfield 16, 3) := by decide +kernel
theorem dX6_rightUpTo_25 : decode cX6_rightUpTo 25 = .ok (.iload_n 1, 1) := by decide +kernel
theorem dX6_rightUpTo_26 : decode cX6_rightUpTo 26 = .ok (.iaload, 1) := by decide +kernel
theorem dX6_rightUpTo_27 : decode cX6_rightUpTo 27 = .ok (.invokevirtual 182, 3) := by decide +kernel
theorem dX6_rightUpTo_30 : decode cX6_rightUpTo 30 = .ok (.ifCond .eq 9, 3) := by decide +kernel
theorem dX6_rightUpTo_33 : decode cX6_rightUpTo 33 = .ok (.iinc 1 1, 3) := by decide +kernel
theorem dX6_rightUpTo_36 : decode cX6_rightUpTo 36 = .ok (.goto (-24), 3) := by decide +kernel
theorem dX6_rightUpTo_39 : decode cX6_rightUpTo 39 = .ok (.iload_n 1, 1) := by decide +kernel
theorem dX6_rightUpTo_40 : decode cX6_rightUpTo 40 = .ok (.ireturn, 1) := by decide +kernel
theorem dX6_firstError_0 : decode cX6_firstError 0 = .ok (.aload_n 0, 1) := by decide +kernel
theorem dX6_firstError_1 : decode cX6_firstError 1 = .ok (.iconst 0, 1) := by decide +kernel
theorem dX6_firstError_2 : decode cX6_firstError 2 = .ok (.putfield 22, 3) := by decide +kernel
theorem dX6_firstError_5 : decode cX6_firstError 5 = .ok (.aload_n 0, 1) := by decide +kernel
theorem dX6_firstError_6 : decode cX6_firstError 6 = .ok (.invokevirtual 185, 3) := by decide +kernel
theorem dX6_firstError_9 : decode cX6_firstError 9 = .ok (.ireturn, 1) := by decide +kernel
theorem dX6_carries_0 : decode cX6_carries 0 = .ok (.aload_n 0, 1) := by decide +kernel
theorem dX6_carries_1 : decode cX6_carries 1 = .ok (.getfield 19, 3) := by decide +kernel
theorem dX6_carries_4 : decode cX6_carries 4 = .ok (.iconst 5, 1) := by decide +kernel
theorem dX6_carries_5 : decode cX6_carries 5 = .ok (.iload_n 1, 1) := by decide +kernel
theorem dX6_carries_6 : decode cX6_carries 6 = .ok (.imul, 1) := by decide +kernel
theorem dX6_carries_7 : decode cX6_carries 7 = .ok (.iaload, 1) := by decide +kernel
theorem dX6_carries_8 : decode cX6_carries 8 = .ok (.istore_n 2, 1) := by decide +kernel
theorem dX6_carries_9 : decode cX6_carries 9 = .ok (.aload_n 0, 1) := by decide +kernel
theorem dX6_carries_10 : decode cX6_carries 10 = .ok (.getfield 19, 3) := by decide +kernel
theorem dX6_carries_13 : decode cX6_carries 13 = .ok (.iconst 5, 1) := by decide +kernel
theorem dX6_carries_14 : decode cX6_carries 14 = .ok (.iload_n 1, 1) := by decide +kernel
theorem dX6_carries_15 : decode cX6_carries 15 = .ok (.imul, 1) := by decide +kernel
theorem dX6_carries_16 : decode cX6_carries 16 = .ok (.iconst 1, 1) := by decide +kernel
theorem dX6_carries_17 : decode cX6_carries 17 = .ok (.iadd, 1) := by decide +kernel
theorem dX6_carries_18 : decode cX6_carries 18 = .ok (.iaload, 1) := by decide +kernel
theorem dX6_carries_19 : decode cX6_carries 19 = .ok (.istore_n 3, 1) := by decide +kernel
theorem dX6_carries_20 : decode cX6_carries 20 = .ok (.aload_n 0, 1) := by decide +kernel
theorem dX6_carries_21 : decode cX6_carries 21 = .ok (.getfield 19, 3) := by decide +kernel
theorem dX6_carries_24 : decode cX6_carries 24 = .ok (.iconst 5, 1) := by decide +kernel
theorem dX6_carries_25 : decode cX6_carries 25 = .ok (.iload_n 1, 1) := by decide +kernel
theorem dX6_carries_26 : decode cX6_carries 26 = .ok (.imul, 1) := by decide +kernel
theorem dX6_carries_27 : decode cX6_carries 27 = .ok (.iconst 2, 1) := by decide +kernel
theorem dX6_carries_28 : decode cX6_carries 28 = .ok (.iadd, 1) := by decide +kernel
theorem dX6_carries_29 : decode cX6_carries 29 = .ok (.iaload, 1) := by decide +kernel
theorem dX6_carries_30 : decode cX6_carries 30 = .ok (.istore 4, 2) := by decide +kernel
theorem dX6_carries_32 : decode cX6_carries 32 = .ok (.aload_n 0, 1) := by decide +kernel
theorem dX6_carries_33 : decode cX6_carries 33 = .ok (.getfield 19, 3) := by decide +kernel
theorem dX6_carries_36 : decode cX6_carries 36 = .ok (.iconst 5, 1) := by decide +kernel
theorem dX6_carries_37 : decode cX6_carries 37 = .ok (.iload_n 1, 1) := by decide +kernel
theorem dX6_carries_38 : decode cX6_carries 38 = .ok (.imul, 1) := by decide +kernel
theorem dX6_carries_39 : decode cX6_carries 39 = .ok (.iconst 3, 1) := by decide +kernel
theorem dX6_carries_40 : decode cX6_carries 40 = .ok (.iadd, 1) := by decide +kernel
theorem dX6_carries_41 : decode cX6_carries 41 = .ok (.iaload, 1) := by decide +kernel
theorem dX6_carries_42 : decode cX6_carries 42 = .ok (.istore 5, 2) := by decide +kernel
theorem dX6_carries_44 : decode cX6_carries 44 = .ok (.aload_n 0, 1) := by decide +kernel
theorem dX6_carries_45 : decode cX6_carries 45 = .ok (.getfield 19, 3) := by decide +kernel
theorem dX6_carries_48 : decode cX6_carries 48 = .ok (.iconst 5, 1) := by decide +kernel
theorem dX6_carries_49 : decode cX6_carries 49 = .ok (.iload_n 1, 1) := by decide +kernel
theorem dX6_carries_50 : decode cX6_carries 50 = .ok (.imul, 1) := by decide +kernel
theorem dX6_carries_51 : decode cX6_carries 51 = .ok (.iconst 4, 1) := by decide +kernel
theorem dX6_carries_52 : decode cX6_carries 52 = .ok (.iadd, 1) := by decide +kernel
theorem dX6_carries_53 : decode cX6_carries 53 = .ok (.iaload, 1) := by decide +kernel
theorem dX6_carries_54 : decode cX6_carries 54 = .ok (.istore 6, 2) := by decide +kernel
theorem dX6_carries_56 : decode cX6_carries 56 = .ok (.iload_n 2, 1) := by decide +kernel
theorem dX6_carries_57 : decode cX6_carries 57 = .ok (.bipush 108, 2) := by decide +kernel
theorem dX6_carries_59 : decode cX6_carries 59 = .ok (.if_icmp .ne 31, 3) := by decide +kernel
theorem dX6_carries_62 : decode cX6_carries 62 = .ok (.aload_n 0, 1) := by decide +kernel
theorem dX6_carries_63 : decode cX6_carries 63 = .ok (.iload_n 3, 1) := by decide +kernel
theorem dX6_carries_64 : decode cX6_carries 64 = .ok (.iload 6, 2) := by decide +kernel
theorem dX6_carries_66 : decode cX6_carries 66 = .ok (.invokevirtual 65, 3) := by decide +kernel
theorem dX6_carries_69 : decode cX6_carries 69 = .ok (.istore 7, 2) := by decide +kernel
theorem dX6_carries_71 : decode cX6_carries 71 = .ok (.aload_n 0, 1) := by decide +kernel
theorem dX6_carries_72 : decode cX6_carries 72 = .ok (.iload_n 3, 1) := by decide +kernel
theorem dX6_carries_73 : decode cX6_carries 73 = .ok (.iload 7, 2) := by decide +kernel
theorem dX6_carries_75 : decode cX6_carries 75 = .ok (.ifCond .eq 8, 3) := by decide +kernel
theorem dX6_carries_78 : decode cX6_carries 78 = .ok (.iload 6, 2) := by decide +kernel
theorem dX6_carries_80 : decode cX6_carries 80 = .ok (.goto 4, 3) := by decide +kernel
theorem dX6_carries_83 : decode cX6_carries 83 = .ok (.iconst 0, 1) := by decide +kernel
theorem dX6_carries_84 : decode cX6_carries 84 = .ok (.invokevirtual 71, 3) := by decide +kernel
theorem dX6_carries_87 : decode cX6_carries 87 = .ok (.iload 7, 2) := by decide +kernel
theorem dX6_carries_89 : decode cX6_carries 89 = .ok (.ireturn, 1) := by decide +kernel
theorem dX6_carries_90 : decode cX6_carries 90 = .ok (.iload_n 2, 1) := by decide +kernel
theorem dX6_carries_91 : decode cX6_carries 91 = .ok (.bipush 120, 2) := by decide +kernel
theorem dX6_carries_93 : decode cX6_carries 93 = .ok (.if_icmp .ne 17, 3) := by decide +kernel
theorem dX6_carries_96 : decode cX6_carries 96 = .ok (.aload_n 0, 1) := by decide +kernel
theorem dX6_carries_97 : decode cX6_carries 97 = .ok (.iload_n 3, 1) := by decide +kernel
theorem dX6_carries_98 : decode cX6_carries 98 = .ok (.iload 4, 2) := by decide +kernel
theorem dX6_carries_100 : decode cX6_carries 100 = .ok (.iload 5, 2) := by decide +kernel
theorem dX6_carries_102 : decode cX6_carries 102 = .ok (.iload 6, 2) := by decide +kernel
theorem dX6_carries_104 : decode cX6_carries 104 = .ok (.invokevirtual 105, 3) := by decide +kernel
theorem dX6_carries_107 : decode cX6_carries 107 = .ok (.goto 12, 3) := by decide +kernel
theorem dX6_carries_110 : decode cX6_carries 110 = .ok (.aload_n 0, 1) := by decide +kernel
theorem dX6_carries_111 : decode cX6_carries 111 = .ok (.iload_n 3, 1) := by decide +kernel
theorem dX6_carries_112 : decode cX6_carries 112 = .ok (.iload 4, 2) := by decide +kernel
theorem dX6_carries_114 : decode cX6_carries 114 = .ok (.iload 6, 2) := by decide +kernel
theorem dX6_carries_116 : decode cX6_carries 116 = .ok (.invokevirtual 114, 3) := by decide +kernel
theorem dX6_carries_119 : decode cX6_carries 119 = .ok (.ifCond .ne 7, 3) := by decide +kernel
theorem dX6_carries_122 : decode cX6_carries 122 = .ok (.iconst 1, 1) := by decide +kernel
theorem dX6_carries_123 : decode cX6_carries 123 = .ok (.goto 4, 3) := by decide +kernel
theorem dX6_carries_126 : decode cX6_carries 126 = .ok (.iconst 0, 1) := by decide +kernel
theorem dX6_carries_127 : decode cX6_carries 127 = .ok (.istore 7, 2) := by decide +kernel
theorem dX6_carries_129 : decode cX6_carries 129 = .ok (.iload 7, 2) := by decide +kernel
theorem dX6_carries_131 : decode cX6_carries 131 = .ok (.ifCond .ne 7, 3) := by decide +kernel
theorem dX6_carries_134 : decode cX6_carries 134 = .ok (.iconst 0, 1) := by decide +kernel
theorem dX6_carries_135 : decode cX6_carries 135 = .ok (.goto 32, 3) := by decide +kernel
theorem dX6_carries_138 : decode cX6_carries 138 = .ok (.iload_n 2, 1) := by decide +kernel
theorem dX6_carries_139 : decode cX6_carries 139 = .ok (.bipush 120, 2) := by decide +kernel
theorem dX6_carries_141 : decode cX6_carries 141 = .ok (.if_icmp .ne 17, 3) := by decide +kernel
theorem dX6_carries_144 : decode cX6_carries 144 = .ok (.aload_n 0, 1) := by decide +kernel
theorem dX6_carries_145 : decode cX6_carries 145 = .ok (.iload_n 3, 1) := by decide +kernel
theorem dX6_carries_146 : decode cX6_carries 146 = .ok (.iload 4, 2) := by decide +kernel
theorem dX6_carries_148 : decode cX6_carries 148 = .ok (.iload 5, 2) := by decide +kernel
theorem dX6_carries_150 : decode cX6_carries 150 = .ok (.iload 6, 2) := by decide +kernel
theorem dX6_carries_152 : decode cX6_carries 152 = .ok (.invokevirtual 108, 3) := by decide +kernel
theorem dX6_carries_155 : decode cX6_carries 155 = .ok (.goto 12, 3) := by decide +kernel
theorem dX6_carries_158 : decode cX6_carries 158 = .ok (.aload_n 0, 1) := by decide +kernel
theorem dX6_carries_159 : decode cX6_carries 159 = .ok (.iload_n 3, 1) := by decide +kernel
theorem dX6_carries_160 : decode cX6_carries 160 = .ok (.iload 4, 2) := by decide +kernel
theorem dX6_carries_162 : decode cX6_carries 162 = .ok (.iload 6, 2) := by decide +kernel
theorem dX6_carries_164 : decode cX6_carries 164 = .ok (.invokevirtual 117, 3) := by decide +kernel
theorem dX6_carries_167 : decode cX6_carries 167 = .ok (.istore 8, 2) := by decide +kernel
theorem dX6_carries_169 : decode cX6_carries 169 = .ok (.iload 7, 2) := by decide +kernel
theorem dX6_carries_171 : decode cX6_carries 171 = .ok (.ireturn, 1) := by decide +kernel
theorem dX6_run_0 : decode cX6_run 0 = .ok (.aload_n 0, 1) := by decide +kernel
theorem dX6_run_1 : decode cX6_run 1 = .ok (.invokevirtual 185, 3) := by decide +kernel
theorem dX6_run_4 : decode cX6_run 4 = .ok (.aload_n 0, 1) := by decide +kernel
theorem dX6_run_5 : decode cX6_run 5 = .ok (.getfield 164, 3) := by decide +kernel
theorem dX6_run_8 : decode cX6_run 8 = .ok (.if_icmp .ne 23, 3) := by decide +kernel
theorem dX6_run_11 : decode cX6_run 11 = .ok (.aload_n 0, 1) := by decide +kernel
theorem dX6_run_12 : decode cX6_run 12 = .ok (.getfield 170, 3) := by decide +kernel
theorem dX6_run_15 : decode cX6_run 15 = .ok (.iconst 5, 1) := by decide +kernel
theorem dX6_run_16 : decode cX6_run 16 = .ok (.if_icmp .ne 15, 3) := by decide +kernel
theorem dX6_run_19 : decode cX6_run 19 = .ok (.aload_n 0, 1) := by decide +kernel
theorem dX6_run_20 : decode cX6_run 20 = .ok (.getfield 173, 3) := by decide +kernel
theorem dX6_run_23 : decode cX6_run 23 = .ok (.iconst (-1), 1) := by decide +kernel
theorem dX6_run_24 : decode cX6_run 24 = .ok (.if_icmp .eq 7, 3) := by decide +kernel
theorem dX6_run_27 : decode cX6_run 27 = .ok (.iconst 1, 1) := by decide +kernel
theorem dX6_run_28 : decode cX6_run 28 = .ok (.goto 4, 3) := by decide +kernel
theorem dX6_run_31 : decode cX6_run 31 = .ok (.iconst 0, 1) := by decide +kernel
theorem dX6_run_32 : decode cX6_run 32 = .ok (.istore_n 1, 1) := by decide +kernel
theorem dX6_run_33 : decode cX6_run 33 = .ok (.aload_n 0, 1) := by decide +kernel
theorem dX6_run_34 : decode cX6_run 34 = .ok (.iload_n 1, 1) := by decide +kernel
theorem dX6_run_35 : decode cX6_run 35 = .ok (.ifCond .eq 7, 3) := by decide +kernel
theorem dX6_run_38 : decode cX6_run 38 = .ok (.iconst 0, 1) := by decide +kernel
theorem dX6_run_39 : decode cX6_run 39 = .ok (.goto 4, 3) := by decide +kernel
theorem dX6_run_42 : decode cX6_run 42 = .ok (.iconst 1, 1) := by decide +kernel
theorem dX6_run_43 : decode cX6_run 43 = .ok (.putfield 22, 3) := by decide +kernel
theorem dX6_run_46 : decode cX6_run 46 = .ok (.aload_n 0, 1) := by decide +kernel
theorem dX6_run_47 : decode cX6_run 47 = .ok (.getfield 22, 3) := by decide +kernel
theorem dX6_run_50 : decode cX6_run 50 = .ok (.ifCond .le 5, 3) := by decide +kernel
theorem dX6_run_53 : decode cX6_run 53 = .ok (.iconst 0, 1) := by decide +kernel
theorem dX6_run_54 : decode cX6_run 54 = .ok (.ireturn, 1) := by decide +kernel
theorem dX6_run_55 : decode cX6_run 55 = .ok (.aload_n 0, 1) := by decide +kernel
theorem dX6_run_56 : decode cX6_run 56 = .ok (.invokevirtual 68, 3) := by decide +kernel
theorem dX6_run_59 : decode cX6_run 59 = .ok (.aload_n 0, 1) := by decide +kernel
theorem dX6_run_60 : decode cX6_run 60 = .ok (.iconst 0, 1) := by decide +kernel
theorem dX6_run_61 : decode cX6_run 61 = .ok (.putfield 164, 3) := by decide +kernel
theorem dX6_run_64 : decode cX6_run 64 = .ok (.iconst 0, 1) := by decide +kernel
theorem dX6_run_65 : decode cX6_run 65 = .ok (.istore_n 2, 1) := by decide +kernel
theorem dX6_run_66 : decode cX6_run 66 = .ok (.iload_n 2, 1) := by decide +kernel
theorem dX6_run_67 : decode cX6_run 67 = .ok (.aload_n 0, 1) := by decide +kernel
theorem dX6_run_68 : decode cX6_run 68 = .ok (.getfield 167, 3) := by decide +kernel
theorem dX6_run_71 : decode cX6_run 71 = .ok (.if_icmp .gt 17, 3) := by decide +kernel
theorem dX6_run_74 : decode cX6_run 74 = .ok (.aload_n 0, 1) := by decide +kernel
theorem dX6_run_75 : decode cX6_run 75 = .ok (.iload_n 2, 1) := by decide +kernel
theorem dX6_run_76 : decode cX6_run 76 = .ok (.invokevirtual 188, 3) := by decide +kernel
theorem dX6_run_79 : decode cX6_run 79 = .ok (.ifCond .eq 9, 3) := by decide +kernel
theorem dX6_run_82 : decode cX6_run 82 = .ok (.iinc 2 1, 3) := by decide +kernel
theorem dX6_run_85 : decode cX6_run 85 = .ok (.goto (-19), 3) := by decide +kernel
theorem dX6_run_88 : decode cX6_run 88 = .ok (.iload_n 2, 1) := by decide +kernel
theorem dX6_run_89 : decode cX6_run 89 = .ok (.ireturn, 1) := by decide +kernel
theorem dX6_undo_0 : decode cX6_undo 0 = .ok (.aload_n 0, 1) := by decide +kernel
theorem dX6_undo_1 : decode cX6_undo 1 = .ok (.aload_n 0, 1) := by decide +kernel
theorem dX6_undo_2 : decode cX6_undo 2 = .ok (.getfield 26, 3) := by decide +kernel
theorem dX6_undo_5 : decode cX6_undo 5 = .ok (.ifCond .le 7, 3) := by decide +kernel
theorem dX6_undo_8 : decode cX6_undo 8 = .ok (.iconst 0, 1) := by decide +kernel
theorem dX6_undo_9 : decode cX6_undo 9 = .ok (.goto 4, 3) := by decide +kernel
theorem dX6_undo_12 : decode cX6_undo 12 = .ok (.iconst 1, 1) := by decide +kernel
theorem dX6_undo_13 : decode cX6_undo 13 = .ok (.putfield 22, 3) := by decide +kernel
theorem dX6_undo_16 : decode cX6_undo 16 = .ok (.aload_n 0, 1) := by decide +kernel
theorem dX6_undo_17 : decode cX6_undo 17 = .ok (.getfield 22, 3) := by decide +kernel
theorem dX6_undo_20 : decode cX6_undo 20 = .ok (.ifCond .le 5, 3) := by decide +kernel
theorem dX6_undo_23 : decode cX6_undo 23 = .ok (.iconst 0, 1) := by decide +kernel
theorem dX6_undo_24 : decode cX6_undo 24 = .ok (.ireturn, 1) := by decide +kernel
theorem dX6_undo_25 : decode cX6_undo 25 = .ok (.aload_n 0, 1) := by decide +kernel
theorem dX6_undo_26 : decode cX6_undo 26 = .ok (.dup, 1) := by decide +kernel
theorem dX6_undo_27 : decode cX6_undo 27 = .ok (.getfield 26, 3) := by decide +kernel
theorem dX6_undo_30 : decode cX6_undo 30 = .ok (.iconst 1, 1) := by decide +kernel
theorem dX6_undo_31 : decode cX6_undo 31 = .ok (.isub, 1) := by decide +kernel
theorem dX6_undo_32 : decode cX6_undo 32 = .ok (.putfield 26, 3) := by decide +kernel
theorem dX6_undo_35 : decode cX6_undo 35 = .ok (.iconst 0, 1) := by decide +kernel
theorem dX6_undo_36 : decode cX6_undo 36 = .ok (.istore_n 1, 1) := by decide +kernel
theorem dX6_undo_37 : decode cX6_undo 37 = .ok (.iload_n 1, 1) := by decide +kernel
theorem dX6_undo_38 : decode cX6_undo 38 = .ok (.sipush 196, 3) := by decide +kernel
theorem dX6_undo_41 : decode cX6_undo 41 = .ok (.if_icmp .ge 30, 3) := by decide +kernel
theorem dX6_undo_44 : decode cX6_undo 44 = .ok (.aload_n 0, 1) := by decide +kernel
theorem dX6_undo_45 : decode cX6_undo 45 = .ok (.getfield 7, 3) := by decide +kernel
theorem dX6_undo_48 : decode cX6_undo 48 = .ok (.iload_n 1, 1) := by decide +kernel
theorem dX6_undo_49 : decode cX6_undo 49 = .ok (.aload_n 0, 1) := by decide +kernel
theorem dX6_undo_50 : decode cX6_undo 50 = .ok (.getfield 13, 3) := by decide +kernel
theorem dX6_undo_53 : decode cX6_undo 53 = .ok (.sipush 196, 3) := by decide +kernel
theorem dX6_undo_56 : decode cX6_undo 56 = .ok (.aload_n 0, 1) := by decide +kernel
theorem dX6_undo_57 : decode cX6_undo 57 = .ok (.getfield 26, 3) := by decide +kernel
theorem dX6_undo_60 : decode cX6_undo 60 = .ok (.imul, 1) := by decide +kernel
theorem dX6_undo_61 : decode cX6_undo 61 = .ok (.iload_n 1, 1) := by decide +kernel
theorem dX6_undo_62 : decode cX6_undo 62 = .ok (.iadd, 1) := by decide +kernel
theorem dX6_undo_63 : decode cX6_undo 63 = .ok (.iaload, 1) := by decide +kernel
theorem dX6_undo_64 : decode cX6_undo 64 = .ok (.iastore, 1) := by decide +kernel
theorem dX6_undo_65 : decode cX6_undo 65 = .ok (.iinc 1 1, 3) := by decide +kernel
theorem dX6_undo_68 : decode cX6_undo 68 = .ok (.goto (-31), 3) := by decide +kernel
theorem dX6_undo_71 : decode cX6_undo 71 = .ok (.aload_n 0, 1) := by decide +kernel
theorem dX6_undo_72 : decode cX6_undo 72 = .ok (.getfield 26, 3) := by decide +kernel
theorem dX6_undo_75 : decode cX6_undo 75 = .ok (.ireturn, 1) := by decide +kernel
theorem dX6_creditIn_0 : decode cX6_creditIn 0 = .ok (.iconst 0, 1) := by decide +kernel
theorem dX6_creditIn_1 : decode cX6_creditIn 1 = .ok (.istore_n 3, 1) := by decide +kernel
theorem dX6_creditIn_2 : decode cX6_creditIn 2 = .ok (.iconst 0, 1) := by decide +kernel
theorem dX6_creditIn_3 : decode cX6_creditIn 3 = .ok (.istore 4, 2) := by decide +kernel
theorem dX6_creditIn_5 : decode cX6_creditIn 5 = .ok (.iload 4, 2) := by decide +kernel
theorem dX6_creditIn_7 : decode cX6_creditIn 7 = .ok (.aload_n 0, 1) := by decide +kernel
theorem dX6_creditIn_8 : decode cX6_creditIn 8 = .ok (.getfield 7, 3) := by decide +kernel
theorem dX6_creditIn_11 : decode cX6_creditIn 11 = .ok (.bipush 9, 2) := by decide +kernel
theorem dX6_creditIn_13 : decode cX6_creditIn 13 = .ok (.iaload, 1) := by decide +kernel
theorem dX6_creditIn_14 : decode cX6_creditIn 14 = .ok (.if_icmp .ge 63, 3) := by decide +kernel
theorem dX6_creditIn_17 : decode cX6_creditIn 17 = .ok (.aload_n 0, 1) := by decide +kernel
theorem dX6_creditIn_18 : decode cX6_creditIn 18 = .ok (.sipush 136, 3) := by decide +kernel
theorem dX6_creditIn_21 : decode cX6_creditIn 21 = .ok (.iconst 5, 1) := by decide +kernel
theorem dX6_creditIn_22 : decode cX6_creditIn 22 = .ok (.iload 4, 2) := by decide +kernel
theorem dX6_creditIn_24 : decode cX6_creditIn 24 = .ok (.imul, 1) := by decide +kernel
theorem dX6_creditIn_25 : decode cX6_creditIn 25 = .ok (.iadd, 1) := by decide +kernel
theorem dX6_creditIn_26 : decode cX6_creditIn 26 = .ok (.iload_n 1, 1) := by decide +kernel
theorem dX6_creditIn_27 : decode cX6_creditIn 27 = .ok (.iload_n 2, 1) := by decide +kernel
theorem dX6_creditIn_28 : decode cX6_creditIn 28 = .ok (.invokevirtual 49, 3) := by decide +kernel
theorem dX6_creditIn_31 : decode cX6_creditIn 31 = .ok (.ifCond .eq 18, 3) := by decide +kernel
theorem dX6_creditIn_34 : decode cX6_creditIn 34 = .ok (.aload_n 0, 1) := by decide +kernel
theorem dX6_creditIn_35 : decode cX6_creditIn 35 = .ok (.iload 4, 2) := by decide +kernel
theorem dX6_creditIn_37 : decode cX6_creditIn 37 = .ok (.iconst 4, 1) := by decide +kernel
theorem dX6_creditIn_38 : decode cX6_creditIn 38 = .ok (.invokevirtual 127, 3) := by decide +kernel
theorem dX6_creditIn_41 : decode cX6_creditIn 41 = .ok (.iconst 1, 1) := by decide +kernel
theorem dX6_creditIn_42 : decode cX6_creditIn 42 = .ok (.if_icmp .ne 7, 3) := by decide +kernel
theorem dX6_creditIn_45 : decode cX6_creditIn 45 = .ok (.iconst 1, 1) := by decide +kernel
theorem dX6_creditIn_46 : decode cX6_creditIn 46 = .ok (.goto 4, 3) := by decide +kernel
theorem dX6_creditIn_49 : decode cX6_creditIn 49 = .ok (.iconst 0, 1) := by decide +kernel
theorem dX6_creditIn_50 : decode cX6_creditIn 50 = .ok (.istore 5, 2) := by decide +kernel
theorem dX6_creditIn_52 : decode cX6_creditIn 52 = .ok (.iload_n 3, 1) := by decide +kernel
theorem dX6_creditIn_53 : decode cX6_creditIn 53 = .ok (.iload 5, 2) := by decide +kernel
theorem dX6_creditIn_55 : decode cX6_creditIn 55 = .ok (.ifCond .eq 13, 3) := by decide +kernel
theorem dX6_creditIn_58 : decode cX6_creditIn 58 = .ok (.aload_n 0, 1) := by decide +kernel
theorem dX6_creditIn_59 : decode cX6_creditIn 59 = .ok (.iload 4, 2) := by decide +kernel
theorem dX6_creditIn_61 : decode cX6_creditIn 61 = .ok (.iconst 2, 1) := by decide +kernel
theorem dX6_creditIn_62 : decode cX6_creditIn 62 = .ok (.invokevirtual 127, 3) := by decide +kernel
theorem dX6_creditIn_65 : decode cX6_creditIn 65 = .ok (.goto 4, 3) := by decide +kernel
theorem dX6_creditIn_68 : decode cX6_creditIn 68 = .ok (.iconst 0, 1) := by decide +kernel
theorem dX6_creditIn_69 : decode cX6_creditIn 69 = .ok (.iadd, 1) := by decide +kernel
theorem dX6_creditIn_70 : decode cX6_creditIn 70 = .ok (.istore_n 3, 1) := by decide +kernel
theorem dX6_creditIn_71 : decode cX6_creditIn 71 = .ok (.iinc 4 1, 3) := by decide +kernel
theorem dX6_creditIn_74 : decode cX6_creditIn 74 = .ok (.goto (-69), 3) := by decide +kernel
theorem dX6_creditIn_77 : decode cX6_creditIn 77 = .ok (.iload_n 3, 1) := by decide +kernel
theorem dX6_creditIn_78 : decode cX6_creditIn 78 = .ok (.ireturn, 1) := by decide +kernel
theorem dX6_purseNow_0 : decode cX6_purseNow 0 = .ok (.iload_n 3, 1) := by decide +kernel
theorem dX6_purseNow_1 : decode cX6_purseNow 1 = .ok (.tableswitch 108 0 6 #[43, 51, 58, 65, 73, 80, 101], 43) := by decide +kernel
theorem dX6_purseNow_44 : decode cX6_purseNow 44 = .ok (.aload_n 0, 1) := by decide +kernel
theorem dX6_purseNow_45 : decode cX6_purseNow 45 = .ok (.iload_n 1, 1) := by decide +kernel
theorem dX6_purseNow_46 : decode cX6_purseNow 46 = .ok (.iload_n 2, 1) := by decide +kernel
theorem dX6_purseNow_47 : decode cX6_purseNow 47 = .ok (.iconst 0, 1) := by decide +kernel
theorem dX6_purseNow_48 : decode cX6_purseNow 48 = .ok (.invokevirtual 55, 3) := by decide +kernel
theorem dX6_purseNow_51 : decode cX6_purseNow 51 = .ok (.ireturn, 1) := by decide +kernel
theorem dX6_purseNow_52 : decode cX6_purseNow 52 = .ok (.aload_n 0, 1) := by decide +kernel
theorem dX6_purseNow_53 : decode cX6_purseNow 53 = .ok (.iload_n 1, 1) := by decide +kernel
theorem dX6_purseNow_54 : decode cX6_purseNow 54 = .ok (.iload_n 2, 1) := by decide +kernel
theorem dX6_purseNow_55 : decode cX6_purseNow 55 = .ok (.invokevirtual 59, 3) := by decide +kernel
theorem dX6_purseNow_58 : decode cX6_purseNow 58 = .ok (.ireturn, 1) := by decide +kernel
theorem dX6_purseNow_59 : decode cX6_purseNow 59 = .ok (.aload_n 0, 1) := by decide +kernel
theorem dX6_purseNow_60 : decode cX6_purseNow 60 = .ok (.iload_n 1, 1) := by decide +kernel
theorem dX6_purseNow_61 : decode cX6_purseNow 61 = .ok (.iload_n 2, 1) := by decide +kernel
theorem dX6_purseNow_62 : decode cX6_purseNow 62 = .ok (.invokevirtual 102, 3) := by decide +kernel
theorem dX6_purseNow_65 : decode cX6_purseNow 65 = .ok (.ireturn, 1) := by decide +kernel
theorem dX6_purseNow_66 : decode cX6_purseNow 66 = .ok (.aload_n 0, 1) := by decide +kernel
theorem dX6_purseNow_67 : decode cX6_purseNow 67 = .ok (.iload_n 1, 1) := by decide +kernel
theorem dX6_purseNow_68 : decode cX6_purseNow 68 = .ok (.iload_n 2, 1) := by decide +kernel
theorem dX6_purseNow_69 : decode cX6_purseNow 69 = .ok (.iconst 1, 1) := by decide +kernel
theorem dX6_purseNow_70 : decode cX6_purseNow 70 = .ok (.invokevirtual 55, 3) := by decide +kernel
theorem dX6_purseNow_73 : decode cX6_purseNow 73 = .ok (.ireturn, 1) := by decide +kernel
theorem dX6_purseNow_74 : decode cX6_purseNow 74 = .ok (.aload_n 0, 1) := by decide +kernel
theorem dX6_purseNow_75 : decode cX6_purseNow 75 = .ok (.iload_n 1, 1) := by decide +kernel
theorem dX6_purseNow_76 : decode cX6_purseNow 76 = .ok (.iload_n 2, 1) := by decide +kernel
theorem dX6_purseNow_77 : decode cX6_purseNow 77 = .ok (.invokevirtual 88, 3) := by decide +kernel
theorem dX6_purseNow_80 : decode cX6_purseNow 80 = .ok (.ireturn, 1) := by decide +kernel
theorem dX6_purseNow_81 : decode cX6_purseNow 81 = .ok (.aload_n 0, 1) := by decide +kernel
theorem dX6_purseNow_82 : decode cX6_purseNow 82 = .ok (.iload_n 1, 1) := by decide +kernel
theorem dX6_purseNow_83 : decode cX6_purseNow 83 = .ok (.iload_n 2, 1) := by decide +kernel
theorem dX6_purseNow_84 : decode cX6_purseNow 84 = .ok (.invokevirtual 80, 3) := by decide +kernel
theorem dX6_purseNow_87 : decode cX6_purseNow 87 = .ok (.ifCond .eq 13, 3) := by decide +kernel
theorem dX6_purseNow_90 : decode cX6_purseNow 90 = .ok (.aload_n 0, 1) := by decide +kernel
theorem dX6_purseNow_91 : decode cX6_purseNow 91 = .ok (.iload_n 1, 1) := by decide +kernel
theorem dX6_purseNow_92 : decode cX6_purseNow 92 = .ok (.iload_n 2, 1) := by decide +kernel
theorem dX6_purseNow_93 : decode cX6_purseNow 93 = .ok (.iconst 3, 1) := by decide +kernel
theorem dX6_purseNow_94 : decode cX6_purseNow 94 = .ok (.invokevirtual 55, 3) := by decide +kernel
theorem dX6_purseNow_97 : decode cX6_purseNow 97 = .ok (.goto 4, 3) := by decide +kernel
theorem dX6_purseNow_100 : decode cX6_purseNow 100 = .ok (.iconst (-1), 1) := by decide +kernel
theorem dX6_purseNow_101 : decode cX6_purseNow 101 = .ok (.ireturn, 1) := by decide +kernel
theorem dX6_purseNow_102 : decode cX6_purseNow 102 = .ok (.aload_n 0, 1) := by decide +kernel
theorem dX6_purseNow_103 : decode cX6_purseNow 103 = .ok (.iload_n 1, 1) := by decide +kernel
theorem dX6_purseNow_104 : decode cX6_purseNow 104 = .ok (.iload_n 2, 1) := by decide +kernel
theorem dX6_purseNow_105 : decode cX6_purseNow 105 = .ok (.invokevirtual 191, 3) := by decide +kernel
theorem dX6_purseNow_108 : decode cX6_purseNow 108 = .ok (.ireturn, 1) := by decide +kernel
theorem dX6_purseNow_109 : decode cX6_purseNow 109 = .ok (.aload_n 0, 1) := by decide +kernel
theorem dX6_purseNow_110 : decode cX6_purseNow 110 = .ok (.iload_n 1, 1) := by decide +kernel
theorem dX6_purseNow_111 : decode cX6_purseNow 111 = .ok (.iload_n 2, 1) := by decide +kernel
theorem dX6_purseNow_112 : decode cX6_purseNow 112 = .ok (.iconst 4, 1) := by decide +kernel
theorem dX6_purseNow_113 : decode cX6_purseNow 113 = .ok (.invokevirtual 55, 3) := by decide +kernel
theorem dX6_purseNow_116 : decode cX6_purseNow 116 = .ok (.ireturn, 1) := by decide +kernel
theorem dX6_purse_0 : decode cX6_purse 0 = .ok (.aload_n 0, 1) := by decide +kernel
theorem dX6_purse_1 : decode cX6_purse 1 = .ok (.iload_n 1, 1) := by decide +kernel
theorem dX6_purse_2 : decode cX6_purse 2 = .ok (.iload_n 2, 1) := by decide +kernel
theorem dX6_purse_3 : decode cX6_purse 3 = .ok (.invokestatic 40, 3) := by decide +kernel
theorem dX6_purse_6 : decode cX6_purse 6 = .ok (.ifCond .ne 7, 3) := by decide +kernel
theorem dX6_purse_9 : decode cX6_purse 9 = .ok (.iconst 1, 1) := by decide +kernel
theorem dX6_purse_10 : decode cX6_purse 10 = .ok (.goto 18, 3) := by decide +kernel
theorem dX6_purse_13 : decode cX6_purse 13 = .ok (.iload_n 3, 1) := by decide +kernel
theorem dX6_purse_14 : decode cX6_purse 14 = .ok (.iconst 0, 1) := by decide +kernel
theorem dX6_purse_15 : decode cX6_purse 15 = .ok (.bipush 7, 2) := by decide +kernel
theorem dX6_purse_17 : decode cX6_purse 17 = .ok (.invokestatic 29, 3) := by decide +kernel
theorem dX6_purse_20 : decode cX6_purse 20 = .ok (.ifCond .eq 7, 3) := by decide +kernel
theorem dX6_purse_23 : decode cX6_purse 23 = .ok (.iconst 0, 1) := by decide +kernel
theorem dX6_purse_24 : decode cX6_purse 24 = .ok (.goto 4, 3) := by decide +kernel
theorem dX6_purse_27 : decode cX6_purse 27 = .ok (.iconst 2, 1) := by decide +kernel
theorem dX6_purse_28 : decode cX6_purse 28 = .ok (.putfield 22, 3) := by decide +kernel
theorem dX6_purse_31 : decode cX6_purse 31 = .ok (.aload_n 0, 1) := by decide +kernel
theorem dX6_purse_32 : decode cX6_purse 32 = .ok (.getfield 22, 3) := by decide +kernel
theorem dX6_purse_35 : decode cX6_purse 35 = .ok (.ifCond .le 7, 3) := by decide +kernel
theorem dX6_purse_38 : decode cX6_purse 38 = .ok (.iconst 0, 1) := by decide +kernel
theorem dX6_purse_39 : decode cX6_purse 39 = .ok (.goto 10, 3) := by decide +kernel
theorem dX6_purse_42 : decode cX6_purse 42 = .ok (.aload_n 0, 1) := by decide +kernel
theorem dX6_purse_43 : decode cX6_purse 43 = .ok (.iload_n 1, 1) := by decide +kernel
theorem dX6_purse_44 : decode cX6_purse 44 = .ok (.iload_n 2, 1) := by decide +kernel
theorem dX6_purse_45 : decode cX6_purse 45 = .ok (.iload_n 3, 1) := by decide +kernel
theorem dX6_purse_46 : decode cX6_purse 46 = .ok (.invokevirtual 194, 3) := by decide +kernel
theorem dX6_purse_49 : decode cX6_purse 49 = .ok (.ireturn, 1) := by decide +kernel
theorem dX6_held_0 : decode cX6_held 0 = .ok (.aload_n 0, 1) := by decide +kernel
theorem dX6_held_1 : decode cX6_held 1 = .ok (.aload_n 0, 1) := by decide +kernel
theorem dX6_held_2 : decode cX6_held 2 = .ok (.iload_n 1, 1) := by decide +kernel
theorem dX6_held_3 : decode cX6_held 3 = .ok (.invokevirtual 120, 3) := by decide +kernel
theorem dX6_held_6 : decode cX6_held 6 = .ok (.ifCond .ne 7, 3) := by decide +kernel
theorem dX6_held_9 : decode cX6_held 9 = .ok (.iconst 1, 1) := by decide +kernel
theorem dX6_held_10 : decode cX6_held 10 = .ok (.goto 17, 3) := by decide +kernel
theorem dX6_held_13 : decode cX6_held 13 = .ok (.iload_n 2, 1) := by decide +kernel
theorem dX6_held_14 : decode cX6_held 14 = .ok (.iconst 0, 1) := by decide +kernel
theorem dX6_held_15 : decode cX6_held 15 = .ok (.iconst 4, 1) := by decide +kernel
theorem dX6_held_16 : decode cX6_held 16 = .ok (.invokestatic 29, 3) := by decide +kernel
theorem dX6_held_19 : decode cX6_held 19 = .ok (.ifCond .eq 7, 3) := by decide +kernel
theorem dX6_held_22 : decode cX6_held 22 = .ok (.iconst 0, 1) := by decide +kernel
end
section
theorem dX6_held_23 : decode cX6_held 23 = .ok (.goto 4, 3) := by decide +kernel
theorem dX6_held_26 : decode cX6_held 26 = .ok (.iconst 2, 1) := by decide +kernel
theorem dX6_held_27 : decode cX6_held 27 = .ok (.putfield 22, 3) := by decide +kernel
theorem dX6_held_30 : decode cX6_held 30 = .ok (.aload_n 0, 1) := by decide +kernel
theorem dX6_held_31 : decode cX6_held 31 = .ok (.getfield 22, 3) := by decide +kernel
theorem dX6_held_34 : decode cX6_held 34 = .ok (.ifCond .le 7, 3) := by decide +kernel
theorem dX6_held_37 : decode cX6_held 37 = .ok (.iconst 0, 1) := by decide +kernel
theorem dX6_held_38 : decode cX6_held 38 = .ok (.goto 9, 3) := by decide +kernel
theorem dX6_held_41 : decode cX6_held 41 = .ok (.aload_n 0, 1) := by decide +kernel
theorem dX6_held_42 : decode cX6_held 42 = .ok (.iload_n 1, 1) := by decide +kernel
theorem dX6_held_43 : decode cX6_held 43 = .ok (.iload_n 2, 1) := by decide +kernel
theorem dX6_held_44 : decode cX6_held 44 = .ok (.invokevirtual 52, 3) := by decide +kernel
theorem dX6_held_47 : decode cX6_held 47 = .ok (.ireturn, 1) := by decide +kernel
theorem dX6_paymentNow_0 : decode cX6_paymentNow 0 = .ok (.iload_n 2, 1) := by decide +kernel
theorem dX6_paymentNow_1 : decode cX6_paymentNow 1 = .ok (.iconst 5, 1) := by decide +kernel
theorem dX6_paymentNow_2 : decode cX6_paymentNow 2 = .ok (.if_icmp .ge 12, 3) := by decide +kernel
theorem dX6_paymentNow_5 : decode cX6_paymentNow 5 = .ok (.aload_n 0, 1) := by decide +kernel
theorem dX6_paymentNow_6 : decode cX6_paymentNow 6 = .ok (.iload_n 1, 1) := by decide +kernel
theorem dX6_paymentNow_7 : decode cX6_paymentNow 7 = .ok (.iload_n 2, 1) := by decide +kernel
theorem dX6_paymentNow_8 : decode cX6_paymentNow 8 = .ok (.invokevirtual 127, 3) := by decide +kernel
theorem dX6_paymentNow_11 : decode cX6_paymentNow 11 = .ok (.goto 16, 3) := by decide +kernel
theorem dX6_paymentNow_14 : decode cX6_paymentNow 14 = .ok (.aload_n 0, 1) := by decide +kernel
theorem dX6_paymentNow_15 : decode cX6_paymentNow 15 = .ok (.iload_n 1, 1) := by decide +kernel
theorem dX6_paymentNow_16 : decode cX6_paymentNow 16 = .ok (.invokevirtual 133, 3) := by decide +kernel
theorem dX6_paymentNow_19 : decode cX6_paymentNow 19 = .ok (.ifCond .eq 7, 3) := by decide +kernel
theorem dX6_paymentNow_22 : decode cX6_paymentNow 22 = .ok (.iconst 1, 1) := by decide +kernel
theorem dX6_paymentNow_23 : decode cX6_paymentNow 23 = .ok (.goto 4, 3) := by decide +kernel
theorem dX6_paymentNow_26 : decode cX6_paymentNow 26 = .ok (.iconst 0, 1) := by decide +kernel
theorem dX6_paymentNow_27 : decode cX6_paymentNow 27 = .ok (.ireturn, 1) := by decide +kernel
theorem dX6_payment_0 : decode cX6_payment 0 = .ok (.aload_n 0, 1) := by decide +kernel
theorem dX6_payment_1 : decode cX6_payment 1 = .ok (.aload_n 0, 1) := by decide +kernel
theorem dX6_payment_2 : decode cX6_payment 2 = .ok (.iload_n 1, 1) := by decide +kernel
theorem dX6_payment_3 : decode cX6_payment 3 = .ok (.invokevirtual 130, 3) := by decide +kernel
theorem dX6_payment_6 : decode cX6_payment 6 = .ok (.ifCond .ne 7, 3) := by decide +kernel
theorem dX6_payment_9 : decode cX6_payment 9 = .ok (.iconst 1, 1) := by decide +kernel
theorem dX6_payment_10 : decode cX6_payment 10 = .ok (.goto 17, 3) := by decide +kernel
theorem dX6_payment_13 : decode cX6_payment 13 = .ok (.iload_n 2, 1) := by decide +kernel
theorem dX6_payment_14 : decode cX6_payment 14 = .ok (.iconst 0, 1) := by decide +kernel
theorem dX6_payment_15 : decode cX6_payment 15 = .ok (.iconst 5, 1) := by decide +kernel
theorem dX6_payment_16 : decode cX6_payment 16 = .ok (.invokestatic 29, 3) := by decide +kernel
theorem dX6_payment_19 : decode cX6_payment 19 = .ok (.ifCond .eq 7, 3) := by decide +kernel
theorem dX6_payment_22 : decode cX6_payment 22 = .ok (.iconst 0, 1) := by decide +kernel
theorem dX6_payment_23 : decode cX6_payment 23 = .ok (.goto 4, 3) := by decide +kernel
theorem dX6_payment_26 : decode cX6_payment 26 = .ok (.iconst 2, 1) := by decide +kernel
theorem dX6_payment_27 : decode cX6_payment 27 = .ok (.putfield 22, 3) := by decide +kernel
theorem dX6_payment_30 : decode cX6_payment 30 = .ok (.aload_n 0, 1) := by decide +kernel
theorem dX6_payment_31 : decode cX6_payment 31 = .ok (.getfield 22, 3) := by decide +kernel
theorem dX6_payment_34 : decode cX6_payment 34 = .ok (.ifCond .le 7, 3) := by decide +kernel
theorem dX6_payment_37 : decode cX6_payment 37 = .ok (.iconst 0, 1) := by decide +kernel
theorem dX6_payment_38 : decode cX6_payment 38 = .ok (.goto 9, 3) := by decide +kernel
theorem dX6_payment_41 : decode cX6_payment 41 = .ok (.aload_n 0, 1) := by decide +kernel
theorem dX6_payment_42 : decode cX6_payment 42 = .ok (.iload_n 1, 1) := by decide +kernel
theorem dX6_payment_43 : decode cX6_payment 43 = .ok (.iload_n 2, 1) := by decide +kernel
theorem dX6_payment_44 : decode cX6_payment 44 = .ok (.invokevirtual 197, 3) := by decide +kernel
theorem dX6_payment_47 : decode cX6_payment 47 = .ok (.ireturn, 1) := by decide +kernel
theorem dX6_disputed_0 : decode cX6_disputed 0 = .ok (.iconst 0, 1) := by decide +kernel
theorem dX6_disputed_1 : decode cX6_disputed 1 = .ok (.istore_n 1, 1) := by decide +kernel
theorem dX6_disputed_2 : decode cX6_disputed 2 = .ok (.iconst 0, 1) := by decide +kernel
theorem dX6_disputed_3 : decode cX6_disputed 3 = .ok (.istore_n 2, 1) := by decide +kernel
theorem dX6_disputed_4 : decode cX6_disputed 4 = .ok (.iload_n 2, 1) := by decide +kernel
theorem dX6_disputed_5 : decode cX6_disputed 5 = .ok (.aload_n 0, 1) := by decide +kernel
theorem dX6_disputed_6 : decode cX6_disputed 6 = .ok (.getfield 7, 3) := by decide +kernel
theorem dX6_disputed_9 : decode cX6_disputed 9 = .ok (.bipush 9, 2) := by decide +kernel
theorem dX6_disputed_11 : decode cX6_disputed 11 = .ok (.iaload, 1) := by decide +kernel
theorem dX6_disputed_12 : decode cX6_disputed 12 = .ok (.if_icmp .ge 27, 3) := by decide +kernel
theorem dX6_disputed_15 : decode cX6_disputed 15 = .ok (.iload_n 1, 1) := by decide +kernel
theorem dX6_disputed_16 : decode cX6_disputed 16 = .ok (.aload_n 0, 1) := by decide +kernel
theorem dX6_disputed_17 : decode cX6_disputed 17 = .ok (.iload_n 2, 1) := by decide +kernel
theorem dX6_disputed_18 : decode cX6_disputed 18 = .ok (.iconst 4, 1) := by decide +kernel
theorem dX6_disputed_19 : decode cX6_disputed 19 = .ok (.invokevirtual 127, 3) := by decide +kernel
theorem dX6_disputed_22 : decode cX6_disputed 22 = .ok (.iconst 1, 1) := by decide +kernel
theorem dX6_disputed_23 : decode cX6_disputed 23 = .ok (.if_icmp .ne 7, 3) := by decide +kernel
theorem dX6_disputed_26 : decode cX6_disputed 26 = .ok (.iconst 1, 1) := by decide +kernel
theorem dX6_disputed_27 : decode cX6_disputed 27 = .ok (.goto 4, 3) := by decide +kernel
theorem dX6_disputed_30 : decode cX6_disputed 30 = .ok (.iconst 0, 1) := by decide +kernel
theorem dX6_disputed_31 : decode cX6_disputed 31 = .ok (.iadd, 1) := by decide +kernel
theorem dX6_disputed_32 : decode cX6_disputed 32 = .ok (.istore_n 1, 1) := by decide +kernel
theorem dX6_disputed_33 : decode cX6_disputed 33 = .ok (.iinc 2 1, 3) := by decide +kernel
theorem dX6_disputed_36 : decode cX6_disputed 36 = .ok (.goto (-32), 3) := by decide +kernel
theorem dX6_disputed_39 : decode cX6_disputed 39 = .ok (.iload_n 1, 1) := by decide +kernel
theorem dX6_disputed_40 : decode cX6_disputed 40 = .ok (.ireturn, 1) := by decide +kernel
theorem dX6_counted_0 : decode cX6_counted 0 = .ok (.iload_n 1, 1) := by decide +kernel
theorem dX6_counted_1 : decode cX6_counted 1 = .ok (.tableswitch 120 0 13 #[71, 78, 78, 90, 120, 120, 120, 120, 120, 95, 95, 95, 107, 115], 71) := by decide +kernel
theorem dX6_counted_72 : decode cX6_counted 72 = .ok (.aload_n 0, 1) := by decide +kernel
theorem dX6_counted_73 : decode cX6_counted 73 = .ok (.getfield 7, 3) := by decide +kernel
theorem dX6_counted_76 : decode cX6_counted 76 = .ok (.iconst 4, 1) := by decide +kernel
theorem dX6_counted_77 : decode cX6_counted 77 = .ok (.iaload, 1) := by decide +kernel
theorem dX6_counted_78 : decode cX6_counted 78 = .ok (.ireturn, 1) := by decide +kernel
theorem dX6_counted_79 : decode cX6_counted 79 = .ok (.aload_n 0, 1) := by decide +kernel
theorem dX6_counted_80 : decode cX6_counted 80 = .ok (.getfield 7, 3) := by decide +kernel
theorem dX6_counted_83 : decode cX6_counted 83 = .ok (.bipush 8, 2) := by decide +kernel
theorem dX6_counted_85 : decode cX6_counted 85 = .ok (.iload_n 1, 1) := by decide +kernel
theorem dX6_counted_86 : decode cX6_counted 86 = .ok (.iadd, 1) := by decide +kernel
theorem dX6_counted_87 : decode cX6_counted 87 = .ok (.iconst 1, 1) := by decide +kernel
theorem dX6_counted_88 : decode cX6_counted 88 = .ok (.isub, 1) := by decide +kernel
theorem dX6_counted_89 : decode cX6_counted 89 = .ok (.iaload, 1) := by decide +kernel
theorem dX6_counted_90 : decode cX6_counted 90 = .ok (.ireturn, 1) := by decide +kernel
theorem dX6_counted_91 : decode cX6_counted 91 = .ok (.aload_n 0, 1) := by decide +kernel
theorem dX6_counted_92 : decode cX6_counted 92 = .ok (.invokevirtual 200, 3) := by decide +kernel
theorem dX6_counted_95 : decode cX6_counted 95 = .ok (.ireturn, 1) := by decide +kernel
theorem dX6_counted_96 : decode cX6_counted 96 = .ok (.aload_n 0, 1) := by decide +kernel
theorem dX6_counted_97 : decode cX6_counted 97 = .ok (.getfield 7, 3) := by decide +kernel
theorem dX6_counted_100 : decode cX6_counted 100 = .ok (.iconst 4, 1) := by decide +kernel
theorem dX6_counted_101 : decode cX6_counted 101 = .ok (.iload_n 1, 1) := by decide +kernel
theorem dX6_counted_102 : decode cX6_counted 102 = .ok (.iadd, 1) := by decide +kernel
theorem dX6_counted_103 : decode cX6_counted 103 = .ok (.bipush 8, 2) := by decide +kernel
theorem dX6_counted_105 : decode cX6_counted 105 = .ok (.isub, 1) := by decide +kernel
theorem dX6_counted_106 : decode cX6_counted 106 = .ok (.iaload, 1) := by decide +kernel
theorem dX6_counted_107 : decode cX6_counted 107 = .ok (.ireturn, 1) := by decide +kernel
theorem dX6_counted_108 : decode cX6_counted 108 = .ok (.aload_n 0, 1) := by decide +kernel
theorem dX6_counted_109 : decode cX6_counted 109 = .ok (.getfield 7, 3) := by decide +kernel
theorem dX6_counted_112 : decode cX6_counted 112 = .ok (.bipush 15, 2) := by decide +kernel
theorem dX6_counted_114 : decode cX6_counted 114 = .ok (.iaload, 1) := by decide +kernel
theorem dX6_counted_115 : decode cX6_counted 115 = .ok (.ireturn, 1) := by decide +kernel
theorem dX6_counted_116 : decode cX6_counted 116 = .ok (.aload_n 0, 1) := by decide +kernel
theorem dX6_counted_117 : decode cX6_counted 117 = .ok (.getfield 26, 3) := by decide +kernel
theorem dX6_counted_120 : decode cX6_counted 120 = .ok (.ireturn, 1) := by decide +kernel
theorem dX6_counted_121 : decode cX6_counted 121 = .ok (.aload_n 0, 1) := by decide +kernel
theorem dX6_counted_122 : decode cX6_counted 122 = .ok (.getfield 7, 3) := by decide +kernel
theorem dX6_counted_125 : decode cX6_counted 125 = .ok (.bipush 10, 2) := by decide +kernel
theorem dX6_counted_127 : decode cX6_counted 127 = .ok (.iload_n 1, 1) := by decide +kernel
theorem dX6_counted_128 : decode cX6_counted 128 = .ok (.iadd, 1) := by decide +kernel
theorem dX6_counted_129 : decode cX6_counted 129 = .ok (.iconst 4, 1) := by decide +kernel
theorem dX6_counted_130 : decode cX6_counted 130 = .ok (.isub, 1) := by decide +kernel
theorem dX6_counted_131 : decode cX6_counted 131 = .ok (.iaload, 1) := by decide +kernel
theorem dX6_counted_132 : decode cX6_counted 132 = .ok (.ireturn, 1) := by decide +kernel
theorem dX6_count_0 : decode cX6_count 0 = .ok (.aload_n 0, 1) := by decide +kernel
theorem dX6_count_1 : decode cX6_count 1 = .ok (.iload_n 1, 1) := by decide +kernel
theorem dX6_count_2 : decode cX6_count 2 = .ok (.iconst 0, 1) := by decide +kernel
theorem dX6_count_3 : decode cX6_count 3 = .ok (.bipush 13, 2) := by decide +kernel
theorem dX6_count_5 : decode cX6_count 5 = .ok (.invokestatic 29, 3) := by decide +kernel
theorem dX6_count_8 : decode cX6_count 8 = .ok (.ifCond .eq 7, 3) := by decide +kernel
theorem dX6_count_11 : decode cX6_count 11 = .ok (.iconst 0, 1) := by decide +kernel
theorem dX6_count_12 : decode cX6_count 12 = .ok (.goto 4, 3) := by decide +kernel
theorem dX6_count_15 : decode cX6_count 15 = .ok (.iconst 1, 1) := by decide +kernel
theorem dX6_count_16 : decode cX6_count 16 = .ok (.putfield 22, 3) := by decide +kernel
theorem dX6_count_19 : decode cX6_count 19 = .ok (.aload_n 0, 1) := by decide +kernel
theorem dX6_count_20 : decode cX6_count 20 = .ok (.getfield 22, 3) := by decide +kernel
theorem dX6_count_23 : decode cX6_count 23 = .ok (.ifCond .le 7, 3) := by decide +kernel
theorem dX6_count_26 : decode cX6_count 26 = .ok (.iconst 0, 1) := by decide +kernel
theorem dX6_count_27 : decode cX6_count 27 = .ok (.goto 8, 3) := by decide +kernel
theorem dX6_count_30 : decode cX6_count 30 = .ok (.aload_n 0, 1) := by decide +kernel
theorem dX6_count_31 : decode cX6_count 31 = .ok (.iload_n 1, 1) := by decide +kernel
theorem dX6_count_32 : decode cX6_count 32 = .ok (.invokevirtual 203, 3) := by decide +kernel
theorem dX6_count_35 : decode cX6_count 35 = .ok (.ireturn, 1) := by decide +kernel
theorem dX6_setting_0 : decode cX6_setting 0 = .ok (.aload_n 0, 1) := by decide +kernel
theorem dX6_setting_1 : decode cX6_setting 1 = .ok (.iload_n 1, 1) := by decide +kernel
theorem dX6_setting_2 : decode cX6_setting 2 = .ok (.invokestatic 158, 3) := by decide +kernel
theorem dX6_setting_5 : decode cX6_setting 5 = .ok (.ifCond .eq 7, 3) := by decide +kernel
theorem dX6_setting_8 : decode cX6_setting 8 = .ok (.iconst 0, 1) := by decide +kernel
theorem dX6_setting_9 : decode cX6_setting 9 = .ok (.goto 4, 3) := by decide +kernel
theorem dX6_setting_12 : decode cX6_setting 12 = .ok (.iconst 1, 1) := by decide +kernel
theorem dX6_setting_13 : decode cX6_setting 13 = .ok (.putfield 22, 3) := by decide +kernel
theorem dX6_setting_16 : decode cX6_setting 16 = .ok (.aload_n 0, 1) := by decide +kernel
theorem dX6_setting_17 : decode cX6_setting 17 = .ok (.getfield 22, 3) := by decide +kernel
theorem dX6_setting_20 : decode cX6_setting 20 = .ok (.ifCond .le 7, 3) := by decide +kernel
theorem dX6_setting_23 : decode cX6_setting 23 = .ok (.iconst 0, 1) := by decide +kernel
theorem dX6_setting_24 : decode cX6_setting 24 = .ok (.goto 9, 3) := by decide +kernel
theorem dX6_setting_27 : decode cX6_setting 27 = .ok (.aload_n 0, 1) := by decide +kernel
theorem dX6_setting_28 : decode cX6_setting 28 = .ok (.getfield 7, 3) := by decide +kernel
theorem dX6_setting_31 : decode cX6_setting 31 = .ok (.iload_n 1, 1) := by decide +kernel
theorem dX6_setting_32 : decode cX6_setting 32 = .ok (.iaload, 1) := by decide +kernel
theorem dX6_setting_33 : decode cX6_setting 33 = .ok (.ireturn, 1) := by decide +kernel
theorem dX6_exchangedThen_0 : decode cX6_exchangedThen 0 = .ok (.iload_n 2, 1) := by decide +kernel
theorem dX6_exchangedThen_1 : decode cX6_exchangedThen 1 = .ok (.iload_n 3, 1) := by decide +kernel
theorem dX6_exchangedThen_2 : decode cX6_exchangedThen 2 = .ok (.invokestatic 99, 3) := by decide +kernel
theorem dX6_exchangedThen_5 : decode cX6_exchangedThen 5 = .ok (.ifCond .eq 7, 3) := by decide +kernel
theorem dX6_exchangedThen_8 : decode cX6_exchangedThen 8 = .ok (.iconst (-1), 1) := by decide +kernel
theorem dX6_exchangedThen_9 : decode cX6_exchangedThen 9 = .ok (.goto 12, 3) := by decide +kernel
theorem dX6_exchangedThen_12 : decode cX6_exchangedThen 12 = .ok (.aload_n 0, 1) := by decide +kernel
theorem dX6_exchangedThen_13 : decode cX6_exchangedThen 13 = .ok (.iload_n 1, 1) := by decide +kernel
theorem dX6_exchangedThen_14 : decode cX6_exchangedThen 14 = .ok (.iload_n 2, 1) := by decide +kernel
theorem dX6_exchangedThen_15 : decode cX6_exchangedThen 15 = .ok (.iload_n 3, 1) := by decide +kernel
theorem dX6_exchangedThen_16 : decode cX6_exchangedThen 16 = .ok (.iload 4, 2) := by decide +kernel
theorem dX6_exchangedThen_18 : decode cX6_exchangedThen 18 = .ok (.invokevirtual 206, 3) := by decide +kernel
theorem dX6_exchangedThen_21 : decode cX6_exchangedThen 21 = .ok (.ireturn, 1) := by decide +kernel
theorem dX6_ifExchanged_0 : decode cX6_ifExchanged 0 = .ok (.aload_n 0, 1) := by decide +kernel
theorem dX6_ifExchanged_1 : decode cX6_ifExchanged 1 = .ok (.iload_n 1, 1) := by decide +kernel
theorem dX6_ifExchanged_2 : decode cX6_ifExchanged 2 = .ok (.iload_n 2, 1) := by decide +kernel
theorem dX6_ifExchanged_3 : decode cX6_ifExchanged 3 = .ok (.invokestatic 40, 3) := by decide +kernel
theorem dX6_ifExchanged_6 : decode cX6_ifExchanged 6 = .ok (.ifCond .eq 10, 3) := by decide +kernel
theorem dX6_ifExchanged_9 : decode cX6_ifExchanged 9 = .ok (.iload_n 3, 1) := by decide +kernel
theorem dX6_ifExchanged_10 : decode cX6_ifExchanged 10 = .ok (.invokestatic 37, 3) := by decide +kernel
theorem dX6_ifExchanged_13 : decode cX6_ifExchanged 13 = .ok (.ifCond .ne 7, 3) := by decide +kernel
theorem dX6_ifExchanged_16 : decode cX6_ifExchanged 16 = .ok (.iconst 1, 1) := by decide +kernel
theorem dX6_ifExchanged_17 : decode cX6_ifExchanged 17 = .ok (.goto 16, 3) := by decide +kernel
theorem dX6_ifExchanged_20 : decode cX6_ifExchanged 20 = .ok (.iload 4, 2) := by decide +kernel
theorem dX6_ifExchanged_22 : decode cX6_ifExchanged 22 = .ok (.invokestatic 62, 3) := by decide +kernel
theorem dX6_ifExchanged_25 : decode cX6_ifExchanged 25 = .ok (.ifCond .eq 7, 3) := by decide +kernel
theorem dX6_ifExchanged_28 : decode cX6_ifExchanged 28 = .ok (.iconst 0, 1) := by decide +kernel
theorem dX6_ifExchanged_29 : decode cX6_ifExchanged 29 = .ok (.goto 4, 3) := by decide +kernel
theorem dX6_ifExchanged_32 : decode cX6_ifExchanged 32 = .ok (.iconst 2, 1) := by decide +kernel
theorem dX6_ifExchanged_33 : decode cX6_ifExchanged 33 = .ok (.putfield 22, 3) := by decide +kernel
theorem dX6_ifExchanged_36 : decode cX6_ifExchanged 36 = .ok (.aload_n 0, 1) := by decide +kernel
theorem dX6_ifExchanged_37 : decode cX6_ifExchanged 37 = .ok (.getfield 22, 3) := by decide +kernel
theorem dX6_ifExchanged_40 : decode cX6_ifExchanged 40 = .ok (.ifCond .le 7, 3) := by decide +kernel
theorem dX6_ifExchanged_43 : decode cX6_ifExchanged 43 = .ok (.iconst 0, 1) := by decide +kernel
theorem dX6_ifExchanged_44 : decode cX6_ifExchanged 44 = .ok (.goto 12, 3) := by decide +kernel
theorem dX6_ifExchanged_47 : decode cX6_ifExchanged 47 = .ok (.aload_n 0, 1) := by decide +kernel
theorem dX6_ifExchanged_48 : decode cX6_ifExchanged 48 = .ok (.iload_n 1, 1) := by decide +kernel
theorem dX6_ifExchanged_49 : decode cX6_ifExchanged 49 = .ok (.iload_n 2, 1) := by decide +kernel
theorem dX6_ifExchanged_50 : decode cX6_ifExchanged 50 = .ok (.iload_n 3, 1) := by decide +kernel
theorem dX6_ifExchanged_51 : decode cX6_ifExchanged 51 = .ok (.iload 4, 2) := by decide +kernel
theorem dX6_ifExchanged_53 : decode cX6_ifExchanged 53 = .ok (.invokevirtual 209, 3) := by decide +kernel
theorem dX6_ifExchanged_56 : decode cX6_ifExchanged 56 = .ok (.ireturn, 1) := by decide +kernel
theorem dX6_neededFor_0 : decode cX6_neededFor 0 = .ok (.iconst 1, 1) := by decide +kernel
theorem dX6_neededFor_1 : decode cX6_neededFor 1 = .ok (.istore 4, 2) := by decide +kernel
theorem dX6_neededFor_3 : decode cX6_neededFor 3 = .ok (.ldc 212, 2) := by decide +kernel
theorem dX6_neededFor_5 : decode cX6_neededFor 5 = .ok (.istore 5, 2) := by decide +kernel
theorem dX6_neededFor_7 : decode cX6_neededFor 7 = .ok (.iload 4, 2) := by decide +kernel
theorem dX6_neededFor_9 : decode cX6_neededFor 9 = .ok (.iload 5, 2) := by decide +kernel
theorem dX6_neededFor_11 : decode cX6_neededFor 11 = .ok (.if_icmp .ge 41, 3) := by decide +kernel
theorem dX6_neededFor_14 : decode cX6_neededFor 14 = .ok (.iload 4, 2) := by decide +kernel
theorem dX6_neededFor_16 : decode cX6_neededFor 16 = .ok (.iload 5, 2) := by decide +kernel
theorem dX6_neededFor_18 : decode cX6_neededFor 18 = .ok (.iadd, 1) := by decide +kernel
theorem dX6_neededFor_19 : decode cX6_neededFor 19 = .ok (.iconst 2, 1) := by decide +kernel
theorem dX6_neededFor_20 : decode cX6_neededFor 20 = .ok (.idiv, 1) := by decide +kernel
theorem dX6_neededFor_21 : decode cX6_neededFor 21 = .ok (.istore 6, 2) := by decide +kernel
theorem dX6_neededFor_23 : decode cX6_neededFor 23 = .ok (.aload_n 0, 1) := by decide +kernel
theorem dX6_neededFor_24 : decode cX6_neededFor 24 = .ok (.iload_n 1, 1) := by decide +kernel
theorem dX6_neededFor_25 : decode cX6_neededFor 25 = .ok (.iconst 0, 1) := by decide +kernel
theorem dX6_neededFor_26 : decode cX6_neededFor 26 = .ok (.iload_n 2, 1) := by decide +kernel
theorem dX6_neededFor_27 : decode cX6_neededFor 27 = .ok (.iload 6, 2) := by decide +kernel
theorem dX6_neededFor_29 : decode cX6_neededFor 29 = .ok (.invokevirtual 206, 3) := by decide +kernel
theorem dX6_neededFor_32 : decode cX6_neededFor 32 = .ok (.iload_n 3, 1) := by decide +kernel
theorem dX6_neededFor_33 : decode cX6_neededFor 33 = .ok (.if_icmp .ge 12, 3) := by decide +kernel
theorem dX6_neededFor_36 : decode cX6_neededFor 36 = .ok (.iload 6, 2) := by decide +kernel
theorem dX6_neededFor_38 : decode cX6_neededFor 38 = .ok (.iconst 1, 1) := by decide +kernel
theorem dX6_neededFor_39 : decode cX6_neededFor 39 = .ok (.iadd, 1) := by decide +kernel
theorem dX6_neededFor_40 : decode cX6_neededFor 40 = .ok (.istore 4, 2) := by decide +kernel
theorem dX6_neededFor_42 : decode cX6_neededFor 42 = .ok (.goto 7, 3) := by decide +kernel
theorem dX6_neededFor_45 : decode cX6_neededFor 45 = .ok (.iload 6, 2) := by decide +kernel
theorem dX6_neededFor_47 : decode cX6_neededFor 47 = .ok (.istore 5, 2) := by decide +kernel
theorem dX6_neededFor_49 : decode cX6_neededFor 49 = .ok (.goto (-42), 3) := by decide +kernel
theorem dX6_neededFor_52 : decode cX6_neededFor 52 = .ok (.iload 4, 2) := by decide +kernel
theorem dX6_neededFor_54 : decode cX6_neededFor 54 = .ok (.ireturn, 1) := by decide +kernel
theorem dX6_needed_0 : decode cX6_needed 0 = .ok (.aload_n 0, 1) := by decide +kernel
theorem dX6_needed_1 : decode cX6_needed 1 = .ok (.iload_n 1, 1) := by decide +kernel
theorem dX6_needed_2 : decode cX6_needed 2 = .ok (.iload_n 2, 1) := by decide +kernel
theorem dX6_needed_3 : decode cX6_needed 3 = .ok (.invokestatic 83, 3) := by decide +kernel
theorem dX6_needed_6 : decode cX6_needed 6 = .ok (.ifCond .ne 7, 3) := by decide +kernel
theorem dX6_needed_9 : decode cX6_needed 9 = .ok (.iconst 1, 1) := by decide +kernel
theorem dX6_needed_10 : decode cX6_needed 10 = .ok (.goto 19, 3) := by decide +kernel
theorem dX6_needed_13 : decode cX6_needed 13 = .ok (.iload_n 3, 1) := by decide +kernel
theorem dX6_needed_14 : decode cX6_needed 14 = .ok (.iconst 1, 1) := by decide +kernel
theorem dX6_needed_15 : decode cX6_needed 15 = .ok (.sipush 9999, 3) := by decide +kernel
theorem dX6_needed_18 : decode cX6_needed 18 = .ok (.invokestatic 29, 3) := by decide +kernel
theorem dX6_needed_21 : decode cX6_needed 21 = .ok (.ifCond .eq 7, 3) := by decide +kernel
theorem dX6_needed_24 : decode cX6_needed 24 = .ok (.iconst 0, 1) := by decide +kernel
theorem dX6_needed_25 : decode cX6_needed 25 = .ok (.goto 4, 3) := by decide +kernel
theorem dX6_needed_28 : decode cX6_needed 28 = .ok (.iconst 2, 1) := by decide +kernel
theorem dX6_needed_29 : decode cX6_needed 29 = .ok (.putfield 22, 3) := by decide +kernel
theorem dX6_needed_32 : decode cX6_needed 32 = .ok (.aload_n 0, 1) := by decide +kernel
theorem dX6_needed_33 : decode cX6_needed 33 = .ok (.getfield 22, 3) := by decide +kernel
theorem dX6_needed_36 : decode cX6_needed 36 = .ok (.ifCond .le 7, 3) := by decide +kernel
theorem dX6_needed_39 : decode cX6_needed 39 = .ok (.iconst 0, 1) := by decide +kernel
theorem dX6_needed_40 : decode cX6_needed 40 = .ok (.goto 10, 3) := by decide +kernel
theorem dX6_needed_43 : decode cX6_needed 43 = .ok (.aload_n 0, 1) := by decide +kernel
theorem dX6_needed_44 : decode cX6_needed 44 = .ok (.iload_n 1, 1) := by decide +kernel
theorem dX6_needed_45 : decode cX6_needed 45 = .ok (.iload_n 2, 1) := by decide +kernel
theorem dX6_needed_46 : decode cX6_needed 46 = .ok (.iload_n 3, 1) := by decide +kernel
theorem dX6_needed_47 : decode cX6_needed 47 = .ok (.invokevirtual 213, 3) := by decide +kernel
theorem dX6_needed_50 : decode cX6_needed 50 = .ok (.ireturn, 1) := by decide +kernel
theorem dX6_roomOf_0 : decode cX6_roomOf 0 = .ok (.aload_n 0, 1) := by decide +kernel
theorem dX6_roomOf_1 : decode cX6_roomOf 1 = .ok (.iload_n 1, 1) := by decide +kernel
theorem dX6_roomOf_2 : decode cX6_roomOf 2 = .ok (.iload_n 2, 1) := by decide +kernel
theorem dX6_roomOf_3 : decode cX6_roomOf 3 = .ok (.invokevirtual 102, 3) := by decide +kernel
theorem dX6_roomOf_6 : decode cX6_roomOf 6 = .ok (.istore_n 3, 1) := by decide +kernel
theorem dX6_roomOf_7 : decode cX6_roomOf 7 = .ok (.iconst 0, 1) := by decide +kernel
theorem dX6_roomOf_8 : decode cX6_roomOf 8 = .ok (.istore 4, 2) := by decide +kernel
theorem dX6_roomOf_10 : decode cX6_roomOf 10 = .ok (.ldc 44, 2) := by decide +kernel
theorem dX6_roomOf_12 : decode cX6_roomOf 12 = .ok (.istore 5, 2) := by decide +kernel
theorem dX6_roomOf_14 : decode cX6_roomOf 14 = .ok (.iload 4, 2) := by decide +kernel
theorem dX6_roomOf_16 : decode cX6_roomOf 16 = .ok (.iload 5, 2) := by decide +kernel
theorem dX6_roomOf_18 : decode cX6_roomOf 18 = .ok (.if_icmp .ge 40, 3) := by decide +kernel
theorem dX6_roomOf_21 : decode cX6_roomOf 21 = .ok (.iload 4, 2) := by decide +kernel
theorem dX6_roomOf_23 : decode cX6_roomOf 23 = .ok (.iload 5, 2) := by decide +kernel
theorem dX6_roomOf_25 : decode cX6_roomOf 25 = .ok (.iadd, 1) := by decide +kernel
theorem dX6_roomOf_26 : decode cX6_roomOf 26 = .ok (.iconst 1, 1) := by decide +kernel
theorem dX6_roomOf_27 : decode cX6_roomOf 27 = .ok (.iadd, 1) := by decide +kernel
theorem dX6_roomOf_28 : decode cX6_roomOf 28 = .ok (.iconst 2, 1) := by decide +kernel
theorem dX6_roomOf_29 : decode cX6_roomOf 29 = .ok (.idiv, 1) := by decide +kernel
theorem dX6_roomOf_30 : decode cX6_roomOf 30 = .ok (.istore 6, 2) := by decide +kernel
theorem dX6_roomOf_32 : decode cX6_roomOf 32 = .ok (.aload_n 0, 1) := by decide +kernel
theorem dX6_roomOf_33 : decode cX6_roomOf 33 = .ok (.iload 6, 2) := by decide +kernel
theorem dX6_roomOf_35 : decode cX6_roomOf 35 = .ok (.invokevirtual 111, 3) := by decide +kernel
theorem dX6_roomOf_38 : decode cX6_roomOf 38 = .ok (.iload_n 3, 1) := by decide +kernel
theorem dX6_roomOf_39 : decode cX6_roomOf 39 = .ok (.if_icmp .gt 10, 3) := by decide +kernel
theorem dX6_roomOf_42 : decode cX6_roomOf 42 = .ok (.iload 6, 2) := by decide +kernel
theorem dX6_roomOf_44 : decode cX6_roomOf 44 = .ok (.istore 4, 2) := by decide +kernel
theorem dX6_roomOf_46 : decode cX6_roomOf 46 = .ok (.goto 9, 3) := by decide +kernel
theorem dX6_roomOf_49 : decode cX6_roomOf 49 = .ok (.iload 6, 2) := by decide +kernel
theorem dX6_roomOf_51 : decode cX6_roomOf 51 = .ok (.iconst 1, 1) := by decide +kernel
theorem dX6_roomOf_52 : decode cX6_roomOf 52 = .ok (.isub, 1) := by decide +kernel
theorem dX6_roomOf_53 : decode cX6_roomOf 53 = .ok (.istore 5, 2) := by decide +kernel
theorem dX6_roomOf_55 : decode cX6_roomOf 55 = .ok (.goto (-41), 3) := by decide +kernel
theorem dX6_roomOf_58 : decode cX6_roomOf 58 = .ok (.iload 4, 2) := by decide +kernel
theorem dX6_roomOf_60 : decode cX6_roomOf 60 = .ok (.ireturn, 1) := by decide +kernel
theorem dX6_room_0 : decode cX6_room 0 = .ok (.aload_n 0, 1) := by decide +kernel
theorem dX6_room_1 : decode cX6_room 1 = .ok (.iload_n 1, 1) := by decide +kernel
theorem dX6_room_2 : decode cX6_room 2 = .ok (.iload_n 2, 1) := by decide +kernel
theorem dX6_room_3 : decode cX6_room 3 = .ok (.invokestatic 40, 3) := by decide +kernel
theorem dX6_room_6 : decode cX6_room 6 = .ok (.ifCond .eq 7, 3) := by decide +kernel
theorem dX6_room_9 : decode cX6_room 9 = .ok (.iconst 0, 1) := by decide +kernel
theorem dX6_room_10 : decode cX6_room 10 = .ok (.goto 4, 3) := by decide +kernel
theorem dX6_room_13 : decode cX6_room 13 = .ok (.iconst 1, 1) := by decide +kernel
theorem dX6_room_14 : decode cX6_room 14 = .ok (.putfield 22, 3) := by decide +kernel
theorem dX6_room_17 : decode cX6_room 17 = .ok (.aload_n 0, 1) := by decide +kernel
theorem dX6_room_18 : decode cX6_room 18 = .ok (.getfield 22, 3) := by decide +kernel
theorem dX6_room_21 : decode cX6_room 21 = .ok (.ifCond .le 7, 3) := by decide +kernel
theorem dX6_room_24 : decode cX6_room 24 = .ok (.iconst 0, 1) := by decide +kernel
theorem dX6_room_25 : decode cX6_room 25 = .ok (.goto 9, 3) := by decide +kernel
theorem dX6_room_28 : decode cX6_room 28 = .ok (.aload_n 0, 1) := by decide +kernel
theorem dX6_room_29 : decode cX6_room 29 = .ok (.iload_n 1, 1) := by decide +kernel
theorem dX6_room_30 : decode cX6_room 30 = .ok (.iload_n 2, 1) := by decide +kernel
theorem dX6_room_31 : decode cX6_room 31 = .ok (.invokevirtual 216, 3) := by decide +kernel
theorem dX6_room_34 : decode cX6_room 34 = .ok (.ireturn, 1) := by decide +kernel
theorem dX6_whyNot_0 : decode cX6_whyNot 0 = .ok (.aload_n 0, 1) := by decide +kernel
theorem dX6_whyNot_1 : decode cX6_whyNot 1 = .ok (.iload_n 2, 1) := by decide +kernel
theorem dX6_whyNot_2 : decode cX6_whyNot 2 = .ok (.iload_n 3, 1) := by decide +kernel
theorem dX6_whyNot_3 : decode cX6_whyNot 3 = .ok (.invokestatic 40, 3) := by decide +kernel
theorem dX6_whyNot_6 : decode cX6_whyNot 6 = .ok (.ifCond .eq 11, 3) := by decide +kernel
theorem dX6_whyNot_9 : decode cX6_whyNot 9 = .ok (.iload 4, 2) := by decide +kernel
theorem dX6_whyNot_11 : decode cX6_whyNot 11 = .ok (.invokestatic 37, 3) := by decide +kernel
theorem dX6_whyNot_14 : decode cX6_whyNot 14 = .ok (.ifCond .ne 7, 3) := by decide +kernel
theorem dX6_whyNot_17 : decode cX6_whyNot 17 = .ok (.iconst 1, 1) := by decide +kernel
theorem dX6_whyNot_18 : decode cX6_whyNot 18 = .ok (.goto 25, 3) := by decide +kernel
theorem dX6_whyNot_21 : decode cX6_whyNot 21 = .ok (.iload_n 1, 1) := by decide +kernel
theorem dX6_whyNot_22 : decode cX6_whyNot 22 = .ok (.iconst 0, 1) := by decide +kernel
theorem dX6_whyNot_23 : decode cX6_whyNot 23 = .ok (.iconst 2, 1) := by decide +kernel
theorem dX6_whyNot_24 : decode cX6_whyNot 24 = .ok (.invokestatic 29, 3) := by decide +kernel
theorem dX6_whyNot_27 : decode cX6_whyNot 27 = .ok (.ifCond .eq 15, 3) := by decide +kernel
theorem dX6_whyNot_30 : decode cX6_whyNot 30 = .ok (.iload 5, 2) := by decide +kernel
theorem dX6_whyNot_32 : decode cX6_whyNot 32 = .ok (.invokestatic 62, 3) := by decide +kernel
theorem dX6_whyNot_35 : decode cX6_whyNot 35 = .ok (.ifCond .eq 7, 3) := by decide +kernel
theorem dX6_whyNot_38 : decode cX6_whyNot 38 = .ok (.iconst 0, 1) := by decide +kernel
theorem dX6_whyNot_39 : decode cX6_whyNot 39 = .ok (.goto 4, 3) := by decide +kernel
theorem dX6_whyNot_42 : decode cX6_whyNot 42 = .ok (.iconst 2, 1) := by decide +kernel
theorem dX6_whyNot_43 : decode cX6_whyNot 43 = .ok (.putfield 22, 3) := by decide +kernel
theorem dX6_whyNot_46 : decode cX6_whyNot 46 = .ok (.aload_n 0, 1) := by decide +kernel
theorem dX6_whyNot_47 : decode cX6_whyNot 47 = .ok (.getfield 22, 3) := by decide +kernel
theorem dX6_whyNot_50 : decode cX6_whyNot 50 = .ok (.ifCond .le 5, 3) := by decide +kernel
theorem dX6_whyNot_53 : decode cX6_whyNot 53 = .ok (.iconst 0, 1) := by decide +kernel
theorem dX6_whyNot_54 : decode cX6_whyNot 54 = .ok (.ireturn, 1) := by decide +kernel
theorem dX6_whyNot_55 : decode cX6_whyNot 55 = .ok (.iload_n 1, 1) := by decide +kernel
theorem dX6_whyNot_56 : decode cX6_whyNot 56 = .ok (.ifCond .ne 16, 3) := by decide +kernel
theorem dX6_whyNot_59 : decode cX6_whyNot 59 = .ok (.aload_n 0, 1) := by decide +kernel
theorem dX6_whyNot_60 : decode cX6_whyNot 60 = .ok (.iload_n 2, 1) := by decide +kernel
theorem dX6_whyNot_61 : decode cX6_whyNot 61 = .ok (.iload_n 3, 1) := by decide +kernel
theorem dX6_whyNot_62 : decode cX6_whyNot 62 = .ok (.iload 4, 2) := by decide +kernel
theorem dX6_whyNot_64 : decode cX6_whyNot 64 = .ok (.iload 5, 2) := by decide +kernel
theorem dX6_whyNot_66 : decode cX6_whyNot 66 = .ok (.invokevirtual 105, 3) := by decide +kernel
theorem dX6_whyNot_69 : decode cX6_whyNot 69 = .ok (.goto 24, 3) := by decide +kernel
theorem dX6_whyNot_72 : decode cX6_whyNot 72 = .ok (.iload_n 1, 1) := by decide +kernel
theorem dX6_whyNot_73 : decode cX6_whyNot 73 = .ok (.iconst 1, 1) := by decide +kernel
theorem dX6_whyNot_74 : decode cX6_whyNot 74 = .ok (.if_icmp .ne 14, 3) := by decide +kernel
theorem dX6_whyNot_77 : decode cX6_whyNot 77 = .ok (.aload_n 0, 1) := by decide +kernel
theorem dX6_whyNot_78 : decode cX6_whyNot 78 = .ok (.iload_n 2, 1) := by decide +kernel
theorem dX6_whyNot_79 : decode cX6_whyNot 79 = .ok (.iload_n 3, 1) := by decide +kernel
theorem dX6_whyNot_80 : decode cX6_whyNot 80 = .ok (.iload 5, 2) := by decide +kernel
theorem dX6_whyNot_82 : decode cX6_whyNot 82 = .ok (.invokevirtual 114, 3) := by decide +kernel
theorem dX6_whyNot_85 : decode cX6_whyNot 85 = .ok (.goto 8, 3) := by decide +kernel
theorem dX6_whyNot_88 : decode cX6_whyNot 88 = .ok (.aload_n 0, 1) := by decide +kernel
theorem dX6_whyNot_89 : decode cX6_whyNot 89 = .ok (.iload_n 2, 1) := by decide +kernel
theorem dX6_whyNot_90 : decode cX6_whyNot 90 = .ok (.invokevirtual 148, 3) := by decide +kernel
theorem dX6_whyNot_93 : decode cX6_whyNot 93 = .ok (.ireturn, 1) := by decide +kernel
theorem dX6_closedThen_0 : decode cX6_closedThen 0 = .ok (.aload_n 0, 1) := by decide +kernel
theorem dX6_closedThen_1 : decode cX6_closedThen 1 = .ok (.iload_n 1, 1) := by decide +kernel
theorem dX6_closedThen_2 : decode cX6_closedThen 2 = .ok (.invokevirtual 148, 3) := by decide +kernel
theorem dX6_closedThen_5 : decode cX6_closedThen 5 = .ok (.ifCond .le 5, 3) := by decide +kernel
theorem dX6_closedThen_8 : decode cX6_closedThen 8 = .ok (.iconst (-1), 1) := by decide +kernel
theorem dX6_closedThen_9 : decode cX6_closedThen 9 = .ok (.ireturn, 1) := by decide +kernel
theorem dX6_closedThen_10 : decode cX6_closedThen 10 = .ok (.aload_n 0, 1) := by decide +kernel
theorem dX6_closedThen_11 : decode cX6_closedThen 11 = .ok (.iload_n 1, 1) := by decide +kernel
theorem dX6_closedThen_12 : decode cX6_closedThen 12 = .ok (.iconst 0, 1) := by decide +kernel
theorem dX6_closedThen_13 : decode cX6_closedThen 13 = .ok (.iconst 0, 1) := by decide +kernel
theorem dX6_closedThen_14 : decode cX6_closedThen 14 = .ok (.invokevirtual 55, 3) := by decide +kernel
theorem dX6_closedThen_17 : decode cX6_closedThen 17 = .ok (.istore_n 2, 1) := by decide +kernel
theorem dX6_closedThen_18 : decode cX6_closedThen 18 = .ok (.iconst 1, 1) := by decide +kernel
theorem dX6_closedThen_19 : decode cX6_closedThen 19 = .ok (.istore_n 3, 1) := by decide +kernel
theorem dX6_closedThen_20 : decode cX6_closedThen 20 = .ok (.iload_n 3, 1) := by decide +kernel
theorem dX6_closedThen_21 : decode cX6_closedThen 21 = .ok (.iconst 4, 1) := by decide +kernel
theorem dX6_closedThen_22 : decode cX6_closedThen 22 = .ok (.if_icmp .ge 30, 3) := by decide +kernel
theorem dX6_closedThen_25 : decode cX6_closedThen 25 = .ok (.aload_n 0, 1) := by decide +kernel
theorem dX6_closedThen_26 : decode cX6_closedThen 26 = .ok (.iload_n 1, 1) := by decide +kernel
theorem dX6_closedThen_27 : decode cX6_closedThen 27 = .ok (.iload_n 3, 1) := by decide +kernel
theorem dX6_closedThen_28 : decode cX6_closedThen 28 = .ok (.iconst 0, 1) := by decide +kernel
theorem dX6_closedThen_29 : decode cX6_closedThen 29 = .ok (.aload_n 0, 1) := by decide +kernel
theorem dX6_closedThen_30 : decode cX6_closedThen 30 = .ok (.iload_n 1, 1) := by decide +kernel
theorem dX6_closedThen_31 : decode cX6_closedThen 31 = .ok (.iload_n 3, 1) := by decide +kernel
theorem dX6_closedThen_32 : decode cX6_closedThen 32 = .ok (.iconst 0, 1) := by decide +kernel
theorem dX6_closedThen_33 : decode cX6_closedThen 33 = .ok (.invokevirtual 55, 3) := by decide +kernel
theorem dX6_closedThen_36 : decode cX6_closedThen 36 = .ok (.invokevirtual 206, 3) := by decide +kernel
theorem dX6_closedThen_39 : decode cX6_closedThen 39 = .ok (.istore 4, 2) := by decide +kernel
theorem dX6_closedThen_41 : decode cX6_closedThen 41 = .ok (.iload_n 2, 1) := by decide +kernel
theorem dX6_closedThen_42 : decode cX6_closedThen 42 = .ok (.iload 4, 2) := by decide +kernel
theorem dX6_closedThen_44 : decode cX6_closedThen 44 = .ok (.iadd, 1) := by decide +kernel
theorem dX6_closedThen_45 : decode cX6_closedThen 45 = .ok (.istore_n 2, 1) := by decide +kernel
theorem dX6_closedThen_46 : decode cX6_closedThen 46 = .ok (.iinc 3 1, 3) := by decide +kernel
theorem dX6_closedThen_49 : decode cX6_closedThen 49 = .ok (.goto (-29), 3) := by decide +kernel
theorem dX6_closedThen_52 : decode cX6_closedThen 52 = .ok (.iload_n 2, 1) := by decide +kernel
theorem dX6_closedThen_53 : decode cX6_closedThen 53 = .ok (.ireturn, 1) := by decide +kernel
theorem dX6_ifClosed_0 : decode cX6_ifClosed 0 = .ok (.aload_n 0, 1) := by decide +kernel
theorem dX6_ifClosed_1 : decode cX6_ifClosed 1 = .ok (.iload_n 1, 1) := by decide +kernel
theorem dX6_ifClosed_2 : decode cX6_ifClosed 2 = .ok (.invokestatic 33, 3) := by decide +kernel
theorem dX6_ifClosed_5 : decode cX6_ifClosed 5 = .ok (.ifCond .eq 7, 3) := by decide +kernel
theorem dX6_ifClosed_8 : decode cX6_ifClosed 8 = .ok (.iconst 0, 1) := by decide +kernel
theorem dX6_ifClosed_9 : decode cX6_ifClosed 9 = .ok (.goto 4, 3) := by decide +kernel
theorem dX6_ifClosed_12 : decode cX6_ifClosed 12 = .ok (.iconst 1, 1) := by decide +kernel
theorem dX6_ifClosed_13 : decode cX6_ifClosed 13 = .ok (.putfield 22, 3) := by decide +kernel
theorem dX6_ifClosed_16 : decode cX6_ifClosed 16 = .ok (.aload_n 0, 1) := by decide +kernel
theorem dX6_ifClosed_17 : decode cX6_ifClosed 17 = .ok (.getfield 22, 3) := by decide +kernel
theorem dX6_ifClosed_20 : decode cX6_ifClosed 20 = .ok (.ifCond .le 7, 3) := by decide +kernel
theorem dX6_ifClosed_23 : decode cX6_ifClosed 23 = .ok (.iconst 0, 1) := by decide +kernel
theorem dX6_ifClosed_24 : decode cX6_ifClosed 24 = .ok (.goto 8, 3) := by decide +kernel
theorem dX6_ifClosed_27 : decode cX6_ifClosed 27 = .ok (.aload_n 0, 1) := by decide +kernel
theorem dX6_ifClosed_28 : decode cX6_ifClosed 28 = .ok (.iload_n 1, 1) := by decide +kernel
theorem dX6_ifClosed_29 : decode cX6_ifClosed 29 = .ok (.invokevirtual 219, 3) := by decide +kernel
theorem dX6_ifClosed_32 : decode cX6_ifClosed 32 = .ok (.ireturn, 1) := by decide +kernel
theorem dX6_share_0 : decode cX6_share 0 = .ok (.aload_n 0, 1) := by decide +kernel
theorem dX6_share_1 : decode cX6_share 1 = .ok (.iload_n 1, 1) := by decide +kernel
theorem dX6_share_2 : decode cX6_share 2 = .ok (.iload_n 2, 1) := by decide +kernel
theorem dX6_share_3 : decode cX6_share 3 = .ok (.iconst 0, 1) := by decide +kernel
theorem dX6_share_4 : decode cX6_share 4 = .ok (.invokevirtual 55, 3) := by decide +kernel
theorem dX6_share_7 : decode cX6_share 7 = .ok (.istore_n 3, 1) := by decide +kernel
theorem dX6_share_8 : decode cX6_share 8 = .ok (.iload_n 3, 1) := by decide +kernel
theorem dX6_share_9 : decode cX6_share 9 = .ok (.ifCond .ne 7, 3) := by decide +kernel
theorem dX6_share_12 : decode cX6_share 12 = .ok (.dconst 0, 1) := by decide +kernel
theorem dX6_share_13 : decode cX6_share 13 = .ok (.goto 13, 3) := by decide +kernel
theorem dX6_share_16 : decode cX6_share 16 = .ok (.aload_n 0, 1) := by decide +kernel
theorem dX6_share_17 : decode cX6_share 17 = .ok (.iload_n 1, 1) := by decide +kernel
theorem dX6_share_18 : decode cX6_share 18 = .ok (.iload_n 2, 1) := by decide +kernel
theorem dX6_share_19 : decode cX6_share 19 = .ok (.invokevirtual 59, 3) := by decide +kernel
theorem dX6_share_22 : decode cX6_share 22 = .ok (.i2d, 1) := by decide +kernel
theorem dX6_share_23 : decode cX6_share 23 = .ok (.iload_n 3, 1) := by decide +kernel
theorem dX6_share_24 : decode cX6_share 24 = .ok (.i2d, 1) := by decide +kernel
theorem dX6_share_25 : decode cX6_share 25 = .ok (.ddiv, 1) := by decide +kernel
theorem dX6_share_26 : decode cX6_share 26 = .ok (.dreturn, 1) := by decide +kernel
theorem dX6_heldShare_0 : decode cX6_heldShare 0 = .ok (.aload_n 0, 1) := by decide +kernel
theorem dX6_heldShare_1 : decode cX6_heldShare 1 = .ok (.iload_n 1, 1) := by decide +kernel
theorem dX6_heldShare_2 : decode cX6_heldShare 2 = .ok (.iload_n 2, 1) := by decide +kernel
theorem dX6_heldShare_3 : decode cX6_heldShare 3 = .ok (.invokestatic 40, 3) := by decide +kernel
theorem dX6_heldShare_6 : decode cX6_heldShare 6 = .ok (.ifCond .eq 7, 3) := by decide +kernel
theorem dX6_heldShare_9 : decode cX6_heldShare 9 = .ok (.iconst 0, 1) := by decide +kernel
theorem dX6_heldShare_10 : decode cX6_heldShare 10 = .ok (.goto 4, 3) := by decide +kernel
theorem dX6_heldShare_13 : decode cX6_heldShare 13 = .ok (.iconst 1, 1) := by decide +kernel
theorem dX6_heldShare_14 : decode cX6_heldShare 14 = .ok (.putfield 22, 3) := by decide +kernel
theorem dX6_heldShare_17 : decode cX6_heldShare 17 = .ok (.aload_n 0, 1) := by decide +kernel
theorem dX6_heldShare_18 : decode cX6_heldShare 18 = .ok (.getfield 22, 3) := by decide +kernel
theorem dX6_heldShare_21 : decode cX6_heldShare 21 = .ok (.ifCond .le 7, 3) := by decide +kernel
theorem dX6_heldShare_24 : decode cX6_heldShare 24 = .ok (.dconst 0, 1) := by decide +kernel
theorem dX6_heldShare_25 : decode cX6_heldShare 25 = .ok (.goto 9, 3) := by decide +kernel
theorem dX6_heldShare_28 : decode cX6_heldShare 28 = .ok (.aload_n 0, 1) := by decide +kernel
theorem dX6_heldShare_29 : decode cX6_heldShare 29 = .ok (.iload_n 1, 1) := by decide +kernel
theorem dX6_heldShare_30 : decode cX6_heldShare 30 = .ok (.iload_n 2, 1) := by decide +kernel
theorem dX6_heldShare_31 : decode cX6_heldShare 31 = .ok (.invokevirtual 222, 3) := by decide +kernel
theorem dX6_heldShare_34 : decode cX6_heldShare 34 = .ok (.dreturn, 1) := by decide +kernel
theorem dX6_mix_0 : decode cX6_mix 0 = .ok (.aload_n 0, 1) := by decide +kernel
theorem dX6_mix_1 : decode cX6_mix 1 = .ok (.ldc2_w 226, 3) := by decide +kernel
theorem dX6_mix_4 : decode cX6_mix 4 = .ok (.aload_n 0, 1) := by decide +kernel
theorem dX6_mix_5 : decode cX6_mix 5 = .ok (.getfield 228, 3) := by decide +kernel
theorem dX6_mix_8 : decode cX6_mix 8 = .ok (.lmul, 1) := by decide +kernel
theorem dX6_mix_9 : decode cX6_mix 9 = .ok (.lload_n 1, 1) := by decide +kernel
theorem dX6_mix_10 : decode cX6_mix 10 = .ok (.ladd, 1) := by decide +kernel
theorem dX6_mix_11 : decode cX6_mix 11 = .ok (.putfield 228, 3) := by decide +kernel
theorem dX6_mix_14 : decode cX6_mix 14 = .ok (.return_, 1) := by decide +kernel
theorem dX6_mixWallet_0 : decode cX6_mixWallet 0 = .ok (.iconst 0, 1) := by decide +kernel
theorem dX6_mixWallet_1 : decode cX6_mixWallet 1 = .ok (.istore_n 2, 1) := by decide +kernel
theorem dX6_mixWallet_2 : decode cX6_mixWallet 2 = .ok (.iload_n 2, 1) := by decide +kernel
theorem dX6_mixWallet_3 : decode cX6_mixWallet 3 = .ok (.iconst 4, 1) := by decide +kernel
theorem dX6_mixWallet_4 : decode cX6_mixWallet 4 = .ok (.if_icmp .ge 59, 3) := by decide +kernel
theorem dX6_mixWallet_7 : decode cX6_mixWallet 7 = .ok (.iconst 0, 1) := by decide +kernel
theorem dX6_mixWallet_8 : decode cX6_mixWallet 8 = .ok (.istore_n 3, 1) := by decide +kernel
theorem dX6_mixWallet_9 : decode cX6_mixWallet 9 = .ok (.iload_n 3, 1) := by decide +kernel
theorem dX6_mixWallet_10 : decode cX6_mixWallet 10 = .ok (.bipush 8, 2) := by decide +kernel
theorem dX6_mixWallet_12 : decode cX6_mixWallet 12 = .ok (.if_icmp .ge 21, 3) := by decide +kernel
theorem dX6_mixWallet_15 : decode cX6_mixWallet 15 = .ok (.aload_n 0, 1) := by decide +kernel
theorem dX6_mixWallet_16 : decode cX6_mixWallet 16 = .ok (.aload_n 0, 1) := by decide +kernel
theorem dX6_mixWallet_17 : decode cX6_mixWallet 17 = .ok (.iload_n 1, 1) := by decide +kernel
theorem dX6_mixWallet_18 : decode cX6_mixWallet 18 = .ok (.iload_n 2, 1) := by decide +kernel
theorem dX6_mixWallet_19 : decode cX6_mixWallet 19 = .ok (.iload_n 3, 1) := by decide +kernel
theorem dX6_mixWallet_20 : decode cX6_mixWallet 20 = .ok (.invokevirtual 194, 3) := by decide +kernel
theorem dX6_mixWallet_23 : decode cX6_mixWallet 23 = .ok (.i2l, 1) := by decide +kernel
theorem dX6_mixWallet_24 : decode cX6_mixWallet 24 = .ok (.invokevirtual 232, 3) := by decide +kernel
theorem dX6_mixWallet_27 : decode cX6_mixWallet 27 = .ok (.iinc 3 1, 3) := by decide +kernel
theorem dX6_mixWallet_30 : decode cX6_mixWallet 30 = .ok (.goto (-21), 3) := by decide +kernel
theorem dX6_mixWallet_33 : decode cX6_mixWallet 33 = .ok (.aload_n 0, 1) := by decide +kernel
theorem dX6_mixWallet_34 : decode cX6_mixWallet 34 = .ok (.aload_n 0, 1) := by decide +kernel
theorem dX6_mixWallet_35 : decode cX6_mixWallet 35 = .ok (.iload_n 1, 1) := by decide +kernel
theorem dX6_mixWallet_36 : decode cX6_mixWallet 36 = .ok (.iload_n 2, 1) := by decide +kernel
theorem dX6_mixWallet_37 : decode cX6_mixWallet 37 = .ok (.invokevirtual 216, 3) := by decide +kernel
theorem dX6_mixWallet_40 : decode cX6_mixWallet 40 = .ok (.i2l, 1) := by decide +kernel
theorem dX6_mixWallet_41 : decode cX6_mixWallet 41 = .ok (.invokevirtual 232, 3) := by decide +kernel
theorem dX6_mixWallet_44 : decode cX6_mixWallet 44 = .ok (.aload_n 0, 1) := by decide +kernel
theorem dX6_mixWallet_45 : decode cX6_mixWallet 45 = .ok (.aload_n 0, 1) := by decide +kernel
theorem dX6_mixWallet_46 : decode cX6_mixWallet 46 = .ok (.iload_n 1, 1) := by decide +kernel
theorem dX6_mixWallet_47 : decode cX6_mixWallet 47 = .ok (.iload_n 2, 1) := by decide +kernel
theorem dX6_mixWallet_48 : decode cX6_mixWallet 48 = .ok (.invokevirtual 222, 3) := by decide +kernel
theorem dX6_mixWallet_51 : decode cX6_mixWallet 51 = .ok (.invokestatic 236, 3) := by decide +kernel
theorem dX6_mixWallet_54 : decode cX6_mixWallet 54 = .ok (.invokevirtual 232, 3) := by decide +kernel
theorem dX6_mixWallet_57 : decode cX6_mixWallet 57 = .ok (.iinc 2 1, 3) := by decide +kernel
theorem dX6_mixWallet_60 : decode cX6_mixWallet 60 = .ok (.goto (-58), 3) := by decide +kernel
theorem dX6_mixWallet_63 : decode cX6_mixWallet 63 = .ok (.aload_n 0, 1) := by decide +kernel
theorem dX6_mixWallet_64 : decode cX6_mixWallet 64 = .ok (.aload_n 0, 1) := by decide +kernel
theorem dX6_mixWallet_65 : decode cX6_mixWallet 65 = .ok (.iload_n 1, 1) := by decide +kernel
theorem dX6_mixWallet_66 : decode cX6_mixWallet 66 = .ok (.iconst 0, 1) := by decide +kernel
theorem dX6_mixWallet_67 : decode cX6_mixWallet 67 = .ok (.iconst 1, 1) := by decide +kernel
theorem dX6_mixWallet_68 : decode cX6_mixWallet 68 = .ok (.sipush 1000, 3) := by decide +kernel
theorem dX6_mixWallet_71 : decode cX6_mixWallet 71 = .ok (.invokevirtual 209, 3) := by decide +kernel
theorem dX6_mixWallet_74 : decode cX6_mixWallet 74 = .ok (.i2l, 1) := by decide +kernel
theorem dX6_mixWallet_75 : decode cX6_mixWallet 75 = .ok (.invokevirtual 232, 3) := by decide +kernel
theorem dX6_mixWallet_78 : decode cX6_mixWallet 78 = .ok (.aload_n 0, 1) := by decide +kernel
theorem dX6_mixWallet_79 : decode cX6_mixWallet 79 = .ok (.aload_n 0, 1) := by decide +kernel
theorem dX6_mixWallet_80 : decode cX6_mixWallet 80 = .ok (.iload_n 1, 1) := by decide +kernel
theorem dX6_mixWallet_81 : decode cX6_mixWallet 81 = .ok (.iconst 2, 1) := by decide +kernel
theorem dX6_mixWallet_82 : decode cX6_mixWallet 82 = .ok (.iconst 0, 1) := by decide +kernel
theorem dX6_mixWallet_83 : decode cX6_mixWallet 83 = .ok (.sipush 1000, 3) := by decide +kernel
theorem dX6_mixWallet_86 : decode cX6_mixWallet 86 = .ok (.invokevirtual 209, 3) := by decide +kernel
theorem dX6_mixWallet_89 : decode cX6_mixWallet 89 = .ok (.i2l, 1) := by decide +kernel
theorem dX6_mixWallet_90 : decode cX6_mixWallet 90 = .ok (.invokevirtual 232, 3) := by decide +kernel
theorem dX6_mixWallet_93 : decode cX6_mixWallet 93 = .ok (.aload_n 0, 1) := by decide +kernel
theorem dX6_mixWallet_94 : decode cX6_mixWallet 94 = .ok (.aload_n 0, 1) := by decide +kernel
theorem dX6_mixWallet_95 : decode cX6_mixWallet 95 = .ok (.iload_n 1, 1) := by decide +kernel
theorem dX6_mixWallet_96 : decode cX6_mixWallet 96 = .ok (.iconst 3, 1) := by decide +kernel
theorem dX6_mixWallet_97 : decode cX6_mixWallet 97 = .ok (.sipush 500, 3) := by decide +kernel
theorem dX6_mixWallet_100 : decode cX6_mixWallet 100 = .ok (.invokevirtual 213, 3) := by decide +kernel
theorem dX6_mixWallet_103 : decode cX6_mixWallet 103 = .ok (.i2l, 1) := by decide +kernel
theorem dX6_mixWallet_104 : decode cX6_mixWallet 104 = .ok (.invokevirtual 232, 3) := by decide +kernel
theorem dX6_mixWallet_107 : decode cX6_mixWallet 107 = .ok (.aload_n 0, 1) := by decide +kernel
theorem dX6_mixWallet_108 : decode cX6_mixWallet 108 = .ok (.aload_n 0, 1) := by decide +kernel
theorem dX6_mixWallet_109 : decode cX6_mixWallet 109 = .ok (.iload_n 1, 1) := by decide +kernel
theorem dX6_mixWallet_110 : decode cX6_mixWallet 110 = .ok (.invokevirtual 148, 3) := by decide +kernel
theorem dX6_mixWallet_113 : decode cX6_mixWallet 113 = .ok (.i2l, 1) := by decide +kernel
theorem dX6_mixWallet_114 : decode cX6_mixWallet 114 = .ok (.invokevirtual 232, 3) := by decide +kernel
theorem dX6_mixWallet_117 : decode cX6_mixWallet 117 = .ok (.aload_n 0, 1) := by decide +kernel
theorem dX6_mixWallet_118 : decode cX6_mixWallet 118 = .ok (.aload_n 0, 1) := by decide +kernel
theorem dX6_mixWallet_119 : decode cX6_mixWallet 119 = .ok (.iload_n 1, 1) := by decide +kernel
theorem dX6_mixWallet_120 : decode cX6_mixWallet 120 = .ok (.invokevirtual 219, 3) := by decide +kernel
theorem dX6_mixWallet_123 : decode cX6_mixWallet 123 = .ok (.i2l, 1) := by decide +kernel
theorem dX6_mixWallet_124 : decode cX6_mixWallet 124 = .ok (.invokevirtual 232, 3) := by decide +kernel
theorem dX6_mixWallet_127 : decode cX6_mixWallet 127 = .ok (.return_, 1) := by decide +kernel
theorem dX6_digest_0 : decode cX6_digest 0 = .ok (.aload_n 0, 1) := by decide +kernel
theorem dX6_digest_1 : decode cX6_digest 1 = .ok (.iconst 0, 1) := by decide +kernel
theorem dX6_digest_2 : decode cX6_digest 2 = .ok (.putfield 22, 3) := by decide +kernel
theorem dX6_digest_5 : decode cX6_digest 5 = .ok (.aload_n 0, 1) := by decide +kernel
theorem dX6_digest_6 : decode cX6_digest 6 = .ok (.ldc2_w 242, 3) := by decide +kernel
theorem dX6_digest_9 : decode cX6_digest 9 = .ok (.putfield 228, 3) := by decide +kernel
theorem dX6_digest_12 : decode cX6_digest 12 = .ok (.iconst 0, 1) := by decide +kernel
theorem dX6_digest_13 : decode cX6_digest 13 = .ok (.istore_n 1, 1) := by decide +kernel
theorem dX6_digest_14 : decode cX6_digest 14 = .ok (.iload_n 1, 1) := by decide +kernel
theorem dX6_digest_15 : decode cX6_digest 15 = .ok (.bipush 14, 2) := by decide +kernel
theorem dX6_digest_17 : decode cX6_digest 17 = .ok (.if_icmp .ge 19, 3) := by decide +kernel
theorem dX6_digest_20 : decode cX6_digest 20 = .ok (.aload_n 0, 1) := by decide +kernel
theorem dX6_digest_21 : decode cX6_digest 21 = .ok (.aload_n 0, 1) := by decide +kernel
theorem dX6_digest_22 : decode cX6_digest 22 = .ok (.iload_n 1, 1) := by decide +kernel
theorem dX6_digest_23 : decode cX6_digest 23 = .ok (.invokevirtual 203, 3) := by decide +kernel
theorem dX6_digest_26 : decode cX6_digest 26 = .ok (.i2l, 1) := by decide +kernel
theorem dX6_digest_27 : decode cX6_digest 27 = .ok (.invokevirtual 232, 3) := by decide +kernel
theorem dX6_digest_30 : decode cX6_digest 30 = .ok (.iinc 1 1, 3) := by decide +kernel
theorem dX6_digest_33 : decode cX6_digest 33 = .ok (.goto (-19), 3) := by decide +kernel
theorem dX6_digest_36 : decode cX6_digest 36 = .ok (.iconst 0, 1) := by decide +kernel
theorem dX6_digest_37 : decode cX6_digest 37 = .ok (.istore_n 1, 1) := by decide +kernel
theorem dX6_digest_38 : decode cX6_digest 38 = .ok (.iload_n 1, 1) := by decide +kernel
theorem dX6_digest_39 : decode cX6_digest 39 = .ok (.iconst 4, 1) := by decide +kernel
theorem dX6_digest_40 : decode cX6_digest 40 = .ok (.if_icmp .ge 20, 3) := by decide +kernel
theorem dX6_digest_43 : decode cX6_digest 43 = .ok (.aload_n 0, 1) := by decide +kernel
theorem dX6_digest_44 : decode cX6_digest 44 = .ok (.aload_n 0, 1) := by decide +kernel
theorem dX6_digest_45 : decode cX6_digest 45 = .ok (.getfield 7, 3) := by decide +kernel
theorem dX6_digest_48 : decode cX6_digest 48 = .ok (.iload_n 1, 1) := by decide +kernel
theorem dX6_digest_49 : decode cX6_digest 49 = .ok (.iaload, 1) := by decide +kernel
theorem dX6_digest_50 : decode cX6_digest 50 = .ok (.i2l, 1) := by decide +kernel
theorem dX6_digest_51 : decode cX6_digest 51 = .ok (.invokevirtual 232, 3) := by decide +kernel
theorem dX6_digest_54 : decode cX6_digest 54 = .ok (.iinc 1 1, 3) := by decide +kernel
theorem dX6_digest_57 : decode cX6_digest 57 = .ok (.goto (-19), 3) := by decide +kernel
theorem dX6_digest_60 : decode cX6_digest 60 = .ok (.iconst 0, 1) := by decide +kernel
theorem dX6_digest_61 : decode cX6_digest 61 = .ok (.istore_n 1, 1) := by decide +kernel
theorem dX6_digest_62 : decode cX6_digest 62 = .ok (.iload_n 1, 1) := by decide +kernel
theorem dX6_digest_63 : decode cX6_digest 63 = .ok (.iconst 4, 1) := by decide +kernel
theorem dX6_digest_64 : decode cX6_digest 64 = .ok (.if_icmp .ge 14, 3) := by decide +kernel
theorem dX6_digest_67 : decode cX6_digest 67 = .ok (.aload_n 0, 1) := by decide +kernel
theorem dX6_digest_68 : decode cX6_digest 68 = .ok (.iload_n 1, 1) := by decide +kernel
theorem dX6_digest_69 : decode cX6_digest 69 = .ok (.invokevirtual 244, 3) := by decide +kernel
theorem dX6_digest_72 : decode cX6_digest 72 = .ok (.iinc 1 1, 3) := by decide +kernel
theorem dX6_digest_75 : decode cX6_digest 75 = .ok (.goto (-13), 3) := by decide +kernel
theorem dX6_digest_78 : decode cX6_digest 78 = .ok (.iconst 0, 1) := by decide +kernel
theorem dX6_digest_79 : decode cX6_digest 79 = .ok (.istore_n 1, 1) := by decide +kernel
theorem dX6_digest_80 : decode cX6_digest 80 = .ok (.iload_n 1, 1) := by decide +kernel
theorem dX6_digest_81 : decode cX6_digest 81 = .ok (.iconst 5, 1) := by decide +kernel
theorem dX6_digest_82 : decode cX6_digest 82 = .ok (.aload_n 0, 1) := by decide +kernel
theorem dX6_digest_83 : decode cX6_digest 83 = .ok (.getfield 7, 3) := by decide +kernel
theorem dX6_digest_86 : decode cX6_digest 86 = .ok (.bipush 8, 2) := by decide +kernel
theorem dX6_digest_88 : decode cX6_digest 88 = .ok (.iaload, 1) := by decide +kernel
theorem dX6_digest_89 : decode cX6_digest 89 = .ok (.imul, 1) := by decide +kernel
theorem dX6_digest_90 : decode cX6_digest 90 = .ok (.if_icmp .ge 23, 3) := by decide +kernel
theorem dX6_digest_93 : decode cX6_digest 93 = .ok (.aload_n 0, 1) := by decide +kernel
theorem dX6_digest_94 : decode cX6_digest 94 = .ok (.aload_n 0, 1) := by decide +kernel
theorem dX6_digest_95 : decode cX6_digest 95 = .ok (.getfield 7, 3) := by decide +kernel
theorem dX6_digest_98 : decode cX6_digest 98 = .ok (.bipush 96, 2) := by decide +kernel
theorem dX6_digest_100 : decode cX6_digest 100 = .ok (.iload_n 1, 1) := by decide +kernel
theorem dX6_digest_101 : decode cX6_digest 101 = .ok (.iadd, 1) := by decide +kernel
theorem dX6_digest_102 : decode cX6_digest 102 = .ok (.iaload, 1) := by decide +kernel
theorem dX6_digest_103 : decode cX6_digest 103 = .ok (.i2l, 1) := by decide +kernel
theorem dX6_digest_104 : decode cX6_digest 104 = .ok (.invokevirtual 232, 3) := by decide +kernel
theorem dX6_digest_107 : decode cX6_digest 107 = .ok (.iinc 1 1, 3) := by decide +kernel
theorem dX6_digest_110 : decode cX6_digest 110 = .ok (.goto (-30), 3) := by decide +kernel
theorem dX6_digest_113 : decode cX6_digest 113 = .ok (.iconst 0, 1) := by decide +kernel
theorem dX6_digest_114 : decode cX6_digest 114 = .ok (.istore_n 1, 1) := by decide +kernel
theorem dX6_digest_115 : decode cX6_digest 115 = .ok (.iload_n 1, 1) := by decide +kernel
theorem dX6_digest_116 : decode cX6_digest 116 = .ok (.bipush 6, 2) := by decide +kernel
theorem dX6_digest_118 : decode cX6_digest 118 = .ok (.aload_n 0, 1) := by decide +kernel
theorem dX6_digest_119 : decode cX6_digest 119 = .ok (.getfield 7, 3) := by decide +kernel
theorem dX6_digest_122 : decode cX6_digest 122 = .ok (.bipush 9, 2) := by decide +kernel
theorem dX6_digest_124 : decode cX6_digest 124 = .ok (.iaload, 1) := by decide +kernel
theorem dX6_digest_125 : decode cX6_digest 125 = .ok (.imul, 1) := by decide +kernel
theorem dX6_digest_126 : decode cX6_digest 126 = .ok (.if_icmp .ge 26, 3) := by decide +kernel
theorem dX6_digest_129 : decode cX6_digest 129 = .ok (.aload_n 0, 1) := by decide +kernel
theorem dX6_digest_130 : decode cX6_digest 130 = .ok (.aload_n 0, 1) := by decide +kernel
theorem dX6_digest_131 : decode cX6_digest 131 = .ok (.iload_n 1, 1) := by decide +kernel
theorem dX6_digest_132 : decode cX6_digest 132 = .ok (.bipush 6, 2) := by decide +kernel
theorem dX6_digest_134 : decode cX6_digest 134 = .ok (.idiv, 1) := by decide +kernel
theorem dX6_digest_135 : decode cX6_digest 135 = .ok (.iload_n 1, 1) := by decide +kernel
theorem dX6_digest_136 : decode cX6_digest 136 = .ok (.bipush 6, 2) := by decide +kernel
theorem dX6_digest_138 : decode cX6_digest 138 = .ok (.irem, 1) := by decide +kernel
theorem dX6_digest_139 : decode cX6_digest 139 = .ok (.invokevirtual 197, 3) := by decide +kernel
theorem dX6_digest_142 : decode cX6_digest 142 = .ok (.i2l, 1) := by decide +kernel
theorem dX6_digest_143 : decode cX6_digest 143 = .ok (.invokevirtual 232, 3) := by decide +kernel
theorem dX6_digest_146 : decode cX6_digest 146 = .ok (.iinc 1 1, 3) := by decide +kernel
theorem dX6_digest_149 : decode cX6_digest 149 = .ok (.goto (-34), 3) := by decide +kernel
theorem dX6_digest_152 : decode cX6_digest 152 = .ok (.aload_n 0, 1) := by decide +kernel
theorem dX6_digest_153 : decode cX6_digest 153 = .ok (.aload_n 0, 1) := by decide +kernel
theorem dX6_digest_154 : decode cX6_digest 154 = .ok (.getfield 164, 3) := by decide +kernel
theorem dX6_digest_157 : decode cX6_digest 157 = .ok (.i2l, 1) := by decide +kernel
theorem dX6_digest_158 : decode cX6_digest 158 = .ok (.invokevirtual 232, 3) := by decide +kernel
theorem dX6_digest_161 : decode cX6_digest 161 = .ok (.iconst 0, 1) := by decide +kernel
theorem dX6_digest_162 : decode cX6_digest 162 = .ok (.istore_n 1, 1) := by decide +kernel
theorem dX6_digest_163 : decode cX6_digest 163 = .ok (.iload_n 1, 1) := by decide +kernel
theorem dX6_digest_164 : decode cX6_digest 164 = .ok (.aload_n 0, 1) := by decide +kernel
theorem dX6_digest_165 : decode cX6_digest 165 = .ok (.getfield 164, 3) := by decide +kernel
theorem dX6_digest_168 : decode cX6_digest 168 = .ok (.if_icmp .ge 20, 3) := by decide +kernel
theorem dX6_digest_171 : decode cX6_digest 171 = .ok (.aload_n 0, 1) := by decide +kernel
theorem dX6_digest_172 : decode cX6_digest 172 = .ok (.aload_n 0, 1) := by decide +kernel
theorem dX6_digest_173 : decode cX6_digest 173 = .ok (.getfield 16, 3) := by decide +kernel
theorem dX6_digest_176 : decode cX6_digest 176 = .ok (.iload_n 1, 1) := by decide +kernel
theorem dX6_digest_177 : decode cX6_digest 177 = .ok (.iaload, 1) := by decide +kernel
theorem dX6_digest_178 : decode cX6_digest 178 = .ok (.i2l, 1) := by decide +kernel
theorem dX6_digest_179 : decode cX6_digest 179 = .ok (.invokevirtual 232, 3) := by decide +kernel
theorem dX6_digest_182 : decode cX6_digest 182 = .ok (.iinc 1 1, 3) := by decide +kernel
theorem dX6_digest_185 : decode cX6_digest 185 = .ok (.goto (-22), 3) := by decide +kernel
theorem dX6_digest_188 : decode cX6_digest 188 = .ok (.aload_n 0, 1) := by decide +kernel
theorem dX6_digest_189 : decode cX6_digest 189 = .ok (.getfield 228, 3) := by decide +kernel
theorem dX6_digest_192 : decode cX6_digest 192 = .ok (.lreturn, 1) := by decide +kernel
theorem dJxe99ae_isNaN_b9ae7_0 : decode cJxe99ae_isNaN_b9ae7 0 = .ok (.dload_n 0, 1) := by decide +kernel
theorem dJxe99ae_isNaN_b9ae7_1 : decode cJxe99ae_isNaN_b9ae7 1 = .ok (.dload_n 0, 1) := by decide +kernel
theorem dJxe99ae_isNaN_b9ae7_2 : decode cJxe99ae_isNaN_b9ae7 2 = .ok (.dcmp .l, 1) := by decide +kernel
theorem dJxe99ae_isNaN_b9ae7_3 : decode cJxe99ae_isNaN_b9ae7 3 = .ok (.ifCond .eq 7, 3) := by decide +kernel
theorem dJxe99ae_isNaN_b9ae7_6 : decode cJxe99ae_isNaN_b9ae7 6 = .ok (.iconst 1, 1) := by decide +kernel
theorem dJxe99ae_isNaN_b9ae7_7 : decode cJxe99ae_isNaN_b9ae7 7 = .ok (.goto 4, 3) := by decide +kernel
theorem dJxe99ae_isNaN_b9ae7_10 : decode cJxe99ae_isNaN_b9ae7 10 = .ok (.iconst 0, 1) := by decide +kernel
theorem dJxe99ae_isNaN_b9ae7_11 : decode cJxe99ae_isNaN_b9ae7 11 = .ok (.ireturn, 1) := by decide +kernel
theorem dJxe99ae_doubleToLongBits_ccdee_0 : decode cJxe99ae_doubleToLongBits_ccdee 0 = .ok (.dload_n 0, 1) := by decide +kernel
theorem dJxe99ae_doubleToLongBits_ccdee_1 : decode cJxe99ae_doubleToLongBits_ccdee 1 = .ok (.invokestatic 122, 3) := by decide +kernel
theorem dJxe99ae_doubleToLongBits_ccdee_4 : decode cJxe99ae_doubleToLongBits_ccdee 4 = .ok (.ifCond .ne 8, 3) := by decide +kernel
theorem dJxe99ae_doubleToLongBits_ccdee_7 : decode cJxe99ae_doubleToLongBits_ccdee 7 = .ok (.dload_n 0, 1) := by decide +kernel
theorem dJxe99ae_doubleToLongBits_ccdee_8 : decode cJxe99ae_doubleToLongBits_ccdee 8 = .ok (.invokestatic 134, 3) := by decide +kernel
theorem dJxe99ae_doubleToLongBits_ccdee_11 : decode cJxe99ae_doubleToLongBits_ccdee 11 = .ok (.lreturn, 1) := by decide +kernel
theorem dJxe99ae_doubleToLongBits_ccdee_12 : decode cJxe99ae_doubleToLongBits_ccdee 12 = .ok (.ldc2_w 137, 3) := by decide +kernel
theorem dJxe99ae_doubleToLongBits_ccdee_15 : decode cJxe99ae_doubleToLongBits_ccdee 15 = .ok (.lreturn, 1) := by decide +kernel
theorem dJ9_min_7cf53_0 : decode cJ9_min_7cf53 0 = .ok (.iload_n 0, 1) := by decide +kernel
theorem dJ9_min_7cf53_1 : decode cJ9_min_7cf53 1 = .ok (.iload_n 1, 1) := by decide +kernel
theorem dJ9_min_7cf53_2 : decode cJ9_min_7cf53 2 = .ok (.if_icmp .gt 7, 3) := by decide +kernel
theorem dJ9_min_7cf53_5 : decode cJ9_min_7cf53 5 = .ok (.iload_n 0, 1) := by decide +kernel
theorem dJ9_min_7cf53_6 : decode cJ9_min_7cf53 6 = .ok (.goto 4, 3) := by decide +kernel
theorem dJ9_min_7cf53_9 : decode cJ9_min_7cf53 9 = .ok (.iload_n 1, 1) := by decide +kernel
theorem dJ9_min_7cf53_10 : decode cJ9_min_7cf53 10 = .ok (.ireturn, 1) := by decide +kernel
end
section
theorem dL_load_0 : decode cL_load 0 = .ok (.aload_n 3, 1) := by decide +kernel
theorem dL_load_1 : decode cL_load 1 = .ok (.iconst 0, 1) := by decide +kernel
theorem dL_load_2 : decode cL_load 2 = .ok (.aload_n 0, 1) := by decide +kernel
theorem dL_load_3 : decode cL_load 3 = .ok (.iload_n 1, 1) := by decide +kernel
theorem dL_load_4 : decode cL_load 4 = .ok (.iload_n 2, 1) := by decide +kernel
theorem dL_load_5 : decode cL_load 5 = .ok (.invokevirtual 7, 3) := by decide +kernel
theorem dL_load_8 : decode cL_load 8 = .ok (.i2l, 1) := by decide +kernel
theorem dL_load_9 : decode cL_load 9 = .ok (.lastore, 1) := by decide +kernel
theorem dL_load_10 : decode cL_load 10 = .ok (.goto 15, 3) := by decide +kernel
theorem dL_load_13 : decode cL_load 13 = .ok (.astore 4, 2) := by decide +kernel
theorem dL_load_15 : decode cL_load 15 = .ok (.iconst 1, 1) := by decide +kernel
theorem dL_load_16 : decode cL_load 16 = .ok (.ireturn, 1) := by decide +kernel
theorem dL_load_17 : decode cL_load 17 = .ok (.astore 4, 2) := by decide +kernel
theorem dL_load_19 : decode cL_load 19 = .ok (.iconst 2, 1) := by decide +kernel
theorem dL_load_20 : decode cL_load 20 = .ok (.ireturn, 1) := by decide +kernel
theorem dL_load_21 : decode cL_load 21 = .ok (.astore 4, 2) := by decide +kernel
theorem dL_load_23 : decode cL_load 23 = .ok (.iconst 3, 1) := by decide +kernel
theorem dL_load_24 : decode cL_load 24 = .ok (.ireturn, 1) := by decide +kernel
theorem dL_load_25 : decode cL_load 25 = .ok (.iconst 0, 1) := by decide +kernel
theorem dL_load_26 : decode cL_load 26 = .ok (.ireturn, 1) := by decide +kernel
theorem dL_quote_0 : decode cL_quote 0 = .ok (.aload_n 3, 1) := by decide +kernel
theorem dL_quote_1 : decode cL_quote 1 = .ok (.iconst 0, 1) := by decide +kernel
theorem dL_quote_2 : decode cL_quote 2 = .ok (.aload_n 0, 1) := by decide +kernel
theorem dL_quote_3 : decode cL_quote 3 = .ok (.iload_n 1, 1) := by decide +kernel
theorem dL_quote_4 : decode cL_quote 4 = .ok (.iload_n 2, 1) := by decide +kernel
theorem dL_quote_5 : decode cL_quote 5 = .ok (.invokevirtual 19, 3) := by decide +kernel
theorem dL_quote_8 : decode cL_quote 8 = .ok (.i2l, 1) := by decide +kernel
theorem dL_quote_9 : decode cL_quote 9 = .ok (.lastore, 1) := by decide +kernel
theorem dL_quote_10 : decode cL_quote 10 = .ok (.goto 11, 3) := by decide +kernel
theorem dL_quote_13 : decode cL_quote 13 = .ok (.astore 4, 2) := by decide +kernel
theorem dL_quote_15 : decode cL_quote 15 = .ok (.iconst 1, 1) := by decide +kernel
theorem dL_quote_16 : decode cL_quote 16 = .ok (.ireturn, 1) := by decide +kernel
theorem dL_quote_17 : decode cL_quote 17 = .ok (.astore 4, 2) := by decide +kernel
theorem dL_quote_19 : decode cL_quote 19 = .ok (.iconst 2, 1) := by decide +kernel
theorem dL_quote_20 : decode cL_quote 20 = .ok (.ireturn, 1) := by decide +kernel
theorem dL_quote_21 : decode cL_quote 21 = .ok (.iconst 0, 1) := by decide +kernel
theorem dL_quote_22 : decode cL_quote 22 = .ok (.ireturn, 1) := by decide +kernel
theorem dL_lock_0 : decode cL_lock 0 = .ok (.aload_n 3, 1) := by decide +kernel
theorem dL_lock_1 : decode cL_lock 1 = .ok (.iconst 0, 1) := by decide +kernel
theorem dL_lock_2 : decode cL_lock 2 = .ok (.aload_n 0, 1) := by decide +kernel
theorem dL_lock_3 : decode cL_lock 3 = .ok (.iload_n 1, 1) := by decide +kernel
theorem dL_lock_4 : decode cL_lock 4 = .ok (.iload_n 2, 1) := by decide +kernel
theorem dL_lock_5 : decode cL_lock 5 = .ok (.invokevirtual 22, 3) := by decide +kernel
theorem dL_lock_8 : decode cL_lock 8 = .ok (.i2l, 1) := by decide +kernel
theorem dL_lock_9 : decode cL_lock 9 = .ok (.lastore, 1) := by decide +kernel
theorem dL_lock_10 : decode cL_lock 10 = .ok (.goto 7, 3) := by decide +kernel
theorem dL_lock_13 : decode cL_lock 13 = .ok (.astore 4, 2) := by decide +kernel
theorem dL_lock_15 : decode cL_lock 15 = .ok (.iconst 1, 1) := by decide +kernel
theorem dL_lock_16 : decode cL_lock 16 = .ok (.ireturn, 1) := by decide +kernel
theorem dL_lock_17 : decode cL_lock 17 = .ok (.iconst 0, 1) := by decide +kernel
theorem dL_lock_18 : decode cL_lock 18 = .ok (.ireturn, 1) := by decide +kernel
theorem dL_exchange_0 : decode cL_exchange 0 = .ok (.aload 5, 2) := by decide +kernel
theorem dL_exchange_2 : decode cL_exchange 2 = .ok (.iconst 0, 1) := by decide +kernel
theorem dL_exchange_3 : decode cL_exchange 3 = .ok (.aload_n 0, 1) := by decide +kernel
theorem dL_exchange_4 : decode cL_exchange 4 = .ok (.iload_n 1, 1) := by decide +kernel
theorem dL_exchange_5 : decode cL_exchange 5 = .ok (.iload_n 2, 1) := by decide +kernel
theorem dL_exchange_6 : decode cL_exchange 6 = .ok (.iload_n 3, 1) := by decide +kernel
theorem dL_exchange_7 : decode cL_exchange 7 = .ok (.iload 4, 2) := by decide +kernel
theorem dL_exchange_9 : decode cL_exchange 9 = .ok (.invokevirtual 25, 3) := by decide +kernel
theorem dL_exchange_12 : decode cL_exchange 12 = .ok (.i2l, 1) := by decide +kernel
theorem dL_exchange_13 : decode cL_exchange 13 = .ok (.lastore, 1) := by decide +kernel
theorem dL_exchange_14 : decode cL_exchange 14 = .ok (.goto 15, 3) := by decide +kernel
theorem dL_exchange_17 : decode cL_exchange 17 = .ok (.astore 6, 2) := by decide +kernel
theorem dL_exchange_19 : decode cL_exchange 19 = .ok (.iconst 1, 1) := by decide +kernel
theorem dL_exchange_20 : decode cL_exchange 20 = .ok (.ireturn, 1) := by decide +kernel
theorem dL_exchange_21 : decode cL_exchange 21 = .ok (.astore 6, 2) := by decide +kernel
theorem dL_exchange_23 : decode cL_exchange 23 = .ok (.iconst 2, 1) := by decide +kernel
theorem dL_exchange_24 : decode cL_exchange 24 = .ok (.ireturn, 1) := by decide +kernel
theorem dL_exchange_25 : decode cL_exchange 25 = .ok (.astore 6, 2) := by decide +kernel
theorem dL_exchange_27 : decode cL_exchange 27 = .ok (.iconst 3, 1) := by decide +kernel
theorem dL_exchange_28 : decode cL_exchange 28 = .ok (.ireturn, 1) := by decide +kernel
theorem dL_exchange_29 : decode cL_exchange 29 = .ok (.iconst 0, 1) := by decide +kernel
theorem dL_exchange_30 : decode cL_exchange 30 = .ok (.ireturn, 1) := by decide +kernel
theorem dL_hold_0 : decode cL_hold 0 = .ok (.aload 4, 2) := by decide +kernel
theorem dL_hold_2 : decode cL_hold 2 = .ok (.iconst 0, 1) := by decide +kernel
theorem dL_hold_3 : decode cL_hold 3 = .ok (.aload_n 0, 1) := by decide +kernel
theorem dL_hold_4 : decode cL_hold 4 = .ok (.iload_n 1, 1) := by decide +kernel
theorem dL_hold_5 : decode cL_hold 5 = .ok (.iload_n 2, 1) := by decide +kernel
theorem dL_hold_6 : decode cL_hold 6 = .ok (.iload_n 3, 1) := by decide +kernel
theorem dL_hold_7 : decode cL_hold 7 = .ok (.invokevirtual 29, 3) := by decide +kernel
theorem dL_hold_10 : decode cL_hold 10 = .ok (.i2l, 1) := by decide +kernel
theorem dL_hold_11 : decode cL_hold 11 = .ok (.lastore, 1) := by decide +kernel
theorem dL_hold_12 : decode cL_hold 12 = .ok (.goto 15, 3) := by decide +kernel
theorem dL_hold_15 : decode cL_hold 15 = .ok (.astore 5, 2) := by decide +kernel
theorem dL_hold_17 : decode cL_hold 17 = .ok (.iconst 1, 1) := by decide +kernel
theorem dL_hold_18 : decode cL_hold 18 = .ok (.ireturn, 1) := by decide +kernel
theorem dL_hold_19 : decode cL_hold 19 = .ok (.astore 5, 2) := by decide +kernel
theorem dL_hold_21 : decode cL_hold 21 = .ok (.iconst 2, 1) := by decide +kernel
theorem dL_hold_22 : decode cL_hold 22 = .ok (.ireturn, 1) := by decide +kernel
theorem dL_hold_23 : decode cL_hold 23 = .ok (.astore 5, 2) := by decide +kernel
theorem dL_hold_25 : decode cL_hold 25 = .ok (.iconst 3, 1) := by decide +kernel
theorem dL_hold_26 : decode cL_hold 26 = .ok (.ireturn, 1) := by decide +kernel
theorem dL_hold_27 : decode cL_hold 27 = .ok (.iconst 0, 1) := by decide +kernel
theorem dL_hold_28 : decode cL_hold 28 = .ok (.ireturn, 1) := by decide +kernel
theorem dL_pay_0 : decode cL_pay 0 = .ok (.aload_n 3, 1) := by decide +kernel
theorem dL_pay_1 : decode cL_pay 1 = .ok (.iconst 0, 1) := by decide +kernel
theorem dL_pay_2 : decode cL_pay 2 = .ok (.aload_n 0, 1) := by decide +kernel
theorem dL_pay_3 : decode cL_pay 3 = .ok (.iload_n 1, 1) := by decide +kernel
theorem dL_pay_4 : decode cL_pay 4 = .ok (.iload_n 2, 1) := by decide +kernel
theorem dL_pay_5 : decode cL_pay 5 = .ok (.invokevirtual 33, 3) := by decide +kernel
theorem dL_pay_8 : decode cL_pay 8 = .ok (.i2l, 1) := by decide +kernel
theorem dL_pay_9 : decode cL_pay 9 = .ok (.lastore, 1) := by decide +kernel
theorem dL_pay_10 : decode cL_pay 10 = .ok (.goto 15, 3) := by decide +kernel
theorem dL_pay_13 : decode cL_pay 13 = .ok (.astore 4, 2) := by decide +kernel
theorem dL_pay_15 : decode cL_pay 15 = .ok (.iconst 1, 1) := by decide +kernel
theorem dL_pay_16 : decode cL_pay 16 = .ok (.ireturn, 1) := by decide +kernel
theorem dL_pay_17 : decode cL_pay 17 = .ok (.astore 4, 2) := by decide +kernel
theorem dL_pay_19 : decode cL_pay 19 = .ok (.iconst 2, 1) := by decide +kernel
theorem dL_pay_20 : decode cL_pay 20 = .ok (.ireturn, 1) := by decide +kernel
theorem dL_pay_21 : decode cL_pay 21 = .ok (.astore 4, 2) := by decide +kernel
theorem dL_pay_23 : decode cL_pay 23 = .ok (.iconst 3, 1) := by decide +kernel
theorem dL_pay_24 : decode cL_pay 24 = .ok (.ireturn, 1) := by decide +kernel
theorem dL_pay_25 : decode cL_pay 25 = .ok (.iconst 0, 1) := by decide +kernel
theorem dL_pay_26 : decode cL_pay 26 = .ok (.ireturn, 1) := by decide +kernel
theorem dL_letGo_0 : decode cL_letGo 0 = .ok (.aload_n 2, 1) := by decide +kernel
theorem dL_letGo_1 : decode cL_letGo 1 = .ok (.iconst 0, 1) := by decide +kernel
theorem dL_letGo_2 : decode cL_letGo 2 = .ok (.aload_n 0, 1) := by decide +kernel
theorem dL_letGo_3 : decode cL_letGo 3 = .ok (.iload_n 1, 1) := by decide +kernel
theorem dL_letGo_4 : decode cL_letGo 4 = .ok (.invokevirtual 36, 3) := by decide +kernel
theorem dL_letGo_7 : decode cL_letGo 7 = .ok (.i2l, 1) := by decide +kernel
theorem dL_letGo_8 : decode cL_letGo 8 = .ok (.lastore, 1) := by decide +kernel
theorem dL_letGo_9 : decode cL_letGo 9 = .ok (.goto 6, 3) := by decide +kernel
theorem dL_letGo_12 : decode cL_letGo 12 = .ok (.astore_n 3, 1) := by decide +kernel
theorem dL_letGo_13 : decode cL_letGo 13 = .ok (.iconst 1, 1) := by decide +kernel
theorem dL_letGo_14 : decode cL_letGo 14 = .ok (.ireturn, 1) := by decide +kernel
theorem dL_letGo_15 : decode cL_letGo 15 = .ok (.iconst 0, 1) := by decide +kernel
theorem dL_letGo_16 : decode cL_letGo 16 = .ok (.ireturn, 1) := by decide +kernel
theorem dL_dispute_0 : decode cL_dispute 0 = .ok (.aload_n 2, 1) := by decide +kernel
theorem dL_dispute_1 : decode cL_dispute 1 = .ok (.iconst 0, 1) := by decide +kernel
theorem dL_dispute_2 : decode cL_dispute 2 = .ok (.aload_n 0, 1) := by decide +kernel
theorem dL_dispute_3 : decode cL_dispute 3 = .ok (.iload_n 1, 1) := by decide +kernel
theorem dL_dispute_4 : decode cL_dispute 4 = .ok (.invokevirtual 40, 3) := by decide +kernel
theorem dL_dispute_7 : decode cL_dispute 7 = .ok (.i2l, 1) := by decide +kernel
theorem dL_dispute_8 : decode cL_dispute 8 = .ok (.lastore, 1) := by decide +kernel
theorem dL_dispute_9 : decode cL_dispute 9 = .ok (.goto 9, 3) := by decide +kernel
theorem dL_dispute_12 : decode cL_dispute 12 = .ok (.astore_n 3, 1) := by decide +kernel
theorem dL_dispute_13 : decode cL_dispute 13 = .ok (.iconst 1, 1) := by decide +kernel
theorem dL_dispute_14 : decode cL_dispute 14 = .ok (.ireturn, 1) := by decide +kernel
theorem dL_dispute_15 : decode cL_dispute 15 = .ok (.astore_n 3, 1) := by decide +kernel
theorem dL_dispute_16 : decode cL_dispute 16 = .ok (.iconst 2, 1) := by decide +kernel
theorem dL_dispute_17 : decode cL_dispute 17 = .ok (.ireturn, 1) := by decide +kernel
theorem dL_dispute_18 : decode cL_dispute 18 = .ok (.iconst 0, 1) := by decide +kernel
theorem dL_dispute_19 : decode cL_dispute 19 = .ok (.ireturn, 1) := by decide +kernel
theorem dL_decide_0 : decode cL_decide 0 = .ok (.aload_n 3, 1) := by decide +kernel
theorem dL_decide_1 : decode cL_decide 1 = .ok (.iconst 0, 1) := by decide +kernel
theorem dL_decide_2 : decode cL_decide 2 = .ok (.aload_n 0, 1) := by decide +kernel
theorem dL_decide_3 : decode cL_decide 3 = .ok (.iload_n 1, 1) := by decide +kernel
theorem dL_decide_4 : decode cL_decide 4 = .ok (.iload_n 2, 1) := by decide +kernel
theorem dL_decide_5 : decode cL_decide 5 = .ok (.invokevirtual 43, 3) := by decide +kernel
theorem dL_decide_8 : decode cL_decide 8 = .ok (.i2l, 1) := by decide +kernel
theorem dL_decide_9 : decode cL_decide 9 = .ok (.lastore, 1) := by decide +kernel
theorem dL_decide_10 : decode cL_decide 10 = .ok (.goto 11, 3) := by decide +kernel
theorem dL_decide_13 : decode cL_decide 13 = .ok (.astore 4, 2) := by decide +kernel
theorem dL_decide_15 : decode cL_decide 15 = .ok (.iconst 1, 1) := by decide +kernel
theorem dL_decide_16 : decode cL_decide 16 = .ok (.ireturn, 1) := by decide +kernel
theorem dL_decide_17 : decode cL_decide 17 = .ok (.astore 4, 2) := by decide +kernel
theorem dL_decide_19 : decode cL_decide 19 = .ok (.iconst 2, 1) := by decide +kernel
theorem dL_decide_20 : decode cL_decide 20 = .ok (.ireturn, 1) := by decide +kernel
theorem dL_decide_21 : decode cL_decide 21 = .ok (.iconst 0, 1) := by decide +kernel
theorem dL_decide_22 : decode cL_decide 22 = .ok (.ireturn, 1) := by decide +kernel
theorem dL_close_0 : decode cL_close 0 = .ok (.aload_n 2, 1) := by decide +kernel
theorem dL_close_1 : decode cL_close 1 = .ok (.iconst 0, 1) := by decide +kernel
theorem dL_close_2 : decode cL_close 2 = .ok (.aload_n 0, 1) := by decide +kernel
theorem dL_close_3 : decode cL_close 3 = .ok (.iload_n 1, 1) := by decide +kernel
theorem dL_close_4 : decode cL_close 4 = .ok (.invokevirtual 47, 3) := by decide +kernel
theorem dL_close_7 : decode cL_close 7 = .ok (.i2l, 1) := by decide +kernel
theorem dL_close_8 : decode cL_close 8 = .ok (.lastore, 1) := by decide +kernel
theorem dL_close_9 : decode cL_close 9 = .ok (.goto 9, 3) := by decide +kernel
theorem dL_close_12 : decode cL_close 12 = .ok (.astore_n 3, 1) := by decide +kernel
theorem dL_close_13 : decode cL_close 13 = .ok (.iconst 1, 1) := by decide +kernel
theorem dL_close_14 : decode cL_close 14 = .ok (.ireturn, 1) := by decide +kernel
theorem dL_close_15 : decode cL_close 15 = .ok (.astore_n 3, 1) := by decide +kernel
theorem dL_close_16 : decode cL_close 16 = .ok (.iconst 2, 1) := by decide +kernel
theorem dL_close_17 : decode cL_close 17 = .ok (.ireturn, 1) := by decide +kernel
theorem dL_close_18 : decode cL_close 18 = .ok (.iconst 0, 1) := by decide +kernel
theorem dL_close_19 : decode cL_close 19 = .ok (.ireturn, 1) := by decide +kernel
theorem dL_pass_0 : decode cL_pass 0 = .ok (.aload_n 2, 1) := by decide +kernel
theorem dL_pass_1 : decode cL_pass 1 = .ok (.iconst 0, 1) := by decide +kernel
theorem dL_pass_2 : decode cL_pass 2 = .ok (.aload_n 0, 1) := by decide +kernel
theorem dL_pass_3 : decode cL_pass 3 = .ok (.iload_n 1, 1) := by decide +kernel
theorem dL_pass_4 : decode cL_pass 4 = .ok (.invokevirtual 50, 3) := by decide +kernel
theorem dL_pass_7 : decode cL_pass 7 = .ok (.i2l, 1) := by decide +kernel
theorem dL_pass_8 : decode cL_pass 8 = .ok (.lastore, 1) := by decide +kernel
theorem dL_pass_9 : decode cL_pass 9 = .ok (.goto 9, 3) := by decide +kernel
theorem dL_pass_12 : decode cL_pass 12 = .ok (.astore_n 3, 1) := by decide +kernel
theorem dL_pass_13 : decode cL_pass 13 = .ok (.iconst 1, 1) := by decide +kernel
theorem dL_pass_14 : decode cL_pass 14 = .ok (.ireturn, 1) := by decide +kernel
theorem dL_pass_15 : decode cL_pass 15 = .ok (.astore_n 3, 1) := by decide +kernel
theorem dL_pass_16 : decode cL_pass 16 = .ok (.iconst 2, 1) := by decide +kernel
theorem dL_pass_17 : decode cL_pass 17 = .ok (.ireturn, 1) := by decide +kernel
theorem dL_pass_18 : decode cL_pass 18 = .ok (.iconst 0, 1) := by decide +kernel
theorem dL_pass_19 : decode cL_pass 19 = .ok (.ireturn, 1) := by decide +kernel
theorem dL_set_0 : decode cL_set 0 = .ok (.aload_n 3, 1) := by decide +kernel
theorem dL_set_1 : decode cL_set 1 = .ok (.iconst 0, 1) := by decide +kernel
theorem dL_set_2 : decode cL_set 2 = .ok (.aload_n 0, 1) := by decide +kernel
theorem dL_set_3 : decode cL_set 3 = .ok (.iload_n 1, 1) := by decide +kernel
theorem dL_set_4 : decode cL_set 4 = .ok (.iload_n 2, 1) := by decide +kernel
theorem dL_set_5 : decode cL_set 5 = .ok (.invokevirtual 53, 3) := by decide +kernel
theorem dL_set_8 : decode cL_set 8 = .ok (.i2l, 1) := by decide +kernel
theorem dL_set_9 : decode cL_set 9 = .ok (.lastore, 1) := by decide +kernel
theorem dL_set_10 : decode cL_set 10 = .ok (.goto 11, 3) := by decide +kernel
theorem dL_set_13 : decode cL_set 13 = .ok (.astore 4, 2) := by decide +kernel
theorem dL_set_15 : decode cL_set 15 = .ok (.iconst 1, 1) := by decide +kernel
theorem dL_set_16 : decode cL_set 16 = .ok (.ireturn, 1) := by decide +kernel
theorem dL_set_17 : decode cL_set 17 = .ok (.astore 4, 2) := by decide +kernel
theorem dL_set_19 : decode cL_set 19 = .ok (.iconst 2, 1) := by decide +kernel
theorem dL_set_20 : decode cL_set 20 = .ok (.ireturn, 1) := by decide +kernel
theorem dL_set_21 : decode cL_set 21 = .ok (.iconst 0, 1) := by decide +kernel
theorem dL_set_22 : decode cL_set 22 = .ok (.ireturn, 1) := by decide +kernel
theorem dL_append_0 : decode cL_append 0 = .ok (.aload_n 2, 1) := by decide +kernel
theorem dL_append_1 : decode cL_append 1 = .ok (.iconst 0, 1) := by decide +kernel
theorem dL_append_2 : decode cL_append 2 = .ok (.aload_n 0, 1) := by decide +kernel
theorem dL_append_3 : decode cL_append 3 = .ok (.iload_n 1, 1) := by decide +kernel
theorem dL_append_4 : decode cL_append 4 = .ok (.invokevirtual 56, 3) := by decide +kernel
theorem dL_append_7 : decode cL_append 7 = .ok (.i2l, 1) := by decide +kernel
theorem dL_append_8 : decode cL_append 8 = .ok (.lastore, 1) := by decide +kernel
theorem dL_append_9 : decode cL_append 9 = .ok (.goto 9, 3) := by decide +kernel
theorem dL_append_12 : decode cL_append 12 = .ok (.astore_n 3, 1) := by decide +kernel
theorem dL_append_13 : decode cL_append 13 = .ok (.iconst 1, 1) := by decide +kernel
theorem dL_append_14 : decode cL_append 14 = .ok (.ireturn, 1) := by decide +kernel
theorem dL_append_15 : decode cL_append 15 = .ok (.astore_n 3, 1) := by decide +kernel
theorem dL_append_16 : decode cL_append 16 = .ok (.iconst 2, 1) := by decide +kernel
theorem dL_append_17 : decode cL_append 17 = .ok (.ireturn, 1) := by decide +kernel
theorem dL_append_18 : decode cL_append 18 = .ok (.iconst 0, 1) := by decide +kernel
theorem dL_append_19 : decode cL_append 19 = .ok (.ireturn, 1) := by decide +kernel
theorem dL_run_0 : decode cL_run 0 = .ok (.aload_n 1, 1) := by decide +kernel
theorem dL_run_1 : decode cL_run 1 = .ok (.iconst 0, 1) := by decide +kernel
theorem dL_run_2 : decode cL_run 2 = .ok (.aload_n 0, 1) := by decide +kernel
theorem dL_run_3 : decode cL_run 3 = .ok (.invokevirtual 59, 3) := by decide +kernel
theorem dL_run_6 : decode cL_run 6 = .ok (.i2l, 1) := by decide +kernel
theorem dL_run_7 : decode cL_run 7 = .ok (.lastore, 1) := by decide +kernel
theorem dL_run_8 : decode cL_run 8 = .ok (.goto 6, 3) := by decide +kernel
theorem dL_run_11 : decode cL_run 11 = .ok (.astore_n 2, 1) := by decide +kernel
theorem dL_run_12 : decode cL_run 12 = .ok (.iconst 1, 1) := by decide +kernel
theorem dL_run_13 : decode cL_run 13 = .ok (.ireturn, 1) := by decide +kernel
theorem dL_run_14 : decode cL_run 14 = .ok (.iconst 0, 1) := by decide +kernel
theorem dL_run_15 : decode cL_run 15 = .ok (.ireturn, 1) := by decide +kernel
theorem dL_undo_0 : decode cL_undo 0 = .ok (.aload_n 1, 1) := by decide +kernel
theorem dL_undo_1 : decode cL_undo 1 = .ok (.iconst 0, 1) := by decide +kernel
theorem dL_undo_2 : decode cL_undo 2 = .ok (.aload_n 0, 1) := by decide +kernel
theorem dL_undo_3 : decode cL_undo 3 = .ok (.invokevirtual 63, 3) := by decide +kernel
theorem dL_undo_6 : decode cL_undo 6 = .ok (.i2l, 1) := by decide +kernel
theorem dL_undo_7 : decode cL_undo 7 = .ok (.lastore, 1) := by decide +kernel
theorem dL_undo_8 : decode cL_undo 8 = .ok (.goto 6, 3) := by decide +kernel
theorem dL_undo_11 : decode cL_undo 11 = .ok (.astore_n 2, 1) := by decide +kernel
theorem dL_undo_12 : decode cL_undo 12 = .ok (.iconst 1, 1) := by decide +kernel
theorem dL_undo_13 : decode cL_undo 13 = .ok (.ireturn, 1) := by decide +kernel
theorem dL_undo_14 : decode cL_undo 14 = .ok (.iconst 0, 1) := by decide +kernel
theorem dL_undo_15 : decode cL_undo 15 = .ok (.ireturn, 1) := by decide +kernel
theorem dL_purse_0 : decode cL_purse 0 = .ok (.aload 4, 2) := by decide +kernel
theorem dL_purse_2 : decode cL_purse 2 = .ok (.iconst 0, 1) := by decide +kernel
theorem dL_purse_3 : decode cL_purse 3 = .ok (.aload_n 0, 1) := by decide +kernel
theorem dL_purse_4 : decode cL_purse 4 = .ok (.iload_n 1, 1) := by decide +kernel
theorem dL_purse_5 : decode cL_purse 5 = .ok (.iload_n 2, 1) := by decide +kernel
theorem dL_purse_6 : decode cL_purse 6 = .ok (.iload_n 3, 1) := by decide +kernel
theorem dL_purse_7 : decode cL_purse 7 = .ok (.invokevirtual 66, 3) := by decide +kernel
theorem dL_purse_10 : decode cL_purse 10 = .ok (.i2l, 1) := by decide +kernel
theorem dL_purse_11 : decode cL_purse 11 = .ok (.lastore, 1) := by decide +kernel
theorem dL_purse_12 : decode cL_purse 12 = .ok (.goto 11, 3) := by decide +kernel
theorem dL_purse_15 : decode cL_purse 15 = .ok (.astore 5, 2) := by decide +kernel
theorem dL_purse_17 : decode cL_purse 17 = .ok (.iconst 1, 1) := by decide +kernel
theorem dL_purse_18 : decode cL_purse 18 = .ok (.ireturn, 1) := by decide +kernel
theorem dL_purse_19 : decode cL_purse 19 = .ok (.astore 5, 2) := by decide +kernel
theorem dL_purse_21 : decode cL_purse 21 = .ok (.iconst 2, 1) := by decide +kernel
theorem dL_purse_22 : decode cL_purse 22 = .ok (.ireturn, 1) := by decide +kernel
theorem dL_purse_23 : decode cL_purse 23 = .ok (.iconst 0, 1) := by decide +kernel
theorem dL_purse_24 : decode cL_purse 24 = .ok (.ireturn, 1) := by decide +kernel
theorem dL_held_0 : decode cL_held 0 = .ok (.aload_n 3, 1) := by decide +kernel
theorem dL_held_1 : decode cL_held 1 = .ok (.iconst 0, 1) := by decide +kernel
theorem dL_held_2 : decode cL_held 2 = .ok (.aload_n 0, 1) := by decide +kernel
theorem dL_held_3 : decode cL_held 3 = .ok (.iload_n 1, 1) := by decide +kernel
theorem dL_held_4 : decode cL_held 4 = .ok (.iload_n 2, 1) := by decide +kernel
theorem dL_held_5 : decode cL_held 5 = .ok (.invokevirtual 69, 3) := by decide +kernel
theorem dL_held_8 : decode cL_held 8 = .ok (.i2l, 1) := by decide +kernel
theorem dL_held_9 : decode cL_held 9 = .ok (.lastore, 1) := by decide +kernel
theorem dL_held_10 : decode cL_held 10 = .ok (.goto 11, 3) := by decide +kernel
theorem dL_held_13 : decode cL_held 13 = .ok (.astore 4, 2) := by decide +kernel
theorem dL_held_15 : decode cL_held 15 = .ok (.iconst 1, 1) := by decide +kernel
theorem dL_held_16 : decode cL_held 16 = .ok (.ireturn, 1) := by decide +kernel
theorem dL_held_17 : decode cL_held 17 = .ok (.astore 4, 2) := by decide +kernel
theorem dL_held_19 : decode cL_held 19 = .ok (.iconst 2, 1) := by decide +kernel
theorem dL_held_20 : decode cL_held 20 = .ok (.ireturn, 1) := by decide +kernel
theorem dL_held_21 : decode cL_held 21 = .ok (.iconst 0, 1) := by decide +kernel
theorem dL_held_22 : decode cL_held 22 = .ok (.ireturn, 1) := by decide +kernel
theorem dL_payment_0 : decode cL_payment 0 = .ok (.aload_n 3, 1) := by decide +kernel
theorem dL_payment_1 : decode cL_payment 1 = .ok (.iconst 0, 1) := by decide +kernel
theorem dL_payment_2 : decode cL_payment 2 = .ok (.aload_n 0, 1) := by decide +kernel
theorem dL_payment_3 : decode cL_payment 3 = .ok (.iload_n 1, 1) := by decide +kernel
theorem dL_payment_4 : decode cL_payment 4 = .ok (.iload_n 2, 1) := by decide +kernel
theorem dL_payment_5 : decode cL_payment 5 = .ok (.invokevirtual 72, 3) := by decide +kernel
theorem dL_payment_8 : decode cL_payment 8 = .ok (.i2l, 1) := by decide +kernel
theorem dL_payment_9 : decode cL_payment 9 = .ok (.lastore, 1) := by decide +kernel
theorem dL_payment_10 : decode cL_payment 10 = .ok (.goto 11, 3) := by decide +kernel
theorem dL_payment_13 : decode cL_payment 13 = .ok (.astore 4, 2) := by decide +kernel
theorem dL_payment_15 : decode cL_payment 15 = .ok (.iconst 1, 1) := by decide +kernel
theorem dL_payment_16 : decode cL_payment 16 = .ok (.ireturn, 1) := by decide +kernel
theorem dL_payment_17 : decode cL_payment 17 = .ok (.astore 4, 2) := by decide +kernel
theorem dL_payment_19 : decode cL_payment 19 = .ok (.iconst 2, 1) := by decide +kernel
theorem dL_payment_20 : decode cL_payment 20 = .ok (.ireturn, 1) := by decide +kernel
theorem dL_payment_21 : decode cL_payment 21 = .ok (.iconst 0, 1) := by decide +kernel
theorem dL_payment_22 : decode cL_payment 22 = .ok (.ireturn, 1) := by decide +kernel
theorem dL_count_0 : decode cL_count 0 = .ok (.aload_n 2, 1) := by decide +kernel
theorem dL_count_1 : decode cL_count 1 = .ok (.iconst 0, 1) := by decide +kernel
theorem dL_count_2 : decode cL_count 2 = .ok (.aload_n 0, 1) := by decide +kernel
theorem dL_count_3 : decode cL_count 3 = .ok (.iload_n 1, 1) := by decide +kernel
theorem dL_count_4 : decode cL_count 4 = .ok (.invokevirtual 75, 3) := by decide +kernel
theorem dL_count_7 : decode cL_count 7 = .ok (.i2l, 1) := by decide +kernel
theorem dL_count_8 : decode cL_count 8 = .ok (.lastore, 1) := by decide +kernel
theorem dL_count_9 : decode cL_count 9 = .ok (.goto 6, 3) := by decide +kernel
theorem dL_count_12 : decode cL_count 12 = .ok (.astore_n 3, 1) := by decide +kernel
theorem dL_count_13 : decode cL_count 13 = .ok (.iconst 1, 1) := by decide +kernel
theorem dL_count_14 : decode cL_count 14 = .ok (.ireturn, 1) := by decide +kernel
theorem dL_count_15 : decode cL_count 15 = .ok (.iconst 0, 1) := by decide +kernel
theorem dL_count_16 : decode cL_count 16 = .ok (.ireturn, 1) := by decide +kernel
theorem dL_setting_0 : decode cL_setting 0 = .ok (.aload_n 2, 1) := by decide +kernel
theorem dL_setting_1 : decode cL_setting 1 = .ok (.iconst 0, 1) := by decide +kernel
theorem dL_setting_2 : decode cL_setting 2 = .ok (.aload_n 0, 1) := by decide +kernel
theorem dL_setting_3 : decode cL_setting 3 = .ok (.iload_n 1, 1) := by decide +kernel
theorem dL_setting_4 : decode cL_setting 4 = .ok (.invokevirtual 78, 3) := by decide +kernel
theorem dL_setting_7 : decode cL_setting 7 = .ok (.i2l, 1) := by decide +kernel
theorem dL_setting_8 : decode cL_setting 8 = .ok (.lastore, 1) := by decide +kernel
theorem dL_setting_9 : decode cL_setting 9 = .ok (.goto 6, 3) := by decide +kernel
theorem dL_setting_12 : decode cL_setting 12 = .ok (.astore_n 3, 1) := by decide +kernel
theorem dL_setting_13 : decode cL_setting 13 = .ok (.iconst 1, 1) := by decide +kernel
theorem dL_setting_14 : decode cL_setting 14 = .ok (.ireturn, 1) := by decide +kernel
theorem dL_setting_15 : decode cL_setting 15 = .ok (.iconst 0, 1) := by decide +kernel
theorem dL_setting_16 : decode cL_setting 16 = .ok (.ireturn, 1) := by decide +kernel
theorem dL_ifExchanged_0 : decode cL_ifExchanged 0 = .ok (.aload 5, 2) := by decide +kernel
theorem dL_ifExchanged_2 : decode cL_ifExchanged 2 = .ok (.iconst 0, 1) := by decide +kernel
theorem dL_ifExchanged_3 : decode cL_ifExchanged 3 = .ok (.aload_n 0, 1) := by decide +kernel
theorem dL_ifExchanged_4 : decode cL_ifExchanged 4 = .ok (.iload_n 1, 1) := by decide +kernel
theorem dL_ifExchanged_5 : decode cL_ifExchanged 5 = .ok (.iload_n 2, 1) := by decide +kernel
theorem dL_ifExchanged_6 : decode cL_ifExchanged 6 = .ok (.iload_n 3, 1) := by decide +kernel
theorem dL_ifExchanged_7 : decode cL_ifExchanged 7 = .ok (.iload 4, 2) := by decide +kernel
theorem dL_ifExchanged_9 : decode cL_ifExchanged 9 = .ok (.invokevirtual 81, 3) := by decide +kernel
theorem dL_ifExchanged_12 : decode cL_ifExchanged 12 = .ok (.i2l, 1) := by decide +kernel
theorem dL_ifExchanged_13 : decode cL_ifExchanged 13 = .ok (.lastore, 1) := by decide +kernel
theorem dL_ifExchanged_14 : decode cL_ifExchanged 14 = .ok (.goto 11, 3) := by decide +kernel
theorem dL_ifExchanged_17 : decode cL_ifExchanged 17 = .ok (.astore 6, 2) := by decide +kernel
theorem dL_ifExchanged_19 : decode cL_ifExchanged 19 = .ok (.iconst 1, 1) := by decide +kernel
theorem dL_ifExchanged_20 : decode cL_ifExchanged 20 = .ok (.ireturn, 1) := by decide +kernel
theorem dL_ifExchanged_21 : decode cL_ifExchanged 21 = .ok (.astore 6, 2) := by decide +kernel
theorem dL_ifExchanged_23 : decode cL_ifExchanged 23 = .ok (.iconst 2, 1) := by decide +kernel
theorem dL_ifExchanged_24 : decode cL_ifExchanged 24 = .ok (.ireturn, 1) := by decide +kernel
theorem dL_ifExchanged_25 : decode cL_ifExchanged 25 = .ok (.iconst 0, 1) := by decide +kernel
theorem dL_ifExchanged_26 : decode cL_ifExchanged 26 = .ok (.ireturn, 1) := by decide +kernel
theorem dL_needed_0 : decode cL_needed 0 = .ok (.aload 4, 2) := by decide +kernel
theorem dL_needed_2 : decode cL_needed 2 = .ok (.iconst 0, 1) := by decide +kernel
theorem dL_needed_3 : decode cL_needed 3 = .ok (.aload_n 0, 1) := by decide +kernel
theorem dL_needed_4 : decode cL_needed 4 = .ok (.iload_n 1, 1) := by decide +kernel
theorem dL_needed_5 : decode cL_needed 5 = .ok (.iload_n 2, 1) := by decide +kernel
theorem dL_needed_6 : decode cL_needed 6 = .ok (.iload_n 3, 1) := by decide +kernel
theorem dL_needed_7 : decode cL_needed 7 = .ok (.invokevirtual 84, 3) := by decide +kernel
theorem dL_needed_10 : decode cL_needed 10 = .ok (.i2l, 1) := by decide +kernel
theorem dL_needed_11 : decode cL_needed 11 = .ok (.lastore, 1) := by decide +kernel
theorem dL_needed_12 : decode cL_needed 12 = .ok (.goto 11, 3) := by decide +kernel
theorem dL_needed_15 : decode cL_needed 15 = .ok (.astore 5, 2) := by decide +kernel
theorem dL_needed_17 : decode cL_needed 17 = .ok (.iconst 1, 1) := by decide +kernel
theorem dL_needed_18 : decode cL_needed 18 = .ok (.ireturn, 1) := by decide +kernel
theorem dL_needed_19 : decode cL_needed 19 = .ok (.astore 5, 2) := by decide +kernel
theorem dL_needed_21 : decode cL_needed 21 = .ok (.iconst 2, 1) := by decide +kernel
theorem dL_needed_22 : decode cL_needed 22 = .ok (.ireturn, 1) := by decide +kernel
theorem dL_needed_23 : decode cL_needed 23 = .ok (.iconst 0, 1) := by decide +kernel
theorem dL_needed_24 : decode cL_needed 24 = .ok (.ireturn, 1) := by decide +kernel
theorem dL_room_0 : decode cL_room 0 = .ok (.aload_n 3, 1) := by decide +kernel
theorem dL_room_1 : decode cL_room 1 = .ok (.iconst 0, 1) := by decide +kernel
theorem dL_room_2 : decode cL_room 2 = .ok (.aload_n 0, 1) := by decide +kernel
theorem dL_room_3 : decode cL_room 3 = .ok (.iload_n 1, 1) := by decide +kernel
theorem dL_room_4 : decode cL_room 4 = .ok (.iload_n 2, 1) := by decide +kernel
theorem dL_room_5 : decode cL_room 5 = .ok (.invokevirtual 87, 3) := by decide +kernel
theorem dL_room_8 : decode cL_room 8 = .ok (.i2l, 1) := by decide +kernel
theorem dL_room_9 : decode cL_room 9 = .ok (.lastore, 1) := by decide +kernel
theorem dL_room_10 : decode cL_room 10 = .ok (.goto 7, 3) := by decide +kernel
theorem dL_room_13 : decode cL_room 13 = .ok (.astore 4, 2) := by decide +kernel
theorem dL_room_15 : decode cL_room 15 = .ok (.iconst 1, 1) := by decide +kernel
theorem dL_room_16 : decode cL_room 16 = .ok (.ireturn, 1) := by decide +kernel
theorem dL_room_17 : decode cL_room 17 = .ok (.iconst 0, 1) := by decide +kernel
theorem dL_room_18 : decode cL_room 18 = .ok (.ireturn, 1) := by decide +kernel
theorem dL_whyNot_0 : decode cL_whyNot 0 = .ok (.aload 6, 2) := by decide +kernel
theorem dL_whyNot_2 : decode cL_whyNot 2 = .ok (.iconst 0, 1) := by decide +kernel
theorem dL_whyNot_3 : decode cL_whyNot 3 = .ok (.aload_n 0, 1) := by decide +kernel
theorem dL_whyNot_4 : decode cL_whyNot 4 = .ok (.iload_n 1, 1) := by decide +kernel
theorem dL_whyNot_5 : decode cL_whyNot 5 = .ok (.iload_n 2, 1) := by decide +kernel
theorem dL_whyNot_6 : decode cL_whyNot 6 = .ok (.iload_n 3, 1) := by decide +kernel
theorem dL_whyNot_7 : decode cL_whyNot 7 = .ok (.iload 4, 2) := by decide +kernel
theorem dL_whyNot_9 : decode cL_whyNot 9 = .ok (.iload 5, 2) := by decide +kernel
theorem dL_whyNot_11 : decode cL_whyNot 11 = .ok (.invokevirtual 90, 3) := by decide +kernel
theorem dL_whyNot_14 : decode cL_whyNot 14 = .ok (.i2l, 1) := by decide +kernel
theorem dL_whyNot_15 : decode cL_whyNot 15 = .ok (.lastore, 1) := by decide +kernel
theorem dL_whyNot_16 : decode cL_whyNot 16 = .ok (.goto 11, 3) := by decide +kernel
theorem dL_whyNot_19 : decode cL_whyNot 19 = .ok (.astore 7, 2) := by decide +kernel
theorem dL_whyNot_21 : decode cL_whyNot 21 = .ok (.iconst 1, 1) := by decide +kernel
theorem dL_whyNot_22 : decode cL_whyNot 22 = .ok (.ireturn, 1) := by decide +kernel
theorem dL_whyNot_23 : decode cL_whyNot 23 = .ok (.astore 7, 2) := by decide +kernel
theorem dL_whyNot_25 : decode cL_whyNot 25 = .ok (.iconst 2, 1) := by decide +kernel
theorem dL_whyNot_26 : decode cL_whyNot 26 = .ok (.ireturn, 1) := by decide +kernel
theorem dL_whyNot_27 : decode cL_whyNot 27 = .ok (.iconst 0, 1) := by decide +kernel
theorem dL_whyNot_28 : decode cL_whyNot 28 = .ok (.ireturn, 1) := by decide +kernel
theorem dL_ifClosed_0 : decode cL_ifClosed 0 = .ok (.aload_n 2, 1) := by decide +kernel
theorem dL_ifClosed_1 : decode cL_ifClosed 1 = .ok (.iconst 0, 1) := by decide +kernel
theorem dL_ifClosed_2 : decode cL_ifClosed 2 = .ok (.aload_n 0, 1) := by decide +kernel
theorem dL_ifClosed_3 : decode cL_ifClosed 3 = .ok (.iload_n 1, 1) := by decide +kernel
theorem dL_ifClosed_4 : decode cL_ifClosed 4 = .ok (.invokevirtual 94, 3) := by decide +kernel
theorem dL_ifClosed_7 : decode cL_ifClosed 7 = .ok (.i2l, 1) := by decide +kernel
theorem dL_ifClosed_8 : decode cL_ifClosed 8 = .ok (.lastore, 1) := by decide +kernel
theorem dL_ifClosed_9 : decode cL_ifClosed 9 = .ok (.goto 6, 3) := by decide +kernel
theorem dL_ifClosed_12 : decode cL_ifClosed 12 = .ok (.astore_n 3, 1) := by decide +kernel
theorem dL_ifClosed_13 : decode cL_ifClosed 13 = .ok (.iconst 1, 1) := by decide +kernel
theorem dL_ifClosed_14 : decode cL_ifClosed 14 = .ok (.ireturn, 1) := by decide +kernel
theorem dL_ifClosed_15 : decode cL_ifClosed 15 = .ok (.iconst 0, 1) := by decide +kernel
theorem dL_ifClosed_16 : decode cL_ifClosed 16 = .ok (.ireturn, 1) := by decide +kernel
theorem dL_heldShare_0 : decode cL_heldShare 0 = .ok (.aload_n 3, 1) := by decide +kernel
end
section
theorem dL_heldShare_1 : decode cL_heldShare 1 = .ok (.iconst 0, 1) := by decide +kernel
theorem dL_heldShare_2 : decode cL_heldShare 2 = .ok (.aload_n 0, 1) := by decide +kernel
theorem dL_heldShare_3 : decode cL_heldShare 3 = .ok (.iload_n 1, 1) := by decide +kernel
theorem dL_heldShare_4 : decode cL_heldShare 4 = .ok (.iload_n 2, 1) := by decide +kernel
theorem dL_heldShare_5 : decode cL_heldShare 5 = .ok (.invokevirtual 97, 3) := by decide +kernel
theorem dL_heldShare_8 : decode cL_heldShare 8 = .ok (.dastore, 1) := by decide +kernel
theorem dL_heldShare_9 : decode cL_heldShare 9 = .ok (.goto 7, 3) := by decide +kernel
theorem dL_heldShare_12 : decode cL_heldShare 12 = .ok (.astore 4, 2) := by decide +kernel
theorem dL_heldShare_14 : decode cL_heldShare 14 = .ok (.iconst 1, 1) := by decide +kernel
theorem dL_heldShare_15 : decode cL_heldShare 15 = .ok (.ireturn, 1) := by decide +kernel
theorem dL_heldShare_16 : decode cL_heldShare 16 = .ok (.iconst 0, 1) := by decide +kernel
theorem dL_heldShare_17 : decode cL_heldShare 17 = .ok (.ireturn, 1) := by decide +kernel
theorem dL_law_0 : decode cL_law 0 = .ok (.new 8, 3) := by decide +kernel
theorem dL_law_3 : decode cL_law 3 = .ok (.dup, 1) := by decide +kernel
theorem dL_law_4 : decode cL_law 4 = .ok (.invokespecial 101, 3) := by decide +kernel
theorem dL_law_7 : decode cL_law 7 = .ok (.astore_n 1, 1) := by decide +kernel
theorem dL_law_8 : decode cL_law 8 = .ok (.new 102, 3) := by decide +kernel
theorem dL_law_11 : decode cL_law 11 = .ok (.dup, 1) := by decide +kernel
theorem dL_law_12 : decode cL_law 12 = .ok (.invokespecial 104, 3) := by decide +kernel
theorem dL_law_15 : decode cL_law 15 = .ok (.astore_n 2, 1) := by decide +kernel
theorem dL_law_16 : decode cL_law 16 = .ok (.iconst 1, 1) := by decide +kernel
theorem dL_law_17 : decode cL_law 17 = .ok (.newarray .long, 2) := by decide +kernel
theorem dL_law_19 : decode cL_law 19 = .ok (.astore_n 3, 1) := by decide +kernel
theorem dL_law_20 : decode cL_law 20 = .ok (.iconst 1, 1) := by decide +kernel
theorem dL_law_21 : decode cL_law 21 = .ok (.newarray .double, 2) := by decide +kernel
theorem dL_law_23 : decode cL_law 23 = .ok (.astore 4, 2) := by decide +kernel
theorem dL_law_25 : decode cL_law 25 = .ok (.iconst 0, 1) := by decide +kernel
theorem dL_law_26 : decode cL_law 26 = .ok (.istore 5, 2) := by decide +kernel
theorem dL_law_28 : decode cL_law 28 = .ok (.iload 5, 2) := by decide +kernel
theorem dL_law_30 : decode cL_law 30 = .ok (.aload_n 0, 1) := by decide +kernel
theorem dL_law_31 : decode cL_law 31 = .ok (.arraylength, 1) := by decide +kernel
theorem dL_law_32 : decode cL_law 32 = .ok (.bipush 6, 2) := by decide +kernel
theorem dL_law_34 : decode cL_law 34 = .ok (.isub, 1) := by decide +kernel
theorem dL_law_35 : decode cL_law 35 = .ok (.if_icmp .gt 1968, 3) := by decide +kernel
theorem dL_law_38 : decode cL_law 38 = .ok (.aload_n 0, 1) := by decide +kernel
theorem dL_law_39 : decode cL_law 39 = .ok (.iload 5, 2) := by decide +kernel
theorem dL_law_41 : decode cL_law 41 = .ok (.iaload, 1) := by decide +kernel
theorem dL_law_42 : decode cL_law 42 = .ok (.bipush 31, 2) := by decide +kernel
theorem dL_law_44 : decode cL_law 44 = .ok (.iand, 1) := by decide +kernel
theorem dL_law_45 : decode cL_law 45 = .ok (.tableswitch 1952 0 28 #[131, 199, 267, 335, 427, 507, 575, 631, 687, 771, 827, 883, 951, 1007, 1020, 1033, 1077, 1121, 1201, 1269, 1337, 1393, 1449, 1541, 1621, 1689, 1793, 1849, 1938], 131) := by decide +kernel
theorem dL_law_176 : decode cL_law 176 = .ok (.aload_n 1, 1) := by decide +kernel
theorem dL_law_177 : decode cL_law 177 = .ok (.aload_n 0, 1) := by decide +kernel
theorem dL_law_178 : decode cL_law 178 = .ok (.iload 5, 2) := by decide +kernel
theorem dL_law_180 : decode cL_law 180 = .ok (.iconst 1, 1) := by decide +kernel
theorem dL_law_181 : decode cL_law 181 = .ok (.iadd, 1) := by decide +kernel
theorem dL_law_182 : decode cL_law 182 = .ok (.iaload, 1) := by decide +kernel
theorem dL_law_183 : decode cL_law 183 = .ok (.aload_n 0, 1) := by decide +kernel
theorem dL_law_184 : decode cL_law 184 = .ok (.iload 5, 2) := by decide +kernel
theorem dL_law_186 : decode cL_law 186 = .ok (.iconst 2, 1) := by decide +kernel
theorem dL_law_187 : decode cL_law 187 = .ok (.iadd, 1) := by decide +kernel
theorem dL_law_188 : decode cL_law 188 = .ok (.iaload, 1) := by decide +kernel
theorem dL_law_189 : decode cL_law 189 = .ok (.aload_n 3, 1) := by decide +kernel
theorem dL_law_190 : decode cL_law 190 = .ok (.invokestatic 105, 3) := by decide +kernel
theorem dL_law_193 : decode cL_law 193 = .ok (.istore 6, 2) := by decide +kernel
theorem dL_law_195 : decode cL_law 195 = .ok (.aload_n 2, 1) := by decide +kernel
theorem dL_law_196 : decode cL_law 196 = .ok (.aload_n 0, 1) := by decide +kernel
theorem dL_law_197 : decode cL_law 197 = .ok (.iload 5, 2) := by decide +kernel
theorem dL_law_199 : decode cL_law 199 = .ok (.iconst 1, 1) := by decide +kernel
theorem dL_law_200 : decode cL_law 200 = .ok (.iadd, 1) := by decide +kernel
theorem dL_law_201 : decode cL_law 201 = .ok (.iaload, 1) := by decide +kernel
theorem dL_law_202 : decode cL_law 202 = .ok (.aload_n 0, 1) := by decide +kernel
theorem dL_law_203 : decode cL_law 203 = .ok (.iload 5, 2) := by decide +kernel
theorem dL_law_205 : decode cL_law 205 = .ok (.iconst 2, 1) := by decide +kernel
theorem dL_law_206 : decode cL_law 206 = .ok (.iadd, 1) := by decide +kernel
theorem dL_law_207 : decode cL_law 207 = .ok (.iaload, 1) := by decide +kernel
theorem dL_law_208 : decode cL_law 208 = .ok (.invokevirtual 110, 3) := by decide +kernel
theorem dL_law_211 : decode cL_law 211 = .ok (.istore 7, 2) := by decide +kernel
theorem dL_law_213 : decode cL_law 213 = .ok (.aload_n 2, 1) := by decide +kernel
theorem dL_law_214 : decode cL_law 214 = .ok (.invokevirtual 111, 3) := by decide +kernel
theorem dL_law_217 : decode cL_law 217 = .ok (.iload 6, 2) := by decide +kernel
theorem dL_law_219 : decode cL_law 219 = .ok (.if_icmp .eq 5, 3) := by decide +kernel
theorem dL_law_222 : decode cL_law 222 = .ok (.iconst 0, 1) := by decide +kernel
theorem dL_law_223 : decode cL_law 223 = .ok (.ireturn, 1) := by decide +kernel
theorem dL_law_224 : decode cL_law 224 = .ok (.iload 6, 2) := by decide +kernel
theorem dL_law_226 : decode cL_law 226 = .ok (.ifCond .ne 15, 3) := by decide +kernel
theorem dL_law_229 : decode cL_law 229 = .ok (.aload_n 3, 1) := by decide +kernel
theorem dL_law_230 : decode cL_law 230 = .ok (.iconst 0, 1) := by decide +kernel
theorem dL_law_231 : decode cL_law 231 = .ok (.laload, 1) := by decide +kernel
theorem dL_law_232 : decode cL_law 232 = .ok (.iload 7, 2) := by decide +kernel
theorem dL_law_234 : decode cL_law 234 = .ok (.i2l, 1) := by decide +kernel
theorem dL_law_235 : decode cL_law 235 = .ok (.lcmp, 1) := by decide +kernel
theorem dL_law_236 : decode cL_law 236 = .ok (.ifCond .eq 5, 3) := by decide +kernel
theorem dL_law_239 : decode cL_law 239 = .ok (.iconst 0, 1) := by decide +kernel
theorem dL_law_240 : decode cL_law 240 = .ok (.ireturn, 1) := by decide +kernel
theorem dL_law_241 : decode cL_law 241 = .ok (.goto 1756, 3) := by decide +kernel
theorem dL_law_244 : decode cL_law 244 = .ok (.aload_n 1, 1) := by decide +kernel
theorem dL_law_245 : decode cL_law 245 = .ok (.aload_n 0, 1) := by decide +kernel
theorem dL_law_246 : decode cL_law 246 = .ok (.iload 5, 2) := by decide +kernel
theorem dL_law_248 : decode cL_law 248 = .ok (.iconst 1, 1) := by decide +kernel
theorem dL_law_249 : decode cL_law 249 = .ok (.iadd, 1) := by decide +kernel
theorem dL_law_250 : decode cL_law 250 = .ok (.iaload, 1) := by decide +kernel
theorem dL_law_251 : decode cL_law 251 = .ok (.aload_n 0, 1) := by decide +kernel
theorem dL_law_252 : decode cL_law 252 = .ok (.iload 5, 2) := by decide +kernel
theorem dL_law_254 : decode cL_law 254 = .ok (.iconst 2, 1) := by decide +kernel
theorem dL_law_255 : decode cL_law 255 = .ok (.iadd, 1) := by decide +kernel
theorem dL_law_256 : decode cL_law 256 = .ok (.iaload, 1) := by decide +kernel
theorem dL_law_257 : decode cL_law 257 = .ok (.aload_n 3, 1) := by decide +kernel
theorem dL_law_258 : decode cL_law 258 = .ok (.invokestatic 114, 3) := by decide +kernel
theorem dL_law_261 : decode cL_law 261 = .ok (.istore 6, 2) := by decide +kernel
theorem dL_law_263 : decode cL_law 263 = .ok (.aload_n 2, 1) := by decide +kernel
theorem dL_law_264 : decode cL_law 264 = .ok (.aload_n 0, 1) := by decide +kernel
theorem dL_law_265 : decode cL_law 265 = .ok (.iload 5, 2) := by decide +kernel
theorem dL_law_267 : decode cL_law 267 = .ok (.iconst 1, 1) := by decide +kernel
theorem dL_law_268 : decode cL_law 268 = .ok (.iadd, 1) := by decide +kernel
theorem dL_law_269 : decode cL_law 269 = .ok (.iaload, 1) := by decide +kernel
theorem dL_law_270 : decode cL_law 270 = .ok (.aload_n 0, 1) := by decide +kernel
theorem dL_law_271 : decode cL_law 271 = .ok (.iload 5, 2) := by decide +kernel
theorem dL_law_273 : decode cL_law 273 = .ok (.iconst 2, 1) := by decide +kernel
theorem dL_law_274 : decode cL_law 274 = .ok (.iadd, 1) := by decide +kernel
theorem dL_law_275 : decode cL_law 275 = .ok (.iaload, 1) := by decide +kernel
theorem dL_law_276 : decode cL_law 276 = .ok (.invokevirtual 116, 3) := by decide +kernel
theorem dL_law_279 : decode cL_law 279 = .ok (.istore 7, 2) := by decide +kernel
theorem dL_law_281 : decode cL_law 281 = .ok (.aload_n 2, 1) := by decide +kernel
theorem dL_law_282 : decode cL_law 282 = .ok (.invokevirtual 111, 3) := by decide +kernel
theorem dL_law_285 : decode cL_law 285 = .ok (.iload 6, 2) := by decide +kernel
theorem dL_law_287 : decode cL_law 287 = .ok (.if_icmp .eq 5, 3) := by decide +kernel
theorem dL_law_290 : decode cL_law 290 = .ok (.iconst 0, 1) := by decide +kernel
theorem dL_law_291 : decode cL_law 291 = .ok (.ireturn, 1) := by decide +kernel
theorem dL_law_292 : decode cL_law 292 = .ok (.iload 6, 2) := by decide +kernel
theorem dL_law_294 : decode cL_law 294 = .ok (.ifCond .ne 15, 3) := by decide +kernel
theorem dL_law_297 : decode cL_law 297 = .ok (.aload_n 3, 1) := by decide +kernel
theorem dL_law_298 : decode cL_law 298 = .ok (.iconst 0, 1) := by decide +kernel
theorem dL_law_299 : decode cL_law 299 = .ok (.laload, 1) := by decide +kernel
theorem dL_law_300 : decode cL_law 300 = .ok (.iload 7, 2) := by decide +kernel
theorem dL_law_302 : decode cL_law 302 = .ok (.i2l, 1) := by decide +kernel
theorem dL_law_303 : decode cL_law 303 = .ok (.lcmp, 1) := by decide +kernel
theorem dL_law_304 : decode cL_law 304 = .ok (.ifCond .eq 5, 3) := by decide +kernel
theorem dL_law_307 : decode cL_law 307 = .ok (.iconst 0, 1) := by decide +kernel
theorem dL_law_308 : decode cL_law 308 = .ok (.ireturn, 1) := by decide +kernel
theorem dL_law_309 : decode cL_law 309 = .ok (.goto 1688, 3) := by decide +kernel
theorem dL_law_312 : decode cL_law 312 = .ok (.aload_n 1, 1) := by decide +kernel
theorem dL_law_313 : decode cL_law 313 = .ok (.aload_n 0, 1) := by decide +kernel
theorem dL_law_314 : decode cL_law 314 = .ok (.iload 5, 2) := by decide +kernel
theorem dL_law_316 : decode cL_law 316 = .ok (.iconst 1, 1) := by decide +kernel
theorem dL_law_317 : decode cL_law 317 = .ok (.iadd, 1) := by decide +kernel
theorem dL_law_318 : decode cL_law 318 = .ok (.iaload, 1) := by decide +kernel
theorem dL_law_319 : decode cL_law 319 = .ok (.aload_n 0, 1) := by decide +kernel
theorem dL_law_320 : decode cL_law 320 = .ok (.iload 5, 2) := by decide +kernel
theorem dL_law_322 : decode cL_law 322 = .ok (.iconst 2, 1) := by decide +kernel
theorem dL_law_323 : decode cL_law 323 = .ok (.iadd, 1) := by decide +kernel
theorem dL_law_324 : decode cL_law 324 = .ok (.iaload, 1) := by decide +kernel
theorem dL_law_325 : decode cL_law 325 = .ok (.aload_n 3, 1) := by decide +kernel
theorem dL_law_326 : decode cL_law 326 = .ok (.invokestatic 117, 3) := by decide +kernel
theorem dL_law_329 : decode cL_law 329 = .ok (.istore 6, 2) := by decide +kernel
theorem dL_law_331 : decode cL_law 331 = .ok (.aload_n 2, 1) := by decide +kernel
theorem dL_law_332 : decode cL_law 332 = .ok (.aload_n 0, 1) := by decide +kernel
theorem dL_law_333 : decode cL_law 333 = .ok (.iload 5, 2) := by decide +kernel
theorem dL_law_335 : decode cL_law 335 = .ok (.iconst 1, 1) := by decide +kernel
theorem dL_law_336 : decode cL_law 336 = .ok (.iadd, 1) := by decide +kernel
theorem dL_law_337 : decode cL_law 337 = .ok (.iaload, 1) := by decide +kernel
theorem dL_law_338 : decode cL_law 338 = .ok (.aload_n 0, 1) := by decide +kernel
theorem dL_law_339 : decode cL_law 339 = .ok (.iload 5, 2) := by decide +kernel
theorem dL_law_341 : decode cL_law 341 = .ok (.iconst 2, 1) := by decide +kernel
theorem dL_law_342 : decode cL_law 342 = .ok (.iadd, 1) := by decide +kernel
theorem dL_law_343 : decode cL_law 343 = .ok (.iaload, 1) := by decide +kernel
theorem dL_law_344 : decode cL_law 344 = .ok (.invokevirtual 119, 3) := by decide +kernel
theorem dL_law_347 : decode cL_law 347 = .ok (.istore 7, 2) := by decide +kernel
theorem dL_law_349 : decode cL_law 349 = .ok (.aload_n 2, 1) := by decide +kernel
theorem dL_law_350 : decode cL_law 350 = .ok (.invokevirtual 111, 3) := by decide +kernel
theorem dL_law_353 : decode cL_law 353 = .ok (.iload 6, 2) := by decide +kernel
theorem dL_law_355 : decode cL_law 355 = .ok (.if_icmp .eq 5, 3) := by decide +kernel
theorem dL_law_358 : decode cL_law 358 = .ok (.iconst 0, 1) := by decide +kernel
theorem dL_law_359 : decode cL_law 359 = .ok (.ireturn, 1) := by decide +kernel
theorem dL_law_360 : decode cL_law 360 = .ok (.iload 6, 2) := by decide +kernel
theorem dL_law_362 : decode cL_law 362 = .ok (.ifCond .ne 15, 3) := by decide +kernel
theorem dL_law_365 : decode cL_law 365 = .ok (.aload_n 3, 1) := by decide +kernel
theorem dL_law_366 : decode cL_law 366 = .ok (.iconst 0, 1) := by decide +kernel
theorem dL_law_367 : decode cL_law 367 = .ok (.laload, 1) := by decide +kernel
theorem dL_law_368 : decode cL_law 368 = .ok (.iload 7, 2) := by decide +kernel
theorem dL_law_370 : decode cL_law 370 = .ok (.i2l, 1) := by decide +kernel
theorem dL_law_371 : decode cL_law 371 = .ok (.lcmp, 1) := by decide +kernel
theorem dL_law_372 : decode cL_law 372 = .ok (.ifCond .eq 5, 3) := by decide +kernel
theorem dL_law_375 : decode cL_law 375 = .ok (.iconst 0, 1) := by decide +kernel
theorem dL_law_376 : decode cL_law 376 = .ok (.ireturn, 1) := by decide +kernel
theorem dL_law_377 : decode cL_law 377 = .ok (.goto 1620, 3) := by decide +kernel
theorem dL_law_380 : decode cL_law 380 = .ok (.aload_n 1, 1) := by decide +kernel
theorem dL_law_381 : decode cL_law 381 = .ok (.aload_n 0, 1) := by decide +kernel
theorem dL_law_382 : decode cL_law 382 = .ok (.iload 5, 2) := by decide +kernel
theorem dL_law_384 : decode cL_law 384 = .ok (.iconst 1, 1) := by decide +kernel
theorem dL_law_385 : decode cL_law 385 = .ok (.iadd, 1) := by decide +kernel
theorem dL_law_386 : decode cL_law 386 = .ok (.iaload, 1) := by decide +kernel
theorem dL_law_387 : decode cL_law 387 = .ok (.aload_n 0, 1) := by decide +kernel
theorem dL_law_388 : decode cL_law 388 = .ok (.iload 5, 2) := by decide +kernel
theorem dL_law_390 : decode cL_law 390 = .ok (.iconst 2, 1) := by decide +kernel
theorem dL_law_391 : decode cL_law 391 = .ok (.iadd, 1) := by decide +kernel
theorem dL_law_392 : decode cL_law 392 = .ok (.iaload, 1) := by decide +kernel
theorem dL_law_393 : decode cL_law 393 = .ok (.aload_n 0, 1) := by decide +kernel
theorem dL_law_394 : decode cL_law 394 = .ok (.iload 5, 2) := by decide +kernel
theorem dL_law_396 : decode cL_law 396 = .ok (.iconst 3, 1) := by decide +kernel
theorem dL_law_397 : decode cL_law 397 = .ok (.iadd, 1) := by decide +kernel
theorem dL_law_398 : decode cL_law 398 = .ok (.iaload, 1) := by decide +kernel
theorem dL_law_399 : decode cL_law 399 = .ok (.aload_n 0, 1) := by decide +kernel
theorem dL_law_400 : decode cL_law 400 = .ok (.iload 5, 2) := by decide +kernel
theorem dL_law_402 : decode cL_law 402 = .ok (.iconst 4, 1) := by decide +kernel
theorem dL_law_403 : decode cL_law 403 = .ok (.iadd, 1) := by decide +kernel
theorem dL_law_404 : decode cL_law 404 = .ok (.iaload, 1) := by decide +kernel
theorem dL_law_405 : decode cL_law 405 = .ok (.aload_n 3, 1) := by decide +kernel
theorem dL_law_406 : decode cL_law 406 = .ok (.invokestatic 120, 3) := by decide +kernel
theorem dL_law_409 : decode cL_law 409 = .ok (.istore 6, 2) := by decide +kernel
theorem dL_law_411 : decode cL_law 411 = .ok (.aload_n 2, 1) := by decide +kernel
theorem dL_law_412 : decode cL_law 412 = .ok (.aload_n 0, 1) := by decide +kernel
theorem dL_law_413 : decode cL_law 413 = .ok (.iload 5, 2) := by decide +kernel
theorem dL_law_415 : decode cL_law 415 = .ok (.iconst 1, 1) := by decide +kernel
theorem dL_law_416 : decode cL_law 416 = .ok (.iadd, 1) := by decide +kernel
theorem dL_law_417 : decode cL_law 417 = .ok (.iaload, 1) := by decide +kernel
theorem dL_law_418 : decode cL_law 418 = .ok (.aload_n 0, 1) := by decide +kernel
theorem dL_law_419 : decode cL_law 419 = .ok (.iload 5, 2) := by decide +kernel
theorem dL_law_421 : decode cL_law 421 = .ok (.iconst 2, 1) := by decide +kernel
theorem dL_law_422 : decode cL_law 422 = .ok (.iadd, 1) := by decide +kernel
theorem dL_law_423 : decode cL_law 423 = .ok (.iaload, 1) := by decide +kernel
theorem dL_law_424 : decode cL_law 424 = .ok (.aload_n 0, 1) := by decide +kernel
theorem dL_law_425 : decode cL_law 425 = .ok (.iload 5, 2) := by decide +kernel
theorem dL_law_427 : decode cL_law 427 = .ok (.iconst 3, 1) := by decide +kernel
theorem dL_law_428 : decode cL_law 428 = .ok (.iadd, 1) := by decide +kernel
theorem dL_law_429 : decode cL_law 429 = .ok (.iaload, 1) := by decide +kernel
theorem dL_law_430 : decode cL_law 430 = .ok (.aload_n 0, 1) := by decide +kernel
theorem dL_law_431 : decode cL_law 431 = .ok (.iload 5, 2) := by decide +kernel
theorem dL_law_433 : decode cL_law 433 = .ok (.iconst 4, 1) := by decide +kernel
theorem dL_law_434 : decode cL_law 434 = .ok (.iadd, 1) := by decide +kernel
theorem dL_law_435 : decode cL_law 435 = .ok (.iaload, 1) := by decide +kernel
theorem dL_law_436 : decode cL_law 436 = .ok (.invokevirtual 123, 3) := by decide +kernel
theorem dL_law_439 : decode cL_law 439 = .ok (.istore 7, 2) := by decide +kernel
theorem dL_law_441 : decode cL_law 441 = .ok (.aload_n 2, 1) := by decide +kernel
theorem dL_law_442 : decode cL_law 442 = .ok (.invokevirtual 111, 3) := by decide +kernel
theorem dL_law_445 : decode cL_law 445 = .ok (.iload 6, 2) := by decide +kernel
theorem dL_law_447 : decode cL_law 447 = .ok (.if_icmp .eq 5, 3) := by decide +kernel
theorem dL_law_450 : decode cL_law 450 = .ok (.iconst 0, 1) := by decide +kernel
theorem dL_law_451 : decode cL_law 451 = .ok (.ireturn, 1) := by decide +kernel
theorem dL_law_452 : decode cL_law 452 = .ok (.iload 6, 2) := by decide +kernel
theorem dL_law_454 : decode cL_law 454 = .ok (.ifCond .ne 15, 3) := by decide +kernel
theorem dL_law_457 : decode cL_law 457 = .ok (.aload_n 3, 1) := by decide +kernel
theorem dL_law_458 : decode cL_law 458 = .ok (.iconst 0, 1) := by decide +kernel
theorem dL_law_459 : decode cL_law 459 = .ok (.laload, 1) := by decide +kernel
theorem dL_law_460 : decode cL_law 460 = .ok (.iload 7, 2) := by decide +kernel
theorem dL_law_462 : decode cL_law 462 = .ok (.i2l, 1) := by decide +kernel
theorem dL_law_463 : decode cL_law 463 = .ok (.lcmp, 1) := by decide +kernel
theorem dL_law_464 : decode cL_law 464 = .ok (.ifCond .eq 5, 3) := by decide +kernel
theorem dL_law_467 : decode cL_law 467 = .ok (.iconst 0, 1) := by decide +kernel
theorem dL_law_468 : decode cL_law 468 = .ok (.ireturn, 1) := by decide +kernel
theorem dL_law_469 : decode cL_law 469 = .ok (.goto 1528, 3) := by decide +kernel
theorem dL_law_472 : decode cL_law 472 = .ok (.aload_n 1, 1) := by decide +kernel
theorem dL_law_473 : decode cL_law 473 = .ok (.aload_n 0, 1) := by decide +kernel
theorem dL_law_474 : decode cL_law 474 = .ok (.iload 5, 2) := by decide +kernel
theorem dL_law_476 : decode cL_law 476 = .ok (.iconst 1, 1) := by decide +kernel
theorem dL_law_477 : decode cL_law 477 = .ok (.iadd, 1) := by decide +kernel
theorem dL_law_478 : decode cL_law 478 = .ok (.iaload, 1) := by decide +kernel
theorem dL_law_479 : decode cL_law 479 = .ok (.aload_n 0, 1) := by decide +kernel
theorem dL_law_480 : decode cL_law 480 = .ok (.iload 5, 2) := by decide +kernel
theorem dL_law_482 : decode cL_law 482 = .ok (.iconst 2, 1) := by decide +kernel
theorem dL_law_483 : decode cL_law 483 = .ok (.iadd, 1) := by decide +kernel
theorem dL_law_484 : decode cL_law 484 = .ok (.iaload, 1) := by decide +kernel
theorem dL_law_485 : decode cL_law 485 = .ok (.aload_n 0, 1) := by decide +kernel
theorem dL_law_486 : decode cL_law 486 = .ok (.iload 5, 2) := by decide +kernel
theorem dL_law_488 : decode cL_law 488 = .ok (.iconst 3, 1) := by decide +kernel
theorem dL_law_489 : decode cL_law 489 = .ok (.iadd, 1) := by decide +kernel
theorem dL_law_490 : decode cL_law 490 = .ok (.iaload, 1) := by decide +kernel
theorem dL_law_491 : decode cL_law 491 = .ok (.aload_n 3, 1) := by decide +kernel
theorem dL_law_492 : decode cL_law 492 = .ok (.invokestatic 124, 3) := by decide +kernel
theorem dL_law_495 : decode cL_law 495 = .ok (.istore 6, 2) := by decide +kernel
theorem dL_law_497 : decode cL_law 497 = .ok (.aload_n 2, 1) := by decide +kernel
theorem dL_law_498 : decode cL_law 498 = .ok (.aload_n 0, 1) := by decide +kernel
theorem dL_law_499 : decode cL_law 499 = .ok (.iload 5, 2) := by decide +kernel
theorem dL_law_501 : decode cL_law 501 = .ok (.iconst 1, 1) := by decide +kernel
theorem dL_law_502 : decode cL_law 502 = .ok (.iadd, 1) := by decide +kernel
theorem dL_law_503 : decode cL_law 503 = .ok (.iaload, 1) := by decide +kernel
theorem dL_law_504 : decode cL_law 504 = .ok (.aload_n 0, 1) := by decide +kernel
theorem dL_law_505 : decode cL_law 505 = .ok (.iload 5, 2) := by decide +kernel
theorem dL_law_507 : decode cL_law 507 = .ok (.iconst 2, 1) := by decide +kernel
theorem dL_law_508 : decode cL_law 508 = .ok (.iadd, 1) := by decide +kernel
theorem dL_law_509 : decode cL_law 509 = .ok (.iaload, 1) := by decide +kernel
theorem dL_law_510 : decode cL_law 510 = .ok (.aload_n 0, 1) := by decide +kernel
theorem dL_law_511 : decode cL_law 511 = .ok (.iload 5, 2) := by decide +kernel
theorem dL_law_513 : decode cL_law 513 = .ok (.iconst 3, 1) := by decide +kernel
theorem dL_law_514 : decode cL_law 514 = .ok (.iadd, 1) := by decide +kernel
theorem dL_law_515 : decode cL_law 515 = .ok (.iaload, 1) := by decide +kernel
theorem dL_law_516 : decode cL_law 516 = .ok (.invokevirtual 127, 3) := by decide +kernel
theorem dL_law_519 : decode cL_law 519 = .ok (.istore 7, 2) := by decide +kernel
theorem dL_law_521 : decode cL_law 521 = .ok (.aload_n 2, 1) := by decide +kernel
theorem dL_law_522 : decode cL_law 522 = .ok (.invokevirtual 111, 3) := by decide +kernel
theorem dL_law_525 : decode cL_law 525 = .ok (.iload 6, 2) := by decide +kernel
theorem dL_law_527 : decode cL_law 527 = .ok (.if_icmp .eq 5, 3) := by decide +kernel
theorem dL_law_530 : decode cL_law 530 = .ok (.iconst 0, 1) := by decide +kernel
theorem dL_law_531 : decode cL_law 531 = .ok (.ireturn, 1) := by decide +kernel
theorem dL_law_532 : decode cL_law 532 = .ok (.iload 6, 2) := by decide +kernel
theorem dL_law_534 : decode cL_law 534 = .ok (.ifCond .ne 15, 3) := by decide +kernel
theorem dL_law_537 : decode cL_law 537 = .ok (.aload_n 3, 1) := by decide +kernel
theorem dL_law_538 : decode cL_law 538 = .ok (.iconst 0, 1) := by decide +kernel
theorem dL_law_539 : decode cL_law 539 = .ok (.laload, 1) := by decide +kernel
theorem dL_law_540 : decode cL_law 540 = .ok (.iload 7, 2) := by decide +kernel
theorem dL_law_542 : decode cL_law 542 = .ok (.i2l, 1) := by decide +kernel
theorem dL_law_543 : decode cL_law 543 = .ok (.lcmp, 1) := by decide +kernel
theorem dL_law_544 : decode cL_law 544 = .ok (.ifCond .eq 5, 3) := by decide +kernel
theorem dL_law_547 : decode cL_law 547 = .ok (.iconst 0, 1) := by decide +kernel
theorem dL_law_548 : decode cL_law 548 = .ok (.ireturn, 1) := by decide +kernel
theorem dL_law_549 : decode cL_law 549 = .ok (.goto 1448, 3) := by decide +kernel
theorem dL_law_552 : decode cL_law 552 = .ok (.aload_n 1, 1) := by decide +kernel
theorem dL_law_553 : decode cL_law 553 = .ok (.aload_n 0, 1) := by decide +kernel
theorem dL_law_554 : decode cL_law 554 = .ok (.iload 5, 2) := by decide +kernel
theorem dL_law_556 : decode cL_law 556 = .ok (.iconst 1, 1) := by decide +kernel
theorem dL_law_557 : decode cL_law 557 = .ok (.iadd, 1) := by decide +kernel
theorem dL_law_558 : decode cL_law 558 = .ok (.iaload, 1) := by decide +kernel
theorem dL_law_559 : decode cL_law 559 = .ok (.aload_n 0, 1) := by decide +kernel
theorem dL_law_560 : decode cL_law 560 = .ok (.iload 5, 2) := by decide +kernel
theorem dL_law_562 : decode cL_law 562 = .ok (.iconst 2, 1) := by decide +kernel
theorem dL_law_563 : decode cL_law 563 = .ok (.iadd, 1) := by decide +kernel
theorem dL_law_564 : decode cL_law 564 = .ok (.iaload, 1) := by decide +kernel
theorem dL_law_565 : decode cL_law 565 = .ok (.aload_n 3, 1) := by decide +kernel
theorem dL_law_566 : decode cL_law 566 = .ok (.invokestatic 128, 3) := by decide +kernel
theorem dL_law_569 : decode cL_law 569 = .ok (.istore 6, 2) := by decide +kernel
theorem dL_law_571 : decode cL_law 571 = .ok (.aload_n 2, 1) := by decide +kernel
theorem dL_law_572 : decode cL_law 572 = .ok (.aload_n 0, 1) := by decide +kernel
theorem dL_law_573 : decode cL_law 573 = .ok (.iload 5, 2) := by decide +kernel
theorem dL_law_575 : decode cL_law 575 = .ok (.iconst 1, 1) := by decide +kernel
theorem dL_law_576 : decode cL_law 576 = .ok (.iadd, 1) := by decide +kernel
theorem dL_law_577 : decode cL_law 577 = .ok (.iaload, 1) := by decide +kernel
theorem dL_law_578 : decode cL_law 578 = .ok (.aload_n 0, 1) := by decide +kernel
theorem dL_law_579 : decode cL_law 579 = .ok (.iload 5, 2) := by decide +kernel
theorem dL_law_581 : decode cL_law 581 = .ok (.iconst 2, 1) := by decide +kernel
theorem dL_law_582 : decode cL_law 582 = .ok (.iadd, 1) := by decide +kernel
theorem dL_law_583 : decode cL_law 583 = .ok (.iaload, 1) := by decide +kernel
theorem dL_law_584 : decode cL_law 584 = .ok (.invokevirtual 130, 3) := by decide +kernel
theorem dL_law_587 : decode cL_law 587 = .ok (.istore 7, 2) := by decide +kernel
theorem dL_law_589 : decode cL_law 589 = .ok (.aload_n 2, 1) := by decide +kernel
theorem dL_law_590 : decode cL_law 590 = .ok (.invokevirtual 111, 3) := by decide +kernel
theorem dL_law_593 : decode cL_law 593 = .ok (.iload 6, 2) := by decide +kernel
theorem dL_law_595 : decode cL_law 595 = .ok (.if_icmp .eq 5, 3) := by decide +kernel
theorem dL_law_598 : decode cL_law 598 = .ok (.iconst 0, 1) := by decide +kernel
theorem dL_law_599 : decode cL_law 599 = .ok (.ireturn, 1) := by decide +kernel
theorem dL_law_600 : decode cL_law 600 = .ok (.iload 6, 2) := by decide +kernel
theorem dL_law_602 : decode cL_law 602 = .ok (.ifCond .ne 15, 3) := by decide +kernel
theorem dL_law_605 : decode cL_law 605 = .ok (.aload_n 3, 1) := by decide +kernel
theorem dL_law_606 : decode cL_law 606 = .ok (.iconst 0, 1) := by decide +kernel
theorem dL_law_607 : decode cL_law 607 = .ok (.laload, 1) := by decide +kernel
theorem dL_law_608 : decode cL_law 608 = .ok (.iload 7, 2) := by decide +kernel
theorem dL_law_610 : decode cL_law 610 = .ok (.i2l, 1) := by decide +kernel
theorem dL_law_611 : decode cL_law 611 = .ok (.lcmp, 1) := by decide +kernel
theorem dL_law_612 : decode cL_law 612 = .ok (.ifCond .eq 5, 3) := by decide +kernel
theorem dL_law_615 : decode cL_law 615 = .ok (.iconst 0, 1) := by decide +kernel
theorem dL_law_616 : decode cL_law 616 = .ok (.ireturn, 1) := by decide +kernel
theorem dL_law_617 : decode cL_law 617 = .ok (.goto 1380, 3) := by decide +kernel
theorem dL_law_620 : decode cL_law 620 = .ok (.aload_n 1, 1) := by decide +kernel
theorem dL_law_621 : decode cL_law 621 = .ok (.aload_n 0, 1) := by decide +kernel
theorem dL_law_622 : decode cL_law 622 = .ok (.iload 5, 2) := by decide +kernel
theorem dL_law_624 : decode cL_law 624 = .ok (.iconst 1, 1) := by decide +kernel
theorem dL_law_625 : decode cL_law 625 = .ok (.iadd, 1) := by decide +kernel
theorem dL_law_626 : decode cL_law 626 = .ok (.iaload, 1) := by decide +kernel
theorem dL_law_627 : decode cL_law 627 = .ok (.aload_n 3, 1) := by decide +kernel
theorem dL_law_628 : decode cL_law 628 = .ok (.invokestatic 131, 3) := by decide +kernel
theorem dL_law_631 : decode cL_law 631 = .ok (.istore 6, 2) := by decide +kernel
theorem dL_law_633 : decode cL_law 633 = .ok (.aload_n 2, 1) := by decide +kernel
theorem dL_law_634 : decode cL_law 634 = .ok (.aload_n 0, 1) := by decide +kernel
theorem dL_law_635 : decode cL_law 635 = .ok (.iload 5, 2) := by decide +kernel
theorem dL_law_637 : decode cL_law 637 = .ok (.iconst 1, 1) := by decide +kernel
theorem dL_law_638 : decode cL_law 638 = .ok (.iadd, 1) := by decide +kernel
theorem dL_law_639 : decode cL_law 639 = .ok (.iaload, 1) := by decide +kernel
theorem dL_law_640 : decode cL_law 640 = .ok (.invokevirtual 134, 3) := by decide +kernel
theorem dL_law_643 : decode cL_law 643 = .ok (.istore 7, 2) := by decide +kernel
theorem dL_law_645 : decode cL_law 645 = .ok (.aload_n 2, 1) := by decide +kernel
theorem dL_law_646 : decode cL_law 646 = .ok (.invokevirtual 111, 3) := by decide +kernel
theorem dL_law_649 : decode cL_law 649 = .ok (.iload 6, 2) := by decide +kernel
theorem dL_law_651 : decode cL_law 651 = .ok (.if_icmp .eq 5, 3) := by decide +kernel
theorem dL_law_654 : decode cL_law 654 = .ok (.iconst 0, 1) := by decide +kernel
theorem dL_law_655 : decode cL_law 655 = .ok (.ireturn, 1) := by decide +kernel
theorem dL_law_656 : decode cL_law 656 = .ok (.iload 6, 2) := by decide +kernel
theorem dL_law_658 : decode cL_law 658 = .ok (.ifCond .ne 15, 3) := by decide +kernel
theorem dL_law_661 : decode cL_law 661 = .ok (.aload_n 3, 1) := by decide +kernel
theorem dL_law_662 : decode cL_law 662 = .ok (.iconst 0, 1) := by decide +kernel
theorem dL_law_663 : decode cL_law 663 = .ok (.laload, 1) := by decide +kernel
theorem dL_law_664 : decode cL_law 664 = .ok (.iload 7, 2) := by decide +kernel
theorem dL_law_666 : decode cL_law 666 = .ok (.i2l, 1) := by decide +kernel
theorem dL_law_667 : decode cL_law 667 = .ok (.lcmp, 1) := by decide +kernel
theorem dL_law_668 : decode cL_law 668 = .ok (.ifCond .eq 5, 3) := by decide +kernel
theorem dL_law_671 : decode cL_law 671 = .ok (.iconst 0, 1) := by decide +kernel
theorem dL_law_672 : decode cL_law 672 = .ok (.ireturn, 1) := by decide +kernel
theorem dL_law_673 : decode cL_law 673 = .ok (.goto 1324, 3) := by decide +kernel
theorem dL_law_676 : decode cL_law 676 = .ok (.aload_n 1, 1) := by decide +kernel
theorem dL_law_677 : decode cL_law 677 = .ok (.aload_n 0, 1) := by decide +kernel
theorem dL_law_678 : decode cL_law 678 = .ok (.iload 5, 2) := by decide +kernel
theorem dL_law_680 : decode cL_law 680 = .ok (.iconst 1, 1) := by decide +kernel
theorem dL_law_681 : decode cL_law 681 = .ok (.iadd, 1) := by decide +kernel
theorem dL_law_682 : decode cL_law 682 = .ok (.iaload, 1) := by decide +kernel
theorem dL_law_683 : decode cL_law 683 = .ok (.aload_n 3, 1) := by decide +kernel
theorem dL_law_684 : decode cL_law 684 = .ok (.invokestatic 135, 3) := by decide +kernel
theorem dL_law_687 : decode cL_law 687 = .ok (.istore 6, 2) := by decide +kernel
theorem dL_law_689 : decode cL_law 689 = .ok (.aload_n 2, 1) := by decide +kernel
theorem dL_law_690 : decode cL_law 690 = .ok (.aload_n 0, 1) := by decide +kernel
theorem dL_law_691 : decode cL_law 691 = .ok (.iload 5, 2) := by decide +kernel
theorem dL_law_693 : decode cL_law 693 = .ok (.iconst 1, 1) := by decide +kernel
theorem dL_law_694 : decode cL_law 694 = .ok (.iadd, 1) := by decide +kernel
theorem dL_law_695 : decode cL_law 695 = .ok (.iaload, 1) := by decide +kernel
theorem dL_law_696 : decode cL_law 696 = .ok (.invokevirtual 137, 3) := by decide +kernel
theorem dL_law_699 : decode cL_law 699 = .ok (.istore 7, 2) := by decide +kernel
theorem dL_law_701 : decode cL_law 701 = .ok (.aload_n 2, 1) := by decide +kernel
theorem dL_law_702 : decode cL_law 702 = .ok (.invokevirtual 111, 3) := by decide +kernel
theorem dL_law_705 : decode cL_law 705 = .ok (.iload 6, 2) := by decide +kernel
theorem dL_law_707 : decode cL_law 707 = .ok (.if_icmp .eq 5, 3) := by decide +kernel
theorem dL_law_710 : decode cL_law 710 = .ok (.iconst 0, 1) := by decide +kernel
theorem dL_law_711 : decode cL_law 711 = .ok (.ireturn, 1) := by decide +kernel
theorem dL_law_712 : decode cL_law 712 = .ok (.iload 6, 2) := by decide +kernel
theorem dL_law_714 : decode cL_law 714 = .ok (.ifCond .ne 15, 3) := by decide +kernel
theorem dL_law_717 : decode cL_law 717 = .ok (.aload_n 3, 1) := by decide +kernel
theorem dL_law_718 : decode cL_law 718 = .ok (.iconst 0, 1) := by decide +kernel
theorem dL_law_719 : decode cL_law 719 = .ok (.laload, 1) := by decide +kernel
theorem dL_law_720 : decode cL_law 720 = .ok (.iload 7, 2) := by decide +kernel
theorem dL_law_722 : decode cL_law 722 = .ok (.i2l, 1) := by decide +kernel
theorem dL_law_723 : decode cL_law 723 = .ok (.lcmp, 1) := by decide +kernel
theorem dL_law_724 : decode cL_law 724 = .ok (.ifCond .eq 5, 3) := by decide +kernel
theorem dL_law_727 : decode cL_law 727 = .ok (.iconst 0, 1) := by decide +kernel
theorem dL_law_728 : decode cL_law 728 = .ok (.ireturn, 1) := by decide +kernel
theorem dL_law_729 : decode cL_law 729 = .ok (.goto 1268, 3) := by decide +kernel
theorem dL_law_732 : decode cL_law 732 = .ok (.aload_n 1, 1) := by decide +kernel
theorem dL_law_733 : decode cL_law 733 = .ok (.aload_n 0, 1) := by decide +kernel
end
section
theorem dL_law_734 : decode cL_law 734 = .ok (.iload 5, 2) := by decide +kernel
theorem dL_law_736 : decode cL_law 736 = .ok (.iconst 1, 1) := by decide +kernel
theorem dL_law_737 : decode cL_law 737 = .ok (.iadd, 1) := by decide +kernel
theorem dL_law_738 : decode cL_law 738 = .ok (.iaload, 1) := by decide +kernel
theorem dL_law_739 : decode cL_law 739 = .ok (.aload_n 0, 1) := by decide +kernel
theorem dL_law_740 : decode cL_law 740 = .ok (.iload 5, 2) := by decide +kernel
theorem dL_law_742 : decode cL_law 742 = .ok (.iconst 2, 1) := by decide +kernel
theorem dL_law_743 : decode cL_law 743 = .ok (.iadd, 1) := by decide +kernel
theorem dL_law_744 : decode cL_law 744 = .ok (.iaload, 1) := by decide +kernel
theorem dL_law_745 : decode cL_law 745 = .ok (.ifCond .eq 7, 3) := by decide +kernel
theorem dL_law_748 : decode cL_law 748 = .ok (.iconst 1, 1) := by decide +kernel
theorem dL_law_749 : decode cL_law 749 = .ok (.goto 4, 3) := by decide +kernel
theorem dL_law_752 : decode cL_law 752 = .ok (.iconst 0, 1) := by decide +kernel
theorem dL_law_753 : decode cL_law 753 = .ok (.aload_n 3, 1) := by decide +kernel
theorem dL_law_754 : decode cL_law 754 = .ok (.invokestatic 138, 3) := by decide +kernel
theorem dL_law_757 : decode cL_law 757 = .ok (.istore 6, 2) := by decide +kernel
theorem dL_law_759 : decode cL_law 759 = .ok (.aload_n 2, 1) := by decide +kernel
theorem dL_law_760 : decode cL_law 760 = .ok (.aload_n 0, 1) := by decide +kernel
theorem dL_law_761 : decode cL_law 761 = .ok (.iload 5, 2) := by decide +kernel
theorem dL_law_763 : decode cL_law 763 = .ok (.iconst 1, 1) := by decide +kernel
theorem dL_law_764 : decode cL_law 764 = .ok (.iadd, 1) := by decide +kernel
theorem dL_law_765 : decode cL_law 765 = .ok (.iaload, 1) := by decide +kernel
theorem dL_law_766 : decode cL_law 766 = .ok (.aload_n 0, 1) := by decide +kernel
theorem dL_law_767 : decode cL_law 767 = .ok (.iload 5, 2) := by decide +kernel
theorem dL_law_769 : decode cL_law 769 = .ok (.iconst 2, 1) := by decide +kernel
theorem dL_law_770 : decode cL_law 770 = .ok (.iadd, 1) := by decide +kernel
theorem dL_law_771 : decode cL_law 771 = .ok (.iaload, 1) := by decide +kernel
theorem dL_law_772 : decode cL_law 772 = .ok (.ifCond .eq 7, 3) := by decide +kernel
theorem dL_law_775 : decode cL_law 775 = .ok (.iconst 1, 1) := by decide +kernel
theorem dL_law_776 : decode cL_law 776 = .ok (.goto 4, 3) := by decide +kernel
theorem dL_law_779 : decode cL_law 779 = .ok (.iconst 0, 1) := by decide +kernel
theorem dL_law_780 : decode cL_law 780 = .ok (.invokevirtual 141, 3) := by decide +kernel
theorem dL_law_783 : decode cL_law 783 = .ok (.istore 7, 2) := by decide +kernel
theorem dL_law_785 : decode cL_law 785 = .ok (.aload_n 2, 1) := by decide +kernel
theorem dL_law_786 : decode cL_law 786 = .ok (.invokevirtual 111, 3) := by decide +kernel
theorem dL_law_789 : decode cL_law 789 = .ok (.iload 6, 2) := by decide +kernel
theorem dL_law_791 : decode cL_law 791 = .ok (.if_icmp .eq 5, 3) := by decide +kernel
theorem dL_law_794 : decode cL_law 794 = .ok (.iconst 0, 1) := by decide +kernel
theorem dL_law_795 : decode cL_law 795 = .ok (.ireturn, 1) := by decide +kernel
theorem dL_law_796 : decode cL_law 796 = .ok (.iload 6, 2) := by decide +kernel
theorem dL_law_798 : decode cL_law 798 = .ok (.ifCond .ne 15, 3) := by decide +kernel
theorem dL_law_801 : decode cL_law 801 = .ok (.aload_n 3, 1) := by decide +kernel
theorem dL_law_802 : decode cL_law 802 = .ok (.iconst 0, 1) := by decide +kernel
theorem dL_law_803 : decode cL_law 803 = .ok (.laload, 1) := by decide +kernel
theorem dL_law_804 : decode cL_law 804 = .ok (.iload 7, 2) := by decide +kernel
theorem dL_law_806 : decode cL_law 806 = .ok (.i2l, 1) := by decide +kernel
theorem dL_law_807 : decode cL_law 807 = .ok (.lcmp, 1) := by decide +kernel
theorem dL_law_808 : decode cL_law 808 = .ok (.ifCond .eq 5, 3) := by decide +kernel
theorem dL_law_811 : decode cL_law 811 = .ok (.iconst 0, 1) := by decide +kernel
theorem dL_law_812 : decode cL_law 812 = .ok (.ireturn, 1) := by decide +kernel
theorem dL_law_813 : decode cL_law 813 = .ok (.goto 1184, 3) := by decide +kernel
theorem dL_law_816 : decode cL_law 816 = .ok (.aload_n 1, 1) := by decide +kernel
theorem dL_law_817 : decode cL_law 817 = .ok (.aload_n 0, 1) := by decide +kernel
theorem dL_law_818 : decode cL_law 818 = .ok (.iload 5, 2) := by decide +kernel
theorem dL_law_820 : decode cL_law 820 = .ok (.iconst 1, 1) := by decide +kernel
theorem dL_law_821 : decode cL_law 821 = .ok (.iadd, 1) := by decide +kernel
theorem dL_law_822 : decode cL_law 822 = .ok (.iaload, 1) := by decide +kernel
theorem dL_law_823 : decode cL_law 823 = .ok (.aload_n 3, 1) := by decide +kernel
theorem dL_law_824 : decode cL_law 824 = .ok (.invokestatic 142, 3) := by decide +kernel
theorem dL_law_827 : decode cL_law 827 = .ok (.istore 6, 2) := by decide +kernel
theorem dL_law_829 : decode cL_law 829 = .ok (.aload_n 2, 1) := by decide +kernel
theorem dL_law_830 : decode cL_law 830 = .ok (.aload_n 0, 1) := by decide +kernel
theorem dL_law_831 : decode cL_law 831 = .ok (.iload 5, 2) := by decide +kernel
theorem dL_law_833 : decode cL_law 833 = .ok (.iconst 1, 1) := by decide +kernel
theorem dL_law_834 : decode cL_law 834 = .ok (.iadd, 1) := by decide +kernel
theorem dL_law_835 : decode cL_law 835 = .ok (.iaload, 1) := by decide +kernel
theorem dL_law_836 : decode cL_law 836 = .ok (.invokevirtual 144, 3) := by decide +kernel
theorem dL_law_839 : decode cL_law 839 = .ok (.istore 7, 2) := by decide +kernel
theorem dL_law_841 : decode cL_law 841 = .ok (.aload_n 2, 1) := by decide +kernel
theorem dL_law_842 : decode cL_law 842 = .ok (.invokevirtual 111, 3) := by decide +kernel
theorem dL_law_845 : decode cL_law 845 = .ok (.iload 6, 2) := by decide +kernel
theorem dL_law_847 : decode cL_law 847 = .ok (.if_icmp .eq 5, 3) := by decide +kernel
theorem dL_law_850 : decode cL_law 850 = .ok (.iconst 0, 1) := by decide +kernel
theorem dL_law_851 : decode cL_law 851 = .ok (.ireturn, 1) := by decide +kernel
theorem dL_law_852 : decode cL_law 852 = .ok (.iload 6, 2) := by decide +kernel
theorem dL_law_854 : decode cL_law 854 = .ok (.ifCond .ne 15, 3) := by decide +kernel
theorem dL_law_857 : decode cL_law 857 = .ok (.aload_n 3, 1) := by decide +kernel
theorem dL_law_858 : decode cL_law 858 = .ok (.iconst 0, 1) := by decide +kernel
theorem dL_law_859 : decode cL_law 859 = .ok (.laload, 1) := by decide +kernel
theorem dL_law_860 : decode cL_law 860 = .ok (.iload 7, 2) := by decide +kernel
theorem dL_law_862 : decode cL_law 862 = .ok (.i2l, 1) := by decide +kernel
theorem dL_law_863 : decode cL_law 863 = .ok (.lcmp, 1) := by decide +kernel
theorem dL_law_864 : decode cL_law 864 = .ok (.ifCond .eq 5, 3) := by decide +kernel
theorem dL_law_867 : decode cL_law 867 = .ok (.iconst 0, 1) := by decide +kernel
theorem dL_law_868 : decode cL_law 868 = .ok (.ireturn, 1) := by decide +kernel
theorem dL_law_869 : decode cL_law 869 = .ok (.goto 1128, 3) := by decide +kernel
theorem dL_law_872 : decode cL_law 872 = .ok (.aload_n 1, 1) := by decide +kernel
theorem dL_law_873 : decode cL_law 873 = .ok (.aload_n 0, 1) := by decide +kernel
theorem dL_law_874 : decode cL_law 874 = .ok (.iload 5, 2) := by decide +kernel
theorem dL_law_876 : decode cL_law 876 = .ok (.iconst 1, 1) := by decide +kernel
theorem dL_law_877 : decode cL_law 877 = .ok (.iadd, 1) := by decide +kernel
theorem dL_law_878 : decode cL_law 878 = .ok (.iaload, 1) := by decide +kernel
theorem dL_law_879 : decode cL_law 879 = .ok (.aload_n 3, 1) := by decide +kernel
theorem dL_law_880 : decode cL_law 880 = .ok (.invokestatic 145, 3) := by decide +kernel
theorem dL_law_883 : decode cL_law 883 = .ok (.istore 6, 2) := by decide +kernel
theorem dL_law_885 : decode cL_law 885 = .ok (.aload_n 2, 1) := by decide +kernel
theorem dL_law_886 : decode cL_law 886 = .ok (.aload_n 0, 1) := by decide +kernel
theorem dL_law_887 : decode cL_law 887 = .ok (.iload 5, 2) := by decide +kernel
theorem dL_law_889 : decode cL_law 889 = .ok (.iconst 1, 1) := by decide +kernel
theorem dL_law_890 : decode cL_law 890 = .ok (.iadd, 1) := by decide +kernel
theorem dL_law_891 : decode cL_law 891 = .ok (.iaload, 1) := by decide +kernel
theorem dL_law_892 : decode cL_law 892 = .ok (.invokevirtual 147, 3) := by decide +kernel
theorem dL_law_895 : decode cL_law 895 = .ok (.istore 7, 2) := by decide +kernel
theorem dL_law_897 : decode cL_law 897 = .ok (.aload_n 2, 1) := by decide +kernel
theorem dL_law_898 : decode cL_law 898 = .ok (.invokevirtual 111, 3) := by decide +kernel
theorem dL_law_901 : decode cL_law 901 = .ok (.iload 6, 2) := by decide +kernel
theorem dL_law_903 : decode cL_law 903 = .ok (.if_icmp .eq 5, 3) := by decide +kernel
theorem dL_law_906 : decode cL_law 906 = .ok (.iconst 0, 1) := by decide +kernel
theorem dL_law_907 : decode cL_law 907 = .ok (.ireturn, 1) := by decide +kernel
theorem dL_law_908 : decode cL_law 908 = .ok (.iload 6, 2) := by decide +kernel
theorem dL_law_910 : decode cL_law 910 = .ok (.ifCond .ne 15, 3) := by decide +kernel
theorem dL_law_913 : decode cL_law 913 = .ok (.aload_n 3, 1) := by decide +kernel
theorem dL_law_914 : decode cL_law 914 = .ok (.iconst 0, 1) := by decide +kernel
theorem dL_law_915 : decode cL_law 915 = .ok (.laload, 1) := by decide +kernel
theorem dL_law_916 : decode cL_law 916 = .ok (.iload 7, 2) := by decide +kernel
theorem dL_law_918 : decode cL_law 918 = .ok (.i2l, 1) := by decide +kernel
theorem dL_law_919 : decode cL_law 919 = .ok (.lcmp, 1) := by decide +kernel
theorem dL_law_920 : decode cL_law 920 = .ok (.ifCond .eq 5, 3) := by decide +kernel
theorem dL_law_923 : decode cL_law 923 = .ok (.iconst 0, 1) := by decide +kernel
theorem dL_law_924 : decode cL_law 924 = .ok (.ireturn, 1) := by decide +kernel
theorem dL_law_925 : decode cL_law 925 = .ok (.goto 1072, 3) := by decide +kernel
theorem dL_law_928 : decode cL_law 928 = .ok (.aload_n 1, 1) := by decide +kernel
theorem dL_law_929 : decode cL_law 929 = .ok (.aload_n 0, 1) := by decide +kernel
theorem dL_law_930 : decode cL_law 930 = .ok (.iload 5, 2) := by decide +kernel
theorem dL_law_932 : decode cL_law 932 = .ok (.iconst 1, 1) := by decide +kernel
theorem dL_law_933 : decode cL_law 933 = .ok (.iadd, 1) := by decide +kernel
theorem dL_law_934 : decode cL_law 934 = .ok (.iaload, 1) := by decide +kernel
theorem dL_law_935 : decode cL_law 935 = .ok (.aload_n 0, 1) := by decide +kernel
theorem dL_law_936 : decode cL_law 936 = .ok (.iload 5, 2) := by decide +kernel
theorem dL_law_938 : decode cL_law 938 = .ok (.iconst 2, 1) := by decide +kernel
theorem dL_law_939 : decode cL_law 939 = .ok (.iadd, 1) := by decide +kernel
theorem dL_law_940 : decode cL_law 940 = .ok (.iaload, 1) := by decide +kernel
theorem dL_law_941 : decode cL_law 941 = .ok (.aload_n 3, 1) := by decide +kernel
theorem dL_law_942 : decode cL_law 942 = .ok (.invokestatic 148, 3) := by decide +kernel
theorem dL_law_945 : decode cL_law 945 = .ok (.istore 6, 2) := by decide +kernel
theorem dL_law_947 : decode cL_law 947 = .ok (.aload_n 2, 1) := by decide +kernel
theorem dL_law_948 : decode cL_law 948 = .ok (.aload_n 0, 1) := by decide +kernel
theorem dL_law_949 : decode cL_law 949 = .ok (.iload 5, 2) := by decide +kernel
theorem dL_law_951 : decode cL_law 951 = .ok (.iconst 1, 1) := by decide +kernel
theorem dL_law_952 : decode cL_law 952 = .ok (.iadd, 1) := by decide +kernel
theorem dL_law_953 : decode cL_law 953 = .ok (.iaload, 1) := by decide +kernel
theorem dL_law_954 : decode cL_law 954 = .ok (.aload_n 0, 1) := by decide +kernel
theorem dL_law_955 : decode cL_law 955 = .ok (.iload 5, 2) := by decide +kernel
theorem dL_law_957 : decode cL_law 957 = .ok (.iconst 2, 1) := by decide +kernel
theorem dL_law_958 : decode cL_law 958 = .ok (.iadd, 1) := by decide +kernel
theorem dL_law_959 : decode cL_law 959 = .ok (.iaload, 1) := by decide +kernel
theorem dL_law_960 : decode cL_law 960 = .ok (.invokevirtual 150, 3) := by decide +kernel
theorem dL_law_963 : decode cL_law 963 = .ok (.istore 7, 2) := by decide +kernel
theorem dL_law_965 : decode cL_law 965 = .ok (.aload_n 2, 1) := by decide +kernel
theorem dL_law_966 : decode cL_law 966 = .ok (.invokevirtual 111, 3) := by decide +kernel
theorem dL_law_969 : decode cL_law 969 = .ok (.iload 6, 2) := by decide +kernel
theorem dL_law_971 : decode cL_law 971 = .ok (.if_icmp .eq 5, 3) := by decide +kernel
theorem dL_law_974 : decode cL_law 974 = .ok (.iconst 0, 1) := by decide +kernel
theorem dL_law_975 : decode cL_law 975 = .ok (.ireturn, 1) := by decide +kernel
theorem dL_law_976 : decode cL_law 976 = .ok (.iload 6, 2) := by decide +kernel
theorem dL_law_978 : decode cL_law 978 = .ok (.ifCond .ne 15, 3) := by decide +kernel
theorem dL_law_981 : decode cL_law 981 = .ok (.aload_n 3, 1) := by decide +kernel
theorem dL_law_982 : decode cL_law 982 = .ok (.iconst 0, 1) := by decide +kernel
theorem dL_law_983 : decode cL_law 983 = .ok (.laload, 1) := by decide +kernel
theorem dL_law_984 : decode cL_law 984 = .ok (.iload 7, 2) := by decide +kernel
theorem dL_law_986 : decode cL_law 986 = .ok (.i2l, 1) := by decide +kernel
theorem dL_law_987 : decode cL_law 987 = .ok (.lcmp, 1) := by decide +kernel
theorem dL_law_988 : decode cL_law 988 = .ok (.ifCond .eq 5, 3) := by decide +kernel
theorem dL_law_991 : decode cL_law 991 = .ok (.iconst 0, 1) := by decide +kernel
theorem dL_law_992 : decode cL_law 992 = .ok (.ireturn, 1) := by decide +kernel
theorem dL_law_993 : decode cL_law 993 = .ok (.goto 1004, 3) := by decide +kernel
theorem dL_law_996 : decode cL_law 996 = .ok (.aload_n 1, 1) := by decide +kernel
theorem dL_law_997 : decode cL_law 997 = .ok (.aload_n 0, 1) := by decide +kernel
theorem dL_law_998 : decode cL_law 998 = .ok (.iload 5, 2) := by decide +kernel
theorem dL_law_1000 : decode cL_law 1000 = .ok (.iconst 1, 1) := by decide +kernel
theorem dL_law_1001 : decode cL_law 1001 = .ok (.iadd, 1) := by decide +kernel
theorem dL_law_1002 : decode cL_law 1002 = .ok (.iaload, 1) := by decide +kernel
theorem dL_law_1003 : decode cL_law 1003 = .ok (.aload_n 3, 1) := by decide +kernel
theorem dL_law_1004 : decode cL_law 1004 = .ok (.invokestatic 151, 3) := by decide +kernel
theorem dL_law_1007 : decode cL_law 1007 = .ok (.istore 6, 2) := by decide +kernel
theorem dL_law_1009 : decode cL_law 1009 = .ok (.aload_n 2, 1) := by decide +kernel
theorem dL_law_1010 : decode cL_law 1010 = .ok (.aload_n 0, 1) := by decide +kernel
theorem dL_law_1011 : decode cL_law 1011 = .ok (.iload 5, 2) := by decide +kernel
theorem dL_law_1013 : decode cL_law 1013 = .ok (.iconst 1, 1) := by decide +kernel
theorem dL_law_1014 : decode cL_law 1014 = .ok (.iadd, 1) := by decide +kernel
theorem dL_law_1015 : decode cL_law 1015 = .ok (.iaload, 1) := by decide +kernel
theorem dL_law_1016 : decode cL_law 1016 = .ok (.invokevirtual 153, 3) := by decide +kernel
theorem dL_law_1019 : decode cL_law 1019 = .ok (.istore 7, 2) := by decide +kernel
theorem dL_law_1021 : decode cL_law 1021 = .ok (.aload_n 2, 1) := by decide +kernel
theorem dL_law_1022 : decode cL_law 1022 = .ok (.invokevirtual 111, 3) := by decide +kernel
theorem dL_law_1025 : decode cL_law 1025 = .ok (.iload 6, 2) := by decide +kernel
theorem dL_law_1027 : decode cL_law 1027 = .ok (.if_icmp .eq 5, 3) := by decide +kernel
theorem dL_law_1030 : decode cL_law 1030 = .ok (.iconst 0, 1) := by decide +kernel
theorem dL_law_1031 : decode cL_law 1031 = .ok (.ireturn, 1) := by decide +kernel
theorem dL_law_1032 : decode cL_law 1032 = .ok (.iload 6, 2) := by decide +kernel
theorem dL_law_1034 : decode cL_law 1034 = .ok (.ifCond .ne 15, 3) := by decide +kernel
theorem dL_law_1037 : decode cL_law 1037 = .ok (.aload_n 3, 1) := by decide +kernel
theorem dL_law_1038 : decode cL_law 1038 = .ok (.iconst 0, 1) := by decide +kernel
theorem dL_law_1039 : decode cL_law 1039 = .ok (.laload, 1) := by decide +kernel
theorem dL_law_1040 : decode cL_law 1040 = .ok (.iload 7, 2) := by decide +kernel
theorem dL_law_1042 : decode cL_law 1042 = .ok (.i2l, 1) := by decide +kernel
theorem dL_law_1043 : decode cL_law 1043 = .ok (.lcmp, 1) := by decide +kernel
theorem dL_law_1044 : decode cL_law 1044 = .ok (.ifCond .eq 5, 3) := by decide +kernel
theorem dL_law_1047 : decode cL_law 1047 = .ok (.iconst 0, 1) := by decide +kernel
theorem dL_law_1048 : decode cL_law 1048 = .ok (.ireturn, 1) := by decide +kernel
theorem dL_law_1049 : decode cL_law 1049 = .ok (.goto 948, 3) := by decide +kernel
theorem dL_law_1052 : decode cL_law 1052 = .ok (.aload_n 1, 1) := by decide +kernel
theorem dL_law_1053 : decode cL_law 1053 = .ok (.invokevirtual 154, 3) := by decide +kernel
theorem dL_law_1056 : decode cL_law 1056 = .ok (.aload_n 2, 1) := by decide +kernel
theorem dL_law_1057 : decode cL_law 1057 = .ok (.invokevirtual 157, 3) := by decide +kernel
theorem dL_law_1060 : decode cL_law 1060 = .ok (.if_icmp .eq 937, 3) := by decide +kernel
theorem dL_law_1063 : decode cL_law 1063 = .ok (.iconst 0, 1) := by decide +kernel
theorem dL_law_1064 : decode cL_law 1064 = .ok (.ireturn, 1) := by decide +kernel
theorem dL_law_1065 : decode cL_law 1065 = .ok (.aload_n 1, 1) := by decide +kernel
theorem dL_law_1066 : decode cL_law 1066 = .ok (.invokevirtual 158, 3) := by decide +kernel
theorem dL_law_1069 : decode cL_law 1069 = .ok (.aload_n 2, 1) := by decide +kernel
theorem dL_law_1070 : decode cL_law 1070 = .ok (.invokevirtual 161, 3) := by decide +kernel
theorem dL_law_1073 : decode cL_law 1073 = .ok (.if_icmp .eq 924, 3) := by decide +kernel
theorem dL_law_1076 : decode cL_law 1076 = .ok (.iconst 0, 1) := by decide +kernel
theorem dL_law_1077 : decode cL_law 1077 = .ok (.ireturn, 1) := by decide +kernel
theorem dL_law_1078 : decode cL_law 1078 = .ok (.aload_n 1, 1) := by decide +kernel
theorem dL_law_1079 : decode cL_law 1079 = .ok (.aload_n 3, 1) := by decide +kernel
theorem dL_law_1080 : decode cL_law 1080 = .ok (.invokestatic 162, 3) := by decide +kernel
theorem dL_law_1083 : decode cL_law 1083 = .ok (.istore 6, 2) := by decide +kernel
theorem dL_law_1085 : decode cL_law 1085 = .ok (.aload_n 2, 1) := by decide +kernel
theorem dL_law_1086 : decode cL_law 1086 = .ok (.invokevirtual 165, 3) := by decide +kernel
theorem dL_law_1089 : decode cL_law 1089 = .ok (.istore 7, 2) := by decide +kernel
theorem dL_law_1091 : decode cL_law 1091 = .ok (.aload_n 2, 1) := by decide +kernel
theorem dL_law_1092 : decode cL_law 1092 = .ok (.invokevirtual 111, 3) := by decide +kernel
theorem dL_law_1095 : decode cL_law 1095 = .ok (.iload 6, 2) := by decide +kernel
theorem dL_law_1097 : decode cL_law 1097 = .ok (.if_icmp .eq 5, 3) := by decide +kernel
theorem dL_law_1100 : decode cL_law 1100 = .ok (.iconst 0, 1) := by decide +kernel
theorem dL_law_1101 : decode cL_law 1101 = .ok (.ireturn, 1) := by decide +kernel
theorem dL_law_1102 : decode cL_law 1102 = .ok (.iload 6, 2) := by decide +kernel
theorem dL_law_1104 : decode cL_law 1104 = .ok (.ifCond .ne 15, 3) := by decide +kernel
theorem dL_law_1107 : decode cL_law 1107 = .ok (.aload_n 3, 1) := by decide +kernel
theorem dL_law_1108 : decode cL_law 1108 = .ok (.iconst 0, 1) := by decide +kernel
theorem dL_law_1109 : decode cL_law 1109 = .ok (.laload, 1) := by decide +kernel
theorem dL_law_1110 : decode cL_law 1110 = .ok (.iload 7, 2) := by decide +kernel
theorem dL_law_1112 : decode cL_law 1112 = .ok (.i2l, 1) := by decide +kernel
theorem dL_law_1113 : decode cL_law 1113 = .ok (.lcmp, 1) := by decide +kernel
theorem dL_law_1114 : decode cL_law 1114 = .ok (.ifCond .eq 5, 3) := by decide +kernel
theorem dL_law_1117 : decode cL_law 1117 = .ok (.iconst 0, 1) := by decide +kernel
theorem dL_law_1118 : decode cL_law 1118 = .ok (.ireturn, 1) := by decide +kernel
theorem dL_law_1119 : decode cL_law 1119 = .ok (.goto 878, 3) := by decide +kernel
theorem dL_law_1122 : decode cL_law 1122 = .ok (.aload_n 1, 1) := by decide +kernel
theorem dL_law_1123 : decode cL_law 1123 = .ok (.aload_n 3, 1) := by decide +kernel
theorem dL_law_1124 : decode cL_law 1124 = .ok (.invokestatic 166, 3) := by decide +kernel
theorem dL_law_1127 : decode cL_law 1127 = .ok (.istore 6, 2) := by decide +kernel
theorem dL_law_1129 : decode cL_law 1129 = .ok (.aload_n 2, 1) := by decide +kernel
theorem dL_law_1130 : decode cL_law 1130 = .ok (.invokevirtual 168, 3) := by decide +kernel
theorem dL_law_1133 : decode cL_law 1133 = .ok (.istore 7, 2) := by decide +kernel
theorem dL_law_1135 : decode cL_law 1135 = .ok (.aload_n 2, 1) := by decide +kernel
theorem dL_law_1136 : decode cL_law 1136 = .ok (.invokevirtual 111, 3) := by decide +kernel
theorem dL_law_1139 : decode cL_law 1139 = .ok (.iload 6, 2) := by decide +kernel
theorem dL_law_1141 : decode cL_law 1141 = .ok (.if_icmp .eq 5, 3) := by decide +kernel
theorem dL_law_1144 : decode cL_law 1144 = .ok (.iconst 0, 1) := by decide +kernel
theorem dL_law_1145 : decode cL_law 1145 = .ok (.ireturn, 1) := by decide +kernel
theorem dL_law_1146 : decode cL_law 1146 = .ok (.iload 6, 2) := by decide +kernel
theorem dL_law_1148 : decode cL_law 1148 = .ok (.ifCond .ne 15, 3) := by decide +kernel
theorem dL_law_1151 : decode cL_law 1151 = .ok (.aload_n 3, 1) := by decide +kernel
theorem dL_law_1152 : decode cL_law 1152 = .ok (.iconst 0, 1) := by decide +kernel
theorem dL_law_1153 : decode cL_law 1153 = .ok (.laload, 1) := by decide +kernel
theorem dL_law_1154 : decode cL_law 1154 = .ok (.iload 7, 2) := by decide +kernel
theorem dL_law_1156 : decode cL_law 1156 = .ok (.i2l, 1) := by decide +kernel
theorem dL_law_1157 : decode cL_law 1157 = .ok (.lcmp, 1) := by decide +kernel
theorem dL_law_1158 : decode cL_law 1158 = .ok (.ifCond .eq 5, 3) := by decide +kernel
theorem dL_law_1161 : decode cL_law 1161 = .ok (.iconst 0, 1) := by decide +kernel
theorem dL_law_1162 : decode cL_law 1162 = .ok (.ireturn, 1) := by decide +kernel
theorem dL_law_1163 : decode cL_law 1163 = .ok (.goto 834, 3) := by decide +kernel
theorem dL_law_1166 : decode cL_law 1166 = .ok (.aload_n 1, 1) := by decide +kernel
theorem dL_law_1167 : decode cL_law 1167 = .ok (.aload_n 0, 1) := by decide +kernel
theorem dL_law_1168 : decode cL_law 1168 = .ok (.iload 5, 2) := by decide +kernel
theorem dL_law_1170 : decode cL_law 1170 = .ok (.iconst 1, 1) := by decide +kernel
theorem dL_law_1171 : decode cL_law 1171 = .ok (.iadd, 1) := by decide +kernel
theorem dL_law_1172 : decode cL_law 1172 = .ok (.iaload, 1) := by decide +kernel
theorem dL_law_1173 : decode cL_law 1173 = .ok (.aload_n 0, 1) := by decide +kernel
theorem dL_law_1174 : decode cL_law 1174 = .ok (.iload 5, 2) := by decide +kernel
theorem dL_law_1176 : decode cL_law 1176 = .ok (.iconst 2, 1) := by decide +kernel
theorem dL_law_1177 : decode cL_law 1177 = .ok (.iadd, 1) := by decide +kernel
theorem dL_law_1178 : decode cL_law 1178 = .ok (.iaload, 1) := by decide +kernel
theorem dL_law_1179 : decode cL_law 1179 = .ok (.aload_n 0, 1) := by decide +kernel
theorem dL_law_1180 : decode cL_law 1180 = .ok (.iload 5, 2) := by decide +kernel
theorem dL_law_1182 : decode cL_law 1182 = .ok (.iconst 3, 1) := by decide +kernel
theorem dL_law_1183 : decode cL_law 1183 = .ok (.iadd, 1) := by decide +kernel
theorem dL_law_1184 : decode cL_law 1184 = .ok (.iaload, 1) := by decide +kernel
theorem dL_law_1185 : decode cL_law 1185 = .ok (.aload_n 3, 1) := by decide +kernel
theorem dL_law_1186 : decode cL_law 1186 = .ok (.invokestatic 169, 3) := by decide +kernel
theorem dL_law_1189 : decode cL_law 1189 = .ok (.istore 6, 2) := by decide +kernel
theorem dL_law_1191 : decode cL_law 1191 = .ok (.aload_n 2, 1) := by decide +kernel
theorem dL_law_1192 : decode cL_law 1192 = .ok (.aload_n 0, 1) := by decide +kernel
theorem dL_law_1193 : decode cL_law 1193 = .ok (.iload 5, 2) := by decide +kernel
theorem dL_law_1195 : decode cL_law 1195 = .ok (.iconst 1, 1) := by decide +kernel
theorem dL_law_1196 : decode cL_law 1196 = .ok (.iadd, 1) := by decide +kernel
theorem dL_law_1197 : decode cL_law 1197 = .ok (.iaload, 1) := by decide +kernel
theorem dL_law_1198 : decode cL_law 1198 = .ok (.aload_n 0, 1) := by decide +kernel
theorem dL_law_1199 : decode cL_law 1199 = .ok (.iload 5, 2) := by decide +kernel
theorem dL_law_1201 : decode cL_law 1201 = .ok (.iconst 2, 1) := by decide +kernel
theorem dL_law_1202 : decode cL_law 1202 = .ok (.iadd, 1) := by decide +kernel
theorem dL_law_1203 : decode cL_law 1203 = .ok (.iaload, 1) := by decide +kernel
theorem dL_law_1204 : decode cL_law 1204 = .ok (.aload_n 0, 1) := by decide +kernel
theorem dL_law_1205 : decode cL_law 1205 = .ok (.iload 5, 2) := by decide +kernel
theorem dL_law_1207 : decode cL_law 1207 = .ok (.iconst 3, 1) := by decide +kernel
theorem dL_law_1208 : decode cL_law 1208 = .ok (.iadd, 1) := by decide +kernel
theorem dL_law_1209 : decode cL_law 1209 = .ok (.iaload, 1) := by decide +kernel
theorem dL_law_1210 : decode cL_law 1210 = .ok (.invokevirtual 171, 3) := by decide +kernel
theorem dL_law_1213 : decode cL_law 1213 = .ok (.istore 7, 2) := by decide +kernel
theorem dL_law_1215 : decode cL_law 1215 = .ok (.aload_n 2, 1) := by decide +kernel
theorem dL_law_1216 : decode cL_law 1216 = .ok (.invokevirtual 111, 3) := by decide +kernel
theorem dL_law_1219 : decode cL_law 1219 = .ok (.iload 6, 2) := by decide +kernel
theorem dL_law_1221 : decode cL_law 1221 = .ok (.if_icmp .eq 5, 3) := by decide +kernel
theorem dL_law_1224 : decode cL_law 1224 = .ok (.iconst 0, 1) := by decide +kernel
theorem dL_law_1225 : decode cL_law 1225 = .ok (.ireturn, 1) := by decide +kernel
theorem dL_law_1226 : decode cL_law 1226 = .ok (.iload 6, 2) := by decide +kernel
theorem dL_law_1228 : decode cL_law 1228 = .ok (.ifCond .ne 15, 3) := by decide +kernel
theorem dL_law_1231 : decode cL_law 1231 = .ok (.aload_n 3, 1) := by decide +kernel
theorem dL_law_1232 : decode cL_law 1232 = .ok (.iconst 0, 1) := by decide +kernel
theorem dL_law_1233 : decode cL_law 1233 = .ok (.laload, 1) := by decide +kernel
theorem dL_law_1234 : decode cL_law 1234 = .ok (.iload 7, 2) := by decide +kernel
theorem dL_law_1236 : decode cL_law 1236 = .ok (.i2l, 1) := by decide +kernel
theorem dL_law_1237 : decode cL_law 1237 = .ok (.lcmp, 1) := by decide +kernel
theorem dL_law_1238 : decode cL_law 1238 = .ok (.ifCond .eq 5, 3) := by decide +kernel
theorem dL_law_1241 : decode cL_law 1241 = .ok (.iconst 0, 1) := by decide +kernel
theorem dL_law_1242 : decode cL_law 1242 = .ok (.ireturn, 1) := by decide +kernel
theorem dL_law_1243 : decode cL_law 1243 = .ok (.goto 754, 3) := by decide +kernel
theorem dL_law_1246 : decode cL_law 1246 = .ok (.aload_n 1, 1) := by decide +kernel
theorem dL_law_1247 : decode cL_law 1247 = .ok (.aload_n 0, 1) := by decide +kernel
theorem dL_law_1248 : decode cL_law 1248 = .ok (.iload 5, 2) := by decide +kernel
theorem dL_law_1250 : decode cL_law 1250 = .ok (.iconst 1, 1) := by decide +kernel
theorem dL_law_1251 : decode cL_law 1251 = .ok (.iadd, 1) := by decide +kernel
theorem dL_law_1252 : decode cL_law 1252 = .ok (.iaload, 1) := by decide +kernel
theorem dL_law_1253 : decode cL_law 1253 = .ok (.aload_n 0, 1) := by decide +kernel
theorem dL_law_1254 : decode cL_law 1254 = .ok (.iload 5, 2) := by decide +kernel
theorem dL_law_1256 : decode cL_law 1256 = .ok (.iconst 2, 1) := by decide +kernel
theorem dL_law_1257 : decode cL_law 1257 = .ok (.iadd, 1) := by decide +kernel
theorem dL_law_1258 : decode cL_law 1258 = .ok (.iaload, 1) := by decide +kernel
theorem dL_law_1259 : decode cL_law 1259 = .ok (.aload_n 3, 1) := by decide +kernel
theorem dL_law_1260 : decode cL_law 1260 = .ok (.invokestatic 172, 3) := by decide +kernel
theorem dL_law_1263 : decode cL_law 1263 = .ok (.istore 6, 2) := by decide +kernel
theorem dL_law_1265 : decode cL_law 1265 = .ok (.aload_n 2, 1) := by decide +kernel
theorem dL_law_1266 : decode cL_law 1266 = .ok (.aload_n 0, 1) := by decide +kernel
theorem dL_law_1267 : decode cL_law 1267 = .ok (.iload 5, 2) := by decide +kernel
theorem dL_law_1269 : decode cL_law 1269 = .ok (.iconst 1, 1) := by decide +kernel
theorem dL_law_1270 : decode cL_law 1270 = .ok (.iadd, 1) := by decide +kernel
theorem dL_law_1271 : decode cL_law 1271 = .ok (.iaload, 1) := by decide +kernel
theorem dL_law_1272 : decode cL_law 1272 = .ok (.aload_n 0, 1) := by decide +kernel
theorem dL_law_1273 : decode cL_law 1273 = .ok (.iload 5, 2) := by decide +kernel
theorem dL_law_1275 : decode cL_law 1275 = .ok (.iconst 2, 1) := by decide +kernel
theorem dL_law_1276 : decode cL_law 1276 = .ok (.iadd, 1) := by decide +kernel
theorem dL_law_1277 : decode cL_law 1277 = .ok (.iaload, 1) := by decide +kernel
theorem dL_law_1278 : decode cL_law 1278 = .ok (.invokevirtual 174, 3) := by decide +kernel
theorem dL_law_1281 : decode cL_law 1281 = .ok (.istore 7, 2) := by decide +kernel
theorem dL_law_1283 : decode cL_law 1283 = .ok (.aload_n 2, 1) := by decide +kernel
theorem dL_law_1284 : decode cL_law 1284 = .ok (.invokevirtual 111, 3) := by decide +kernel
theorem dL_law_1287 : decode cL_law 1287 = .ok (.iload 6, 2) := by decide +kernel
theorem dL_law_1289 : decode cL_law 1289 = .ok (.if_icmp .eq 5, 3) := by decide +kernel
theorem dL_law_1292 : decode cL_law 1292 = .ok (.iconst 0, 1) := by decide +kernel
theorem dL_law_1293 : decode cL_law 1293 = .ok (.ireturn, 1) := by decide +kernel
theorem dL_law_1294 : decode cL_law 1294 = .ok (.iload 6, 2) := by decide +kernel
theorem dL_law_1296 : decode cL_law 1296 = .ok (.ifCond .ne 15, 3) := by decide +kernel
theorem dL_law_1299 : decode cL_law 1299 = .ok (.aload_n 3, 1) := by decide +kernel
theorem dL_law_1300 : decode cL_law 1300 = .ok (.iconst 0, 1) := by decide +kernel
theorem dL_law_1301 : decode cL_law 1301 = .ok (.laload, 1) := by decide +kernel
theorem dL_law_1302 : decode cL_law 1302 = .ok (.iload 7, 2) := by decide +kernel
theorem dL_law_1304 : decode cL_law 1304 = .ok (.i2l, 1) := by decide +kernel
theorem dL_law_1305 : decode cL_law 1305 = .ok (.lcmp, 1) := by decide +kernel
theorem dL_law_1306 : decode cL_law 1306 = .ok (.ifCond .eq 5, 3) := by decide +kernel
theorem dL_law_1309 : decode cL_law 1309 = .ok (.iconst 0, 1) := by decide +kernel
theorem dL_law_1310 : decode cL_law 1310 = .ok (.ireturn, 1) := by decide +kernel
theorem dL_law_1311 : decode cL_law 1311 = .ok (.goto 686, 3) := by decide +kernel
theorem dL_law_1314 : decode cL_law 1314 = .ok (.aload_n 1, 1) := by decide +kernel
theorem dL_law_1315 : decode cL_law 1315 = .ok (.aload_n 0, 1) := by decide +kernel
theorem dL_law_1316 : decode cL_law 1316 = .ok (.iload 5, 2) := by decide +kernel
theorem dL_law_1318 : decode cL_law 1318 = .ok (.iconst 1, 1) := by decide +kernel
theorem dL_law_1319 : decode cL_law 1319 = .ok (.iadd, 1) := by decide +kernel
theorem dL_law_1320 : decode cL_law 1320 = .ok (.iaload, 1) := by decide +kernel
theorem dL_law_1321 : decode cL_law 1321 = .ok (.aload_n 0, 1) := by decide +kernel
theorem dL_law_1322 : decode cL_law 1322 = .ok (.iload 5, 2) := by decide +kernel
theorem dL_law_1324 : decode cL_law 1324 = .ok (.iconst 2, 1) := by decide +kernel
theorem dL_law_1325 : decode cL_law 1325 = .ok (.iadd, 1) := by decide +kernel
theorem dL_law_1326 : decode cL_law 1326 = .ok (.iaload, 1) := by decide +kernel
theorem dL_law_1327 : decode cL_law 1327 = .ok (.aload_n 3, 1) := by decide +kernel
theorem dL_law_1328 : decode cL_law 1328 = .ok (.invokestatic 175, 3) := by decide +kernel
theorem dL_law_1331 : decode cL_law 1331 = .ok (.istore 6, 2) := by decide +kernel
theorem dL_law_1333 : decode cL_law 1333 = .ok (.aload_n 2, 1) := by decide +kernel
theorem dL_law_1334 : decode cL_law 1334 = .ok (.aload_n 0, 1) := by decide +kernel
theorem dL_law_1335 : decode cL_law 1335 = .ok (.iload 5, 2) := by decide +kernel
theorem dL_law_1337 : decode cL_law 1337 = .ok (.iconst 1, 1) := by decide +kernel
theorem dL_law_1338 : decode cL_law 1338 = .ok (.iadd, 1) := by decide +kernel
theorem dL_law_1339 : decode cL_law 1339 = .ok (.iaload, 1) := by decide +kernel
theorem dL_law_1340 : decode cL_law 1340 = .ok (.aload_n 0, 1) := by decide +kernel
theorem dL_law_1341 : decode cL_law 1341 = .ok (.iload 5, 2) := by decide +kernel
theorem dL_law_1343 : decode cL_law 1343 = .ok (.iconst 2, 1) := by decide +kernel
theorem dL_law_1344 : decode cL_law 1344 = .ok (.iadd, 1) := by decide +kernel
theorem dL_law_1345 : decode cL_law 1345 = .ok (.iaload, 1) := by decide +kernel
theorem dL_law_1346 : decode cL_law 1346 = .ok (.invokevirtual 177, 3) := by decide +kernel
theorem dL_law_1349 : decode cL_law 1349 = .ok (.istore 7, 2) := by decide +kernel
theorem dL_law_1351 : decode cL_law 1351 = .ok (.aload_n 2, 1) := by decide +kernel
theorem dL_law_1352 : decode cL_law 1352 = .ok (.invokevirtual 111, 3) := by decide +kernel
theorem dL_law_1355 : decode cL_law 1355 = .ok (.iload 6, 2) := by decide +kernel
theorem dL_law_1357 : decode cL_law 1357 = .ok (.if_icmp .eq 5, 3) := by decide +kernel
theorem dL_law_1360 : decode cL_law 1360 = .ok (.iconst 0, 1) := by decide +kernel
theorem dL_law_1361 : decode cL_law 1361 = .ok (.ireturn, 1) := by decide +kernel
theorem dL_law_1362 : decode cL_law 1362 = .ok (.iload 6, 2) := by decide +kernel
theorem dL_law_1364 : decode cL_law 1364 = .ok (.ifCond .ne 15, 3) := by decide +kernel
theorem dL_law_1367 : decode cL_law 1367 = .ok (.aload_n 3, 1) := by decide +kernel
theorem dL_law_1368 : decode cL_law 1368 = .ok (.iconst 0, 1) := by decide +kernel
theorem dL_law_1369 : decode cL_law 1369 = .ok (.laload, 1) := by decide +kernel
theorem dL_law_1370 : decode cL_law 1370 = .ok (.iload 7, 2) := by decide +kernel
theorem dL_law_1372 : decode cL_law 1372 = .ok (.i2l, 1) := by decide +kernel
theorem dL_law_1373 : decode cL_law 1373 = .ok (.lcmp, 1) := by decide +kernel
theorem dL_law_1374 : decode cL_law 1374 = .ok (.ifCond .eq 5, 3) := by decide +kernel
theorem dL_law_1377 : decode cL_law 1377 = .ok (.iconst 0, 1) := by decide +kernel
theorem dL_law_1378 : decode cL_law 1378 = .ok (.ireturn, 1) := by decide +kernel
theorem dL_law_1379 : decode cL_law 1379 = .ok (.goto 618, 3) := by decide +kernel
theorem dL_law_1382 : decode cL_law 1382 = .ok (.aload_n 1, 1) := by decide +kernel
theorem dL_law_1383 : decode cL_law 1383 = .ok (.aload_n 0, 1) := by decide +kernel
end
section
theorem dL_law_1384 : decode cL_law 1384 = .ok (.iload 5, 2) := by decide +kernel
theorem dL_law_1386 : decode cL_law 1386 = .ok (.iconst 1, 1) := by decide +kernel
theorem dL_law_1387 : decode cL_law 1387 = .ok (.iadd, 1) := by decide +kernel
theorem dL_law_1388 : decode cL_law 1388 = .ok (.iaload, 1) := by decide +kernel
theorem dL_law_1389 : decode cL_law 1389 = .ok (.aload_n 3, 1) := by decide +kernel
theorem dL_law_1390 : decode cL_law 1390 = .ok (.invokestatic 178, 3) := by decide +kernel
theorem dL_law_1393 : decode cL_law 1393 = .ok (.istore 6, 2) := by decide +kernel
theorem dL_law_1395 : decode cL_law 1395 = .ok (.aload_n 2, 1) := by decide +kernel
theorem dL_law_1396 : decode cL_law 1396 = .ok (.aload_n 0, 1) := by decide +kernel
theorem dL_law_1397 : decode cL_law 1397 = .ok (.iload 5, 2) := by decide +kernel
theorem dL_law_1399 : decode cL_law 1399 = .ok (.iconst 1, 1) := by decide +kernel
theorem dL_law_1400 : decode cL_law 1400 = .ok (.iadd, 1) := by decide +kernel
theorem dL_law_1401 : decode cL_law 1401 = .ok (.iaload, 1) := by decide +kernel
theorem dL_law_1402 : decode cL_law 1402 = .ok (.invokevirtual 180, 3) := by decide +kernel
theorem dL_law_1405 : decode cL_law 1405 = .ok (.istore 7, 2) := by decide +kernel
theorem dL_law_1407 : decode cL_law 1407 = .ok (.aload_n 2, 1) := by decide +kernel
theorem dL_law_1408 : decode cL_law 1408 = .ok (.invokevirtual 111, 3) := by decide +kernel
theorem dL_law_1411 : decode cL_law 1411 = .ok (.iload 6, 2) := by decide +kernel
theorem dL_law_1413 : decode cL_law 1413 = .ok (.if_icmp .eq 5, 3) := by decide +kernel
theorem dL_law_1416 : decode cL_law 1416 = .ok (.iconst 0, 1) := by decide +kernel
theorem dL_law_1417 : decode cL_law 1417 = .ok (.ireturn, 1) := by decide +kernel
theorem dL_law_1418 : decode cL_law 1418 = .ok (.iload 6, 2) := by decide +kernel
theorem dL_law_1420 : decode cL_law 1420 = .ok (.ifCond .ne 15, 3) := by decide +kernel
theorem dL_law_1423 : decode cL_law 1423 = .ok (.aload_n 3, 1) := by decide +kernel
theorem dL_law_1424 : decode cL_law 1424 = .ok (.iconst 0, 1) := by decide +kernel
theorem dL_law_1425 : decode cL_law 1425 = .ok (.laload, 1) := by decide +kernel
theorem dL_law_1426 : decode cL_law 1426 = .ok (.iload 7, 2) := by decide +kernel
theorem dL_law_1428 : decode cL_law 1428 = .ok (.i2l, 1) := by decide +kernel
theorem dL_law_1429 : decode cL_law 1429 = .ok (.lcmp, 1) := by decide +kernel
theorem dL_law_1430 : decode cL_law 1430 = .ok (.ifCond .eq 5, 3) := by decide +kernel
theorem dL_law_1433 : decode cL_law 1433 = .ok (.iconst 0, 1) := by decide +kernel
theorem dL_law_1434 : decode cL_law 1434 = .ok (.ireturn, 1) := by decide +kernel
theorem dL_law_1435 : decode cL_law 1435 = .ok (.goto 562, 3) := by decide +kernel
theorem dL_law_1438 : decode cL_law 1438 = .ok (.aload_n 1, 1) := by decide +kernel
theorem dL_law_1439 : decode cL_law 1439 = .ok (.aload_n 0, 1) := by decide +kernel
theorem dL_law_1440 : decode cL_law 1440 = .ok (.iload 5, 2) := by decide +kernel
theorem dL_law_1442 : decode cL_law 1442 = .ok (.iconst 1, 1) := by decide +kernel
theorem dL_law_1443 : decode cL_law 1443 = .ok (.iadd, 1) := by decide +kernel
theorem dL_law_1444 : decode cL_law 1444 = .ok (.iaload, 1) := by decide +kernel
theorem dL_law_1445 : decode cL_law 1445 = .ok (.aload_n 3, 1) := by decide +kernel
theorem dL_law_1446 : decode cL_law 1446 = .ok (.invokestatic 181, 3) := by decide +kernel
theorem dL_law_1449 : decode cL_law 1449 = .ok (.istore 6, 2) := by decide +kernel
theorem dL_law_1451 : decode cL_law 1451 = .ok (.aload_n 2, 1) := by decide +kernel
theorem dL_law_1452 : decode cL_law 1452 = .ok (.aload_n 0, 1) := by decide +kernel
theorem dL_law_1453 : decode cL_law 1453 = .ok (.iload 5, 2) := by decide +kernel
theorem dL_law_1455 : decode cL_law 1455 = .ok (.iconst 1, 1) := by decide +kernel
theorem dL_law_1456 : decode cL_law 1456 = .ok (.iadd, 1) := by decide +kernel
theorem dL_law_1457 : decode cL_law 1457 = .ok (.iaload, 1) := by decide +kernel
theorem dL_law_1458 : decode cL_law 1458 = .ok (.invokevirtual 183, 3) := by decide +kernel
theorem dL_law_1461 : decode cL_law 1461 = .ok (.istore 7, 2) := by decide +kernel
theorem dL_law_1463 : decode cL_law 1463 = .ok (.aload_n 2, 1) := by decide +kernel
theorem dL_law_1464 : decode cL_law 1464 = .ok (.invokevirtual 111, 3) := by decide +kernel
theorem dL_law_1467 : decode cL_law 1467 = .ok (.iload 6, 2) := by decide +kernel
theorem dL_law_1469 : decode cL_law 1469 = .ok (.if_icmp .eq 5, 3) := by decide +kernel
theorem dL_law_1472 : decode cL_law 1472 = .ok (.iconst 0, 1) := by decide +kernel
theorem dL_law_1473 : decode cL_law 1473 = .ok (.ireturn, 1) := by decide +kernel
theorem dL_law_1474 : decode cL_law 1474 = .ok (.iload 6, 2) := by decide +kernel
theorem dL_law_1476 : decode cL_law 1476 = .ok (.ifCond .ne 15, 3) := by decide +kernel
theorem dL_law_1479 : decode cL_law 1479 = .ok (.aload_n 3, 1) := by decide +kernel
theorem dL_law_1480 : decode cL_law 1480 = .ok (.iconst 0, 1) := by decide +kernel
theorem dL_law_1481 : decode cL_law 1481 = .ok (.laload, 1) := by decide +kernel
theorem dL_law_1482 : decode cL_law 1482 = .ok (.iload 7, 2) := by decide +kernel
theorem dL_law_1484 : decode cL_law 1484 = .ok (.i2l, 1) := by decide +kernel
theorem dL_law_1485 : decode cL_law 1485 = .ok (.lcmp, 1) := by decide +kernel
theorem dL_law_1486 : decode cL_law 1486 = .ok (.ifCond .eq 5, 3) := by decide +kernel
theorem dL_law_1489 : decode cL_law 1489 = .ok (.iconst 0, 1) := by decide +kernel
theorem dL_law_1490 : decode cL_law 1490 = .ok (.ireturn, 1) := by decide +kernel
theorem dL_law_1491 : decode cL_law 1491 = .ok (.goto 506, 3) := by decide +kernel
theorem dL_law_1494 : decode cL_law 1494 = .ok (.aload_n 1, 1) := by decide +kernel
theorem dL_law_1495 : decode cL_law 1495 = .ok (.aload_n 0, 1) := by decide +kernel
theorem dL_law_1496 : decode cL_law 1496 = .ok (.iload 5, 2) := by decide +kernel
theorem dL_law_1498 : decode cL_law 1498 = .ok (.iconst 1, 1) := by decide +kernel
theorem dL_law_1499 : decode cL_law 1499 = .ok (.iadd, 1) := by decide +kernel
theorem dL_law_1500 : decode cL_law 1500 = .ok (.iaload, 1) := by decide +kernel
theorem dL_law_1501 : decode cL_law 1501 = .ok (.aload_n 0, 1) := by decide +kernel
theorem dL_law_1502 : decode cL_law 1502 = .ok (.iload 5, 2) := by decide +kernel
theorem dL_law_1504 : decode cL_law 1504 = .ok (.iconst 2, 1) := by decide +kernel
theorem dL_law_1505 : decode cL_law 1505 = .ok (.iadd, 1) := by decide +kernel
theorem dL_law_1506 : decode cL_law 1506 = .ok (.iaload, 1) := by decide +kernel
theorem dL_law_1507 : decode cL_law 1507 = .ok (.aload_n 0, 1) := by decide +kernel
theorem dL_law_1508 : decode cL_law 1508 = .ok (.iload 5, 2) := by decide +kernel
theorem dL_law_1510 : decode cL_law 1510 = .ok (.iconst 3, 1) := by decide +kernel
theorem dL_law_1511 : decode cL_law 1511 = .ok (.iadd, 1) := by decide +kernel
theorem dL_law_1512 : decode cL_law 1512 = .ok (.iaload, 1) := by decide +kernel
theorem dL_law_1513 : decode cL_law 1513 = .ok (.aload_n 0, 1) := by decide +kernel
theorem dL_law_1514 : decode cL_law 1514 = .ok (.iload 5, 2) := by decide +kernel
theorem dL_law_1516 : decode cL_law 1516 = .ok (.iconst 4, 1) := by decide +kernel
theorem dL_law_1517 : decode cL_law 1517 = .ok (.iadd, 1) := by decide +kernel
theorem dL_law_1518 : decode cL_law 1518 = .ok (.iaload, 1) := by decide +kernel
theorem dL_law_1519 : decode cL_law 1519 = .ok (.aload_n 3, 1) := by decide +kernel
theorem dL_law_1520 : decode cL_law 1520 = .ok (.invokestatic 184, 3) := by decide +kernel
theorem dL_law_1523 : decode cL_law 1523 = .ok (.istore 6, 2) := by decide +kernel
theorem dL_law_1525 : decode cL_law 1525 = .ok (.aload_n 2, 1) := by decide +kernel
theorem dL_law_1526 : decode cL_law 1526 = .ok (.aload_n 0, 1) := by decide +kernel
theorem dL_law_1527 : decode cL_law 1527 = .ok (.iload 5, 2) := by decide +kernel
theorem dL_law_1529 : decode cL_law 1529 = .ok (.iconst 1, 1) := by decide +kernel
theorem dL_law_1530 : decode cL_law 1530 = .ok (.iadd, 1) := by decide +kernel
theorem dL_law_1531 : decode cL_law 1531 = .ok (.iaload, 1) := by decide +kernel
theorem dL_law_1532 : decode cL_law 1532 = .ok (.aload_n 0, 1) := by decide +kernel
theorem dL_law_1533 : decode cL_law 1533 = .ok (.iload 5, 2) := by decide +kernel
theorem dL_law_1535 : decode cL_law 1535 = .ok (.iconst 2, 1) := by decide +kernel
theorem dL_law_1536 : decode cL_law 1536 = .ok (.iadd, 1) := by decide +kernel
theorem dL_law_1537 : decode cL_law 1537 = .ok (.iaload, 1) := by decide +kernel
theorem dL_law_1538 : decode cL_law 1538 = .ok (.aload_n 0, 1) := by decide +kernel
theorem dL_law_1539 : decode cL_law 1539 = .ok (.iload 5, 2) := by decide +kernel
theorem dL_law_1541 : decode cL_law 1541 = .ok (.iconst 3, 1) := by decide +kernel
theorem dL_law_1542 : decode cL_law 1542 = .ok (.iadd, 1) := by decide +kernel
theorem dL_law_1543 : decode cL_law 1543 = .ok (.iaload, 1) := by decide +kernel
theorem dL_law_1544 : decode cL_law 1544 = .ok (.aload_n 0, 1) := by decide +kernel
theorem dL_law_1545 : decode cL_law 1545 = .ok (.iload 5, 2) := by decide +kernel
theorem dL_law_1547 : decode cL_law 1547 = .ok (.iconst 4, 1) := by decide +kernel
theorem dL_law_1548 : decode cL_law 1548 = .ok (.iadd, 1) := by decide +kernel
theorem dL_law_1549 : decode cL_law 1549 = .ok (.iaload, 1) := by decide +kernel
theorem dL_law_1550 : decode cL_law 1550 = .ok (.invokevirtual 186, 3) := by decide +kernel
theorem dL_law_1553 : decode cL_law 1553 = .ok (.istore 7, 2) := by decide +kernel
theorem dL_law_1555 : decode cL_law 1555 = .ok (.aload_n 2, 1) := by decide +kernel
theorem dL_law_1556 : decode cL_law 1556 = .ok (.invokevirtual 111, 3) := by decide +kernel
theorem dL_law_1559 : decode cL_law 1559 = .ok (.iload 6, 2) := by decide +kernel
theorem dL_law_1561 : decode cL_law 1561 = .ok (.if_icmp .eq 5, 3) := by decide +kernel
theorem dL_law_1564 : decode cL_law 1564 = .ok (.iconst 0, 1) := by decide +kernel
theorem dL_law_1565 : decode cL_law 1565 = .ok (.ireturn, 1) := by decide +kernel
theorem dL_law_1566 : decode cL_law 1566 = .ok (.iload 6, 2) := by decide +kernel
theorem dL_law_1568 : decode cL_law 1568 = .ok (.ifCond .ne 15, 3) := by decide +kernel
theorem dL_law_1571 : decode cL_law 1571 = .ok (.aload_n 3, 1) := by decide +kernel
theorem dL_law_1572 : decode cL_law 1572 = .ok (.iconst 0, 1) := by decide +kernel
theorem dL_law_1573 : decode cL_law 1573 = .ok (.laload, 1) := by decide +kernel
theorem dL_law_1574 : decode cL_law 1574 = .ok (.iload 7, 2) := by decide +kernel
theorem dL_law_1576 : decode cL_law 1576 = .ok (.i2l, 1) := by decide +kernel
theorem dL_law_1577 : decode cL_law 1577 = .ok (.lcmp, 1) := by decide +kernel
theorem dL_law_1578 : decode cL_law 1578 = .ok (.ifCond .eq 5, 3) := by decide +kernel
theorem dL_law_1581 : decode cL_law 1581 = .ok (.iconst 0, 1) := by decide +kernel
theorem dL_law_1582 : decode cL_law 1582 = .ok (.ireturn, 1) := by decide +kernel
theorem dL_law_1583 : decode cL_law 1583 = .ok (.goto 414, 3) := by decide +kernel
theorem dL_law_1586 : decode cL_law 1586 = .ok (.aload_n 1, 1) := by decide +kernel
theorem dL_law_1587 : decode cL_law 1587 = .ok (.aload_n 0, 1) := by decide +kernel
theorem dL_law_1588 : decode cL_law 1588 = .ok (.iload 5, 2) := by decide +kernel
theorem dL_law_1590 : decode cL_law 1590 = .ok (.iconst 1, 1) := by decide +kernel
theorem dL_law_1591 : decode cL_law 1591 = .ok (.iadd, 1) := by decide +kernel
theorem dL_law_1592 : decode cL_law 1592 = .ok (.iaload, 1) := by decide +kernel
theorem dL_law_1593 : decode cL_law 1593 = .ok (.aload_n 0, 1) := by decide +kernel
theorem dL_law_1594 : decode cL_law 1594 = .ok (.iload 5, 2) := by decide +kernel
theorem dL_law_1596 : decode cL_law 1596 = .ok (.iconst 2, 1) := by decide +kernel
theorem dL_law_1597 : decode cL_law 1597 = .ok (.iadd, 1) := by decide +kernel
theorem dL_law_1598 : decode cL_law 1598 = .ok (.iaload, 1) := by decide +kernel
theorem dL_law_1599 : decode cL_law 1599 = .ok (.aload_n 0, 1) := by decide +kernel
theorem dL_law_1600 : decode cL_law 1600 = .ok (.iload 5, 2) := by decide +kernel
theorem dL_law_1602 : decode cL_law 1602 = .ok (.iconst 3, 1) := by decide +kernel
theorem dL_law_1603 : decode cL_law 1603 = .ok (.iadd, 1) := by decide +kernel
theorem dL_law_1604 : decode cL_law 1604 = .ok (.iaload, 1) := by decide +kernel
theorem dL_law_1605 : decode cL_law 1605 = .ok (.aload_n 3, 1) := by decide +kernel
theorem dL_law_1606 : decode cL_law 1606 = .ok (.invokestatic 187, 3) := by decide +kernel
theorem dL_law_1609 : decode cL_law 1609 = .ok (.istore 6, 2) := by decide +kernel
theorem dL_law_1611 : decode cL_law 1611 = .ok (.aload_n 2, 1) := by decide +kernel
theorem dL_law_1612 : decode cL_law 1612 = .ok (.aload_n 0, 1) := by decide +kernel
theorem dL_law_1613 : decode cL_law 1613 = .ok (.iload 5, 2) := by decide +kernel
theorem dL_law_1615 : decode cL_law 1615 = .ok (.iconst 1, 1) := by decide +kernel
theorem dL_law_1616 : decode cL_law 1616 = .ok (.iadd, 1) := by decide +kernel
theorem dL_law_1617 : decode cL_law 1617 = .ok (.iaload, 1) := by decide +kernel
theorem dL_law_1618 : decode cL_law 1618 = .ok (.aload_n 0, 1) := by decide +kernel
theorem dL_law_1619 : decode cL_law 1619 = .ok (.iload 5, 2) := by decide +kernel
theorem dL_law_1621 : decode cL_law 1621 = .ok (.iconst 2, 1) := by decide +kernel
theorem dL_law_1622 : decode cL_law 1622 = .ok (.iadd, 1) := by decide +kernel
theorem dL_law_1623 : decode cL_law 1623 = .ok (.iaload, 1) := by decide +kernel
theorem dL_law_1624 : decode cL_law 1624 = .ok (.aload_n 0, 1) := by decide +kernel
theorem dL_law_1625 : decode cL_law 1625 = .ok (.iload 5, 2) := by decide +kernel
theorem dL_law_1627 : decode cL_law 1627 = .ok (.iconst 3, 1) := by decide +kernel
theorem dL_law_1628 : decode cL_law 1628 = .ok (.iadd, 1) := by decide +kernel
theorem dL_law_1629 : decode cL_law 1629 = .ok (.iaload, 1) := by decide +kernel
theorem dL_law_1630 : decode cL_law 1630 = .ok (.invokevirtual 189, 3) := by decide +kernel
theorem dL_law_1633 : decode cL_law 1633 = .ok (.istore 7, 2) := by decide +kernel
theorem dL_law_1635 : decode cL_law 1635 = .ok (.aload_n 2, 1) := by decide +kernel
theorem dL_law_1636 : decode cL_law 1636 = .ok (.invokevirtual 111, 3) := by decide +kernel
theorem dL_law_1639 : decode cL_law 1639 = .ok (.iload 6, 2) := by decide +kernel
theorem dL_law_1641 : decode cL_law 1641 = .ok (.if_icmp .eq 5, 3) := by decide +kernel
theorem dL_law_1644 : decode cL_law 1644 = .ok (.iconst 0, 1) := by decide +kernel
theorem dL_law_1645 : decode cL_law 1645 = .ok (.ireturn, 1) := by decide +kernel
theorem dL_law_1646 : decode cL_law 1646 = .ok (.iload 6, 2) := by decide +kernel
theorem dL_law_1648 : decode cL_law 1648 = .ok (.ifCond .ne 15, 3) := by decide +kernel
theorem dL_law_1651 : decode cL_law 1651 = .ok (.aload_n 3, 1) := by decide +kernel
theorem dL_law_1652 : decode cL_law 1652 = .ok (.iconst 0, 1) := by decide +kernel
theorem dL_law_1653 : decode cL_law 1653 = .ok (.laload, 1) := by decide +kernel
theorem dL_law_1654 : decode cL_law 1654 = .ok (.iload 7, 2) := by decide +kernel
theorem dL_law_1656 : decode cL_law 1656 = .ok (.i2l, 1) := by decide +kernel
theorem dL_law_1657 : decode cL_law 1657 = .ok (.lcmp, 1) := by decide +kernel
theorem dL_law_1658 : decode cL_law 1658 = .ok (.ifCond .eq 5, 3) := by decide +kernel
theorem dL_law_1661 : decode cL_law 1661 = .ok (.iconst 0, 1) := by decide +kernel
theorem dL_law_1662 : decode cL_law 1662 = .ok (.ireturn, 1) := by decide +kernel
theorem dL_law_1663 : decode cL_law 1663 = .ok (.goto 334, 3) := by decide +kernel
theorem dL_law_1666 : decode cL_law 1666 = .ok (.aload_n 1, 1) := by decide +kernel
theorem dL_law_1667 : decode cL_law 1667 = .ok (.aload_n 0, 1) := by decide +kernel
theorem dL_law_1668 : decode cL_law 1668 = .ok (.iload 5, 2) := by decide +kernel
theorem dL_law_1670 : decode cL_law 1670 = .ok (.iconst 1, 1) := by decide +kernel
theorem dL_law_1671 : decode cL_law 1671 = .ok (.iadd, 1) := by decide +kernel
theorem dL_law_1672 : decode cL_law 1672 = .ok (.iaload, 1) := by decide +kernel
theorem dL_law_1673 : decode cL_law 1673 = .ok (.aload_n 0, 1) := by decide +kernel
theorem dL_law_1674 : decode cL_law 1674 = .ok (.iload 5, 2) := by decide +kernel
theorem dL_law_1676 : decode cL_law 1676 = .ok (.iconst 2, 1) := by decide +kernel
theorem dL_law_1677 : decode cL_law 1677 = .ok (.iadd, 1) := by decide +kernel
theorem dL_law_1678 : decode cL_law 1678 = .ok (.iaload, 1) := by decide +kernel
theorem dL_law_1679 : decode cL_law 1679 = .ok (.aload_n 3, 1) := by decide +kernel
theorem dL_law_1680 : decode cL_law 1680 = .ok (.invokestatic 190, 3) := by decide +kernel
theorem dL_law_1683 : decode cL_law 1683 = .ok (.istore 6, 2) := by decide +kernel
theorem dL_law_1685 : decode cL_law 1685 = .ok (.aload_n 2, 1) := by decide +kernel
theorem dL_law_1686 : decode cL_law 1686 = .ok (.aload_n 0, 1) := by decide +kernel
theorem dL_law_1687 : decode cL_law 1687 = .ok (.iload 5, 2) := by decide +kernel
theorem dL_law_1689 : decode cL_law 1689 = .ok (.iconst 1, 1) := by decide +kernel
theorem dL_law_1690 : decode cL_law 1690 = .ok (.iadd, 1) := by decide +kernel
theorem dL_law_1691 : decode cL_law 1691 = .ok (.iaload, 1) := by decide +kernel
theorem dL_law_1692 : decode cL_law 1692 = .ok (.aload_n 0, 1) := by decide +kernel
theorem dL_law_1693 : decode cL_law 1693 = .ok (.iload 5, 2) := by decide +kernel
theorem dL_law_1695 : decode cL_law 1695 = .ok (.iconst 2, 1) := by decide +kernel
theorem dL_law_1696 : decode cL_law 1696 = .ok (.iadd, 1) := by decide +kernel
theorem dL_law_1697 : decode cL_law 1697 = .ok (.iaload, 1) := by decide +kernel
theorem dL_law_1698 : decode cL_law 1698 = .ok (.invokevirtual 192, 3) := by decide +kernel
theorem dL_law_1701 : decode cL_law 1701 = .ok (.istore 7, 2) := by decide +kernel
theorem dL_law_1703 : decode cL_law 1703 = .ok (.aload_n 2, 1) := by decide +kernel
theorem dL_law_1704 : decode cL_law 1704 = .ok (.invokevirtual 111, 3) := by decide +kernel
theorem dL_law_1707 : decode cL_law 1707 = .ok (.iload 6, 2) := by decide +kernel
theorem dL_law_1709 : decode cL_law 1709 = .ok (.if_icmp .eq 5, 3) := by decide +kernel
theorem dL_law_1712 : decode cL_law 1712 = .ok (.iconst 0, 1) := by decide +kernel
theorem dL_law_1713 : decode cL_law 1713 = .ok (.ireturn, 1) := by decide +kernel
theorem dL_law_1714 : decode cL_law 1714 = .ok (.iload 6, 2) := by decide +kernel
theorem dL_law_1716 : decode cL_law 1716 = .ok (.ifCond .ne 15, 3) := by decide +kernel
theorem dL_law_1719 : decode cL_law 1719 = .ok (.aload_n 3, 1) := by decide +kernel
theorem dL_law_1720 : decode cL_law 1720 = .ok (.iconst 0, 1) := by decide +kernel
theorem dL_law_1721 : decode cL_law 1721 = .ok (.laload, 1) := by decide +kernel
theorem dL_law_1722 : decode cL_law 1722 = .ok (.iload 7, 2) := by decide +kernel
theorem dL_law_1724 : decode cL_law 1724 = .ok (.i2l, 1) := by decide +kernel
theorem dL_law_1725 : decode cL_law 1725 = .ok (.lcmp, 1) := by decide +kernel
theorem dL_law_1726 : decode cL_law 1726 = .ok (.ifCond .eq 5, 3) := by decide +kernel
theorem dL_law_1729 : decode cL_law 1729 = .ok (.iconst 0, 1) := by decide +kernel
theorem dL_law_1730 : decode cL_law 1730 = .ok (.ireturn, 1) := by decide +kernel
theorem dL_law_1731 : decode cL_law 1731 = .ok (.goto 266, 3) := by decide +kernel
theorem dL_law_1734 : decode cL_law 1734 = .ok (.aload_n 1, 1) := by decide +kernel
theorem dL_law_1735 : decode cL_law 1735 = .ok (.aload_n 0, 1) := by decide +kernel
theorem dL_law_1736 : decode cL_law 1736 = .ok (.iload 5, 2) := by decide +kernel
theorem dL_law_1738 : decode cL_law 1738 = .ok (.iconst 1, 1) := by decide +kernel
theorem dL_law_1739 : decode cL_law 1739 = .ok (.iadd, 1) := by decide +kernel
theorem dL_law_1740 : decode cL_law 1740 = .ok (.iaload, 1) := by decide +kernel
theorem dL_law_1741 : decode cL_law 1741 = .ok (.aload_n 0, 1) := by decide +kernel
theorem dL_law_1742 : decode cL_law 1742 = .ok (.iload 5, 2) := by decide +kernel
theorem dL_law_1744 : decode cL_law 1744 = .ok (.iconst 2, 1) := by decide +kernel
theorem dL_law_1745 : decode cL_law 1745 = .ok (.iadd, 1) := by decide +kernel
theorem dL_law_1746 : decode cL_law 1746 = .ok (.iaload, 1) := by decide +kernel
theorem dL_law_1747 : decode cL_law 1747 = .ok (.aload_n 0, 1) := by decide +kernel
theorem dL_law_1748 : decode cL_law 1748 = .ok (.iload 5, 2) := by decide +kernel
theorem dL_law_1750 : decode cL_law 1750 = .ok (.iconst 3, 1) := by decide +kernel
theorem dL_law_1751 : decode cL_law 1751 = .ok (.iadd, 1) := by decide +kernel
theorem dL_law_1752 : decode cL_law 1752 = .ok (.iaload, 1) := by decide +kernel
theorem dL_law_1753 : decode cL_law 1753 = .ok (.aload_n 0, 1) := by decide +kernel
theorem dL_law_1754 : decode cL_law 1754 = .ok (.iload 5, 2) := by decide +kernel
theorem dL_law_1756 : decode cL_law 1756 = .ok (.iconst 4, 1) := by decide +kernel
theorem dL_law_1757 : decode cL_law 1757 = .ok (.iadd, 1) := by decide +kernel
theorem dL_law_1758 : decode cL_law 1758 = .ok (.iaload, 1) := by decide +kernel
theorem dL_law_1759 : decode cL_law 1759 = .ok (.aload_n 0, 1) := by decide +kernel
theorem dL_law_1760 : decode cL_law 1760 = .ok (.iload 5, 2) := by decide +kernel
theorem dL_law_1762 : decode cL_law 1762 = .ok (.iconst 5, 1) := by decide +kernel
theorem dL_law_1763 : decode cL_law 1763 = .ok (.iadd, 1) := by decide +kernel
theorem dL_law_1764 : decode cL_law 1764 = .ok (.iaload, 1) := by decide +kernel
theorem dL_law_1765 : decode cL_law 1765 = .ok (.aload_n 3, 1) := by decide +kernel
theorem dL_law_1766 : decode cL_law 1766 = .ok (.invokestatic 193, 3) := by decide +kernel
theorem dL_law_1769 : decode cL_law 1769 = .ok (.istore 6, 2) := by decide +kernel
theorem dL_law_1771 : decode cL_law 1771 = .ok (.aload_n 2, 1) := by decide +kernel
theorem dL_law_1772 : decode cL_law 1772 = .ok (.aload_n 0, 1) := by decide +kernel
theorem dL_law_1773 : decode cL_law 1773 = .ok (.iload 5, 2) := by decide +kernel
theorem dL_law_1775 : decode cL_law 1775 = .ok (.iconst 1, 1) := by decide +kernel
theorem dL_law_1776 : decode cL_law 1776 = .ok (.iadd, 1) := by decide +kernel
theorem dL_law_1777 : decode cL_law 1777 = .ok (.iaload, 1) := by decide +kernel
theorem dL_law_1778 : decode cL_law 1778 = .ok (.aload_n 0, 1) := by decide +kernel
theorem dL_law_1779 : decode cL_law 1779 = .ok (.iload 5, 2) := by decide +kernel
theorem dL_law_1781 : decode cL_law 1781 = .ok (.iconst 2, 1) := by decide +kernel
theorem dL_law_1782 : decode cL_law 1782 = .ok (.iadd, 1) := by decide +kernel
theorem dL_law_1783 : decode cL_law 1783 = .ok (.iaload, 1) := by decide +kernel
theorem dL_law_1784 : decode cL_law 1784 = .ok (.aload_n 0, 1) := by decide +kernel
theorem dL_law_1785 : decode cL_law 1785 = .ok (.iload 5, 2) := by decide +kernel
theorem dL_law_1787 : decode cL_law 1787 = .ok (.iconst 3, 1) := by decide +kernel
theorem dL_law_1788 : decode cL_law 1788 = .ok (.iadd, 1) := by decide +kernel
theorem dL_law_1789 : decode cL_law 1789 = .ok (.iaload, 1) := by decide +kernel
theorem dL_law_1790 : decode cL_law 1790 = .ok (.aload_n 0, 1) := by decide +kernel
theorem dL_law_1791 : decode cL_law 1791 = .ok (.iload 5, 2) := by decide +kernel
theorem dL_law_1793 : decode cL_law 1793 = .ok (.iconst 4, 1) := by decide +kernel
theorem dL_law_1794 : decode cL_law 1794 = .ok (.iadd, 1) := by decide +kernel
theorem dL_law_1795 : decode cL_law 1795 = .ok (.iaload, 1) := by decide +kernel
theorem dL_law_1796 : decode cL_law 1796 = .ok (.aload_n 0, 1) := by decide +kernel
theorem dL_law_1797 : decode cL_law 1797 = .ok (.iload 5, 2) := by decide +kernel
theorem dL_law_1799 : decode cL_law 1799 = .ok (.iconst 5, 1) := by decide +kernel
theorem dL_law_1800 : decode cL_law 1800 = .ok (.iadd, 1) := by decide +kernel
theorem dL_law_1801 : decode cL_law 1801 = .ok (.iaload, 1) := by decide +kernel
theorem dL_law_1802 : decode cL_law 1802 = .ok (.invokevirtual 196, 3) := by decide +kernel
theorem dL_law_1805 : decode cL_law 1805 = .ok (.istore 7, 2) := by decide +kernel
theorem dL_law_1807 : decode cL_law 1807 = .ok (.aload_n 2, 1) := by decide +kernel
theorem dL_law_1808 : decode cL_law 1808 = .ok (.invokevirtual 111, 3) := by decide +kernel
theorem dL_law_1811 : decode cL_law 1811 = .ok (.iload 6, 2) := by decide +kernel
theorem dL_law_1813 : decode cL_law 1813 = .ok (.if_icmp .eq 5, 3) := by decide +kernel
theorem dL_law_1816 : decode cL_law 1816 = .ok (.iconst 0, 1) := by decide +kernel
theorem dL_law_1817 : decode cL_law 1817 = .ok (.ireturn, 1) := by decide +kernel
theorem dL_law_1818 : decode cL_law 1818 = .ok (.iload 6, 2) := by decide +kernel
theorem dL_law_1820 : decode cL_law 1820 = .ok (.ifCond .ne 15, 3) := by decide +kernel
theorem dL_law_1823 : decode cL_law 1823 = .ok (.aload_n 3, 1) := by decide +kernel
theorem dL_law_1824 : decode cL_law 1824 = .ok (.iconst 0, 1) := by decide +kernel
theorem dL_law_1825 : decode cL_law 1825 = .ok (.laload, 1) := by decide +kernel
theorem dL_law_1826 : decode cL_law 1826 = .ok (.iload 7, 2) := by decide +kernel
theorem dL_law_1828 : decode cL_law 1828 = .ok (.i2l, 1) := by decide +kernel
theorem dL_law_1829 : decode cL_law 1829 = .ok (.lcmp, 1) := by decide +kernel
theorem dL_law_1830 : decode cL_law 1830 = .ok (.ifCond .eq 5, 3) := by decide +kernel
theorem dL_law_1833 : decode cL_law 1833 = .ok (.iconst 0, 1) := by decide +kernel
theorem dL_law_1834 : decode cL_law 1834 = .ok (.ireturn, 1) := by decide +kernel
theorem dL_law_1835 : decode cL_law 1835 = .ok (.goto 162, 3) := by decide +kernel
theorem dL_law_1838 : decode cL_law 1838 = .ok (.aload_n 1, 1) := by decide +kernel
theorem dL_law_1839 : decode cL_law 1839 = .ok (.aload_n 0, 1) := by decide +kernel
theorem dL_law_1840 : decode cL_law 1840 = .ok (.iload 5, 2) := by decide +kernel
theorem dL_law_1842 : decode cL_law 1842 = .ok (.iconst 1, 1) := by decide +kernel
theorem dL_law_1843 : decode cL_law 1843 = .ok (.iadd, 1) := by decide +kernel
theorem dL_law_1844 : decode cL_law 1844 = .ok (.iaload, 1) := by decide +kernel
theorem dL_law_1845 : decode cL_law 1845 = .ok (.aload_n 3, 1) := by decide +kernel
theorem dL_law_1846 : decode cL_law 1846 = .ok (.invokestatic 197, 3) := by decide +kernel
theorem dL_law_1849 : decode cL_law 1849 = .ok (.istore 6, 2) := by decide +kernel
theorem dL_law_1851 : decode cL_law 1851 = .ok (.aload_n 2, 1) := by decide +kernel
theorem dL_law_1852 : decode cL_law 1852 = .ok (.aload_n 0, 1) := by decide +kernel
theorem dL_law_1853 : decode cL_law 1853 = .ok (.iload 5, 2) := by decide +kernel
theorem dL_law_1855 : decode cL_law 1855 = .ok (.iconst 1, 1) := by decide +kernel
theorem dL_law_1856 : decode cL_law 1856 = .ok (.iadd, 1) := by decide +kernel
theorem dL_law_1857 : decode cL_law 1857 = .ok (.iaload, 1) := by decide +kernel
theorem dL_law_1858 : decode cL_law 1858 = .ok (.invokevirtual 199, 3) := by decide +kernel
theorem dL_law_1861 : decode cL_law 1861 = .ok (.istore 7, 2) := by decide +kernel
theorem dL_law_1863 : decode cL_law 1863 = .ok (.aload_n 2, 1) := by decide +kernel
theorem dL_law_1864 : decode cL_law 1864 = .ok (.invokevirtual 111, 3) := by decide +kernel
theorem dL_law_1867 : decode cL_law 1867 = .ok (.iload 6, 2) := by decide +kernel
theorem dL_law_1869 : decode cL_law 1869 = .ok (.if_icmp .eq 5, 3) := by decide +kernel
theorem dL_law_1872 : decode cL_law 1872 = .ok (.iconst 0, 1) := by decide +kernel
theorem dL_law_1873 : decode cL_law 1873 = .ok (.ireturn, 1) := by decide +kernel
theorem dL_law_1874 : decode cL_law 1874 = .ok (.iload 6, 2) := by decide +kernel
theorem dL_law_1876 : decode cL_law 1876 = .ok (.ifCond .ne 15, 3) := by decide +kernel
theorem dL_law_1879 : decode cL_law 1879 = .ok (.aload_n 3, 1) := by decide +kernel
theorem dL_law_1880 : decode cL_law 1880 = .ok (.iconst 0, 1) := by decide +kernel
theorem dL_law_1881 : decode cL_law 1881 = .ok (.laload, 1) := by decide +kernel
theorem dL_law_1882 : decode cL_law 1882 = .ok (.iload 7, 2) := by decide +kernel
theorem dL_law_1884 : decode cL_law 1884 = .ok (.i2l, 1) := by decide +kernel
theorem dL_law_1885 : decode cL_law 1885 = .ok (.lcmp, 1) := by decide +kernel
theorem dL_law_1886 : decode cL_law 1886 = .ok (.ifCond .eq 5, 3) := by decide +kernel
theorem dL_law_1889 : decode cL_law 1889 = .ok (.iconst 0, 1) := by decide +kernel
theorem dL_law_1890 : decode cL_law 1890 = .ok (.ireturn, 1) := by decide +kernel
theorem dL_law_1891 : decode cL_law 1891 = .ok (.goto 106, 3) := by decide +kernel
theorem dL_law_1894 : decode cL_law 1894 = .ok (.aload_n 1, 1) := by decide +kernel
theorem dL_law_1895 : decode cL_law 1895 = .ok (.aload_n 0, 1) := by decide +kernel
theorem dL_law_1896 : decode cL_law 1896 = .ok (.iload 5, 2) := by decide +kernel
theorem dL_law_1898 : decode cL_law 1898 = .ok (.iconst 1, 1) := by decide +kernel
theorem dL_law_1899 : decode cL_law 1899 = .ok (.iadd, 1) := by decide +kernel
theorem dL_law_1900 : decode cL_law 1900 = .ok (.iaload, 1) := by decide +kernel
theorem dL_law_1901 : decode cL_law 1901 = .ok (.aload_n 0, 1) := by decide +kernel
theorem dL_law_1902 : decode cL_law 1902 = .ok (.iload 5, 2) := by decide +kernel
theorem dL_law_1904 : decode cL_law 1904 = .ok (.iconst 2, 1) := by decide +kernel
theorem dL_law_1905 : decode cL_law 1905 = .ok (.iadd, 1) := by decide +kernel
theorem dL_law_1906 : decode cL_law 1906 = .ok (.iaload, 1) := by decide +kernel
theorem dL_law_1907 : decode cL_law 1907 = .ok (.aload 4, 2) := by decide +kernel
theorem dL_law_1909 : decode cL_law 1909 = .ok (.invokestatic 200, 3) := by decide +kernel
theorem dL_law_1912 : decode cL_law 1912 = .ok (.istore 6, 2) := by decide +kernel
theorem dL_law_1914 : decode cL_law 1914 = .ok (.aload_n 2, 1) := by decide +kernel
theorem dL_law_1915 : decode cL_law 1915 = .ok (.aload_n 0, 1) := by decide +kernel
theorem dL_law_1916 : decode cL_law 1916 = .ok (.iload 5, 2) := by decide +kernel
theorem dL_law_1918 : decode cL_law 1918 = .ok (.iconst 1, 1) := by decide +kernel
theorem dL_law_1919 : decode cL_law 1919 = .ok (.iadd, 1) := by decide +kernel
theorem dL_law_1920 : decode cL_law 1920 = .ok (.iaload, 1) := by decide +kernel
theorem dL_law_1921 : decode cL_law 1921 = .ok (.aload_n 0, 1) := by decide +kernel
theorem dL_law_1922 : decode cL_law 1922 = .ok (.iload 5, 2) := by decide +kernel
theorem dL_law_1924 : decode cL_law 1924 = .ok (.iconst 2, 1) := by decide +kernel
theorem dL_law_1925 : decode cL_law 1925 = .ok (.iadd, 1) := by decide +kernel
theorem dL_law_1926 : decode cL_law 1926 = .ok (.iaload, 1) := by decide +kernel
theorem dL_law_1927 : decode cL_law 1927 = .ok (.invokevirtual 203, 3) := by decide +kernel
theorem dL_law_1930 : decode cL_law 1930 = .ok (.dstore 7, 2) := by decide +kernel
theorem dL_law_1932 : decode cL_law 1932 = .ok (.aload_n 2, 1) := by decide +kernel
theorem dL_law_1933 : decode cL_law 1933 = .ok (.invokevirtual 111, 3) := by decide +kernel
theorem dL_law_1936 : decode cL_law 1936 = .ok (.iload 6, 2) := by decide +kernel
theorem dL_law_1938 : decode cL_law 1938 = .ok (.if_icmp .eq 5, 3) := by decide +kernel
theorem dL_law_1941 : decode cL_law 1941 = .ok (.iconst 0, 1) := by decide +kernel
theorem dL_law_1942 : decode cL_law 1942 = .ok (.ireturn, 1) := by decide +kernel
theorem dL_law_1943 : decode cL_law 1943 = .ok (.iload 6, 2) := by decide +kernel
theorem dL_law_1945 : decode cL_law 1945 = .ok (.ifCond .ne 35, 3) := by decide +kernel
theorem dL_law_1948 : decode cL_law 1948 = .ok (.aload 4, 2) := by decide +kernel
theorem dL_law_1950 : decode cL_law 1950 = .ok (.iconst 0, 1) := by decide +kernel
theorem dL_law_1951 : decode cL_law 1951 = .ok (.daload, 1) := by decide +kernel
theorem dL_law_1952 : decode cL_law 1952 = .ok (.dload 7, 2) := by decide +kernel
theorem dL_law_1954 : decode cL_law 1954 = .ok (.dcmp .l, 1) := by decide +kernel
theorem dL_law_1955 : decode cL_law 1955 = .ok (.ifCond .eq 25, 3) := by decide +kernel
theorem dL_law_1958 : decode cL_law 1958 = .ok (.aload 4, 2) := by decide +kernel
theorem dL_law_1960 : decode cL_law 1960 = .ok (.iconst 0, 1) := by decide +kernel
theorem dL_law_1961 : decode cL_law 1961 = .ok (.daload, 1) := by decide +kernel
theorem dL_law_1962 : decode cL_law 1962 = .ok (.aload 4, 2) := by decide +kernel
theorem dL_law_1964 : decode cL_law 1964 = .ok (.iconst 0, 1) := by decide +kernel
theorem dL_law_1965 : decode cL_law 1965 = .ok (.daload, 1) := by decide +kernel
theorem dL_law_1966 : decode cL_law 1966 = .ok (.dcmp .l, 1) := by decide +kernel
theorem dL_law_1967 : decode cL_law 1967 = .ok (.ifCond .eq 11, 3) := by decide +kernel
theorem dL_law_1970 : decode cL_law 1970 = .ok (.dload 7, 2) := by decide +kernel
theorem dL_law_1972 : decode cL_law 1972 = .ok (.dload 7, 2) := by decide +kernel
theorem dL_law_1974 : decode cL_law 1974 = .ok (.dcmp .l, 1) := by decide +kernel
theorem dL_law_1975 : decode cL_law 1975 = .ok (.ifCond .ne 5, 3) := by decide +kernel
theorem dL_law_1978 : decode cL_law 1978 = .ok (.iconst 0, 1) := by decide +kernel
theorem dL_law_1979 : decode cL_law 1979 = .ok (.ireturn, 1) := by decide +kernel
theorem dL_law_1980 : decode cL_law 1980 = .ok (.goto 17, 3) := by decide +kernel
theorem dL_law_1983 : decode cL_law 1983 = .ok (.aload_n 1, 1) := by decide +kernel
theorem dL_law_1984 : decode cL_law 1984 = .ok (.invokevirtual 204, 3) := by decide +kernel
theorem dL_law_1987 : decode cL_law 1987 = .ok (.aload_n 2, 1) := by decide +kernel
theorem dL_law_1988 : decode cL_law 1988 = .ok (.invokevirtual 208, 3) := by decide +kernel
theorem dL_law_1991 : decode cL_law 1991 = .ok (.lcmp, 1) := by decide +kernel
theorem dL_law_1992 : decode cL_law 1992 = .ok (.ifCond .eq 5, 3) := by decide +kernel
theorem dL_law_1995 : decode cL_law 1995 = .ok (.iconst 0, 1) := by decide +kernel
theorem dL_law_1996 : decode cL_law 1996 = .ok (.ireturn, 1) := by decide +kernel
theorem dL_law_1997 : decode cL_law 1997 = .ok (.iinc 5 6, 3) := by decide +kernel
theorem dL_law_2000 : decode cL_law 2000 = .ok (.goto (-1972), 3) := by decide +kernel
theorem dL_law_2003 : decode cL_law 2003 = .ok (.iconst 1, 1) := by decide +kernel
theorem dL_law_2004 : decode cL_law 2004 = .ok (.ireturn, 1) := by decide +kernel
end
section
theorem zz_end : True := trivial
end
