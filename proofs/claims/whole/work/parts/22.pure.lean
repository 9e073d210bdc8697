/-! calls without exceptions, with an answer that is known -/
def tp_NX : String → tp_H → Prop := fun _ _ => False
def tp_PR (v : Value) (h : tp_H) : Option Value → tp_H → Prop := fun r h1 => r = some v ∧ h1 = h
def tp_PS (r : Option Value) (P : tp_H → Prop) : Option Value → tp_H → Prop := fun r1 h1 => r1 = r ∧ P h1
section TPP
variable {l : Launch} {G : tp_G} {M : tp_M} {R : Room} {Q : tp_Q} {k n : Nat} {h : tp_H} {pc : Nat} {L : List (Option Value)} {st : List Value}
theorem r_pV {M' : tp_M} {ix nA b ci : Nat} {As rest : List Value} {fs : List Value} {v : Value} (hd : decode M.2.1 pc = .ok (.invokevirtual ix, 3)) (hc : tp_CV M.1.cls ix M' nA) (hM : tp_Met l G M' 0 0 (.ref b :: As) h (tp_PR v h) tp_NX) (hh : M'.2.2.2.2.2.2 = []) (hb : h.2 b = some (.inr (ci, fs))) (hci : (vwCl[ci]?).map (·.1) = some M'.1.cls) (hn : As.length = nA) (hst : st = As.reverse ++ .ref b :: rest) (hcat : (rest.map fun v => v.category).sum ≤ 8) (hrm : tp_RM R M') (hk : k ≤ R.cells ∧ n ≤ R.slots)
    (kk : tp_Run l G M R Q k n h (pc + 3) L (v :: rest)) : tp_Run l G M R Q k n h pc L st :=
  r_callV hd hc hM hh hb hci hn hst hcat hrm hk (fun r h1 hp => by obtain ⟨e1, e2⟩ := hp; subst e1; subst e2; exact kk) (fun E h1 hp => hp.elim)
theorem r_pS {M' : tp_M} {ix nA : Nat} {As rest : List Value} {v : Value} (hd : decode M.2.1 pc = .ok (.invokestatic ix, 3)) (hc : tp_CS M.1.cls ix M' nA) (hM : tp_Met l G M' 0 0 As h (tp_PR v h) tp_NX) (hh : M'.2.2.2.2.2.2 = []) (hn : As.length = nA) (hst : st = As.reverse ++ rest) (hcat : (rest.map fun v => v.category).sum ≤ 8) (hrm : tp_RM R M') (hk : k ≤ R.cells ∧ n ≤ R.slots)
    (kk : tp_Run l G M R Q k n h (pc + 3) L (v :: rest)) : tp_Run l G M R Q k n h pc L st :=
  r_callS hd hc hM hh hn hst hcat hrm hk (fun r h1 hp => by obtain ⟨e1, e2⟩ := hp; subst e1; subst e2; exact kk) (fun E h1 hp => hp.elim)
theorem r_sV0 {M' : tp_M} {ix nA b ci : Nat} {As rest : List Value} {fs : List Value} {P : tp_H → Prop} (hd : decode M.2.1 pc = .ok (.invokevirtual ix, 3)) (hc : tp_CV M.1.cls ix M' nA) (hM : tp_Met l G M' 0 0 (.ref b :: As) h (tp_PS none P) tp_NX) (hh : M'.2.2.2.2.2.2 = []) (hb : h.2 b = some (.inr (ci, fs))) (hci : (vwCl[ci]?).map (·.1) = some M'.1.cls) (hn : As.length = nA) (hst : st = As.reverse ++ .ref b :: rest) (hcat : (rest.map fun v => v.category).sum ≤ 8) (hrm : tp_RM R M') (hk : k ≤ R.cells ∧ n ≤ R.slots)
    (kk : ∀ h1 : tp_H, P h1 → tp_Run l G M R Q k n h1 (pc + 3) L rest) : tp_Run l G M R Q k n h pc L st :=
  r_callV hd hc hM hh hb hci hn hst hcat hrm hk (fun r h1 hp => by obtain ⟨e1, e2⟩ := hp; subst e1; exact kk h1 e2) (fun E h1 hp => hp.elim)
theorem r_sV1 {M' : tp_M} {ix nA b ci : Nat} {As rest : List Value} {fs : List Value} {v : Value} {P : tp_H → Prop} (hd : decode M.2.1 pc = .ok (.invokevirtual ix, 3)) (hc : tp_CV M.1.cls ix M' nA) (hM : tp_Met l G M' 0 0 (.ref b :: As) h (tp_PS (some v) P) tp_NX) (hh : M'.2.2.2.2.2.2 = []) (hb : h.2 b = some (.inr (ci, fs))) (hci : (vwCl[ci]?).map (·.1) = some M'.1.cls) (hn : As.length = nA) (hst : st = As.reverse ++ .ref b :: rest) (hcat : (rest.map fun v => v.category).sum ≤ 8) (hrm : tp_RM R M') (hk : k ≤ R.cells ∧ n ≤ R.slots)
    (kk : ∀ h1 : tp_H, P h1 → tp_Run l G M R Q k n h1 (pc + 3) L (v :: rest)) : tp_Run l G M R Q k n h pc L st :=
  r_callV hd hc hM hh hb hci hn hst hcat hrm hk (fun r h1 hp => by obtain ⟨e1, e2⟩ := hp; subst e1; exact kk h1 e2) (fun E h1 hp => hp.elim)
end TPP
/-! ints -/
theorem tp_lit (n : Nat) [OfNat Int32 n] : True := trivial
theorem tp_add (a b : Nat) : nI a + nI b = nI (a + b) := (Int32.ofNat_add a b).symm
theorem tp_mul (a b : Nat) : nI a * nI b = nI (a * b) := (Int32.ofNat_mul a b).symm
theorem tp_sub {a b : Nat} (h : b ≤ a) : nI a - nI b = nI (a - b) := by
  have e : nI a = nI (a - b) + nI b := by rw [tp_add, Nat.sub_add_cancel h]
  rw [e, Int32.add_sub_cancel]
theorem tp_1 (a : Nat) : nI a + 1 = nI (a + 1) := tp_add a 1
theorem tp_le {a b : Nat} (ha : a < 2 ^ 31) (hb : b < 2 ^ 31) : (nI a ≤ nI b) ↔ a ≤ b := by
  rw [Int32.le_iff_toInt_le, nI_toInt ha, nI_toInt hb]; omega
theorem tp_lt {a b : Nat} (ha : a < 2 ^ 31) (hb : b < 2 ^ 31) : (nI a < nI b) ↔ a < b := by
  rw [Int32.lt_iff_toInt_lt, nI_toInt ha, nI_toInt hb]; omega
theorem tp_eq {a b : Nat} (ha : a < 2 ^ 31) (hb : b < 2 ^ 31) : (nI a = nI b) ↔ a = b := by
  constructor
  · intro h
    have := congrArg Int32.toInt h
    rw [nI_toInt ha, nI_toInt hb] at this
    omega
  · intro h; rw [h]
/-- an int that is between two numbers is one of them -/
theorem tp_of {x : Int32} {N : Nat} (h0 : 0 ≤ x) (h1 : x ≤ nI N) (hN : N < 2 ^ 31) : ∃ i, x = nI i ∧ i ≤ N := by
  rw [Int32.le_iff_toInt_le] at h0 h1
  rw [nI_toInt hN] at h1
  rw [show (0 : Int32).toInt = 0 from rfl] at h0
  refine ⟨x.toInt.toNat, ?_, by omega⟩
  apply Int32.toInt_inj.mp
  rw [nI_toInt (by omega)]
  omega
theorem tp_inc (i : Nat) : nI i + Int32.ofInt 1 = nI (i + 1) := by rw [show Int32.ofInt 1 = nI 1 from rfl, tp_add]
/-! locals forgotten -/
section TPF
variable {l : Launch} {G : tp_G} {M : tp_M} {R : Room} {Q : tp_Q} {k n : Nat} {h : tp_H} {pc : Nat} {L : List (Option Value)} {st : List Value}
theorem r_fg (j : Nat) (kk : tp_Run l G M R Q k n h pc (L.set j none) st) : tp_Run l G M R Q k n h pc L st := by
  refine r_locals (fun i v hv => ?_) kk
  by_cases e : j = i
  · subst e
    rw [List.getElem?_set] at hv
    simp at hv
  · rwa [List.getElem?_set_ne e] at hv
theorem r_fg1 {a0 b : Option Value} (kk : tp_Run l G M R Q k n h pc (a0 :: none :: L) st) : tp_Run l G M R Q k n h pc (a0 :: b :: L) st := r_fg 1 kk
theorem r_fg2 {a0 a1 b : Option Value} (kk : tp_Run l G M R Q k n h pc (a0 :: a1 :: none :: L) st) : tp_Run l G M R Q k n h pc (a0 :: a1 :: b :: L) st := r_fg 2 kk
theorem r_fg3 {a0 a1 a2 b : Option Value} (kk : tp_Run l G M R Q k n h pc (a0 :: a1 :: a2 :: none :: L) st) : tp_Run l G M R Q k n h pc (a0 :: a1 :: a2 :: b :: L) st := r_fg 3 kk
theorem r_fg4 {a0 a1 a2 a3 b : Option Value} (kk : tp_Run l G M R Q k n h pc (a0 :: a1 :: a2 :: a3 :: none :: L) st) : tp_Run l G M R Q k n h pc (a0 :: a1 :: a2 :: a3 :: b :: L) st := r_fg 4 kk
theorem r_fg5 {a0 a1 a2 a3 a4 b : Option Value} (kk : tp_Run l G M R Q k n h pc (a0 :: a1 :: a2 :: a3 :: a4 :: none :: L) st) : tp_Run l G M R Q k n h pc (a0 :: a1 :: a2 :: a3 :: a4 :: b :: L) st := r_fg 5 kk
theorem r_fg6 {a0 a1 a2 a3 a4 a5 b : Option Value} (kk : tp_Run l G M R Q k n h pc (a0 :: a1 :: a2 :: a3 :: a4 :: a5 :: none :: L) st) : tp_Run l G M R Q k n h pc (a0 :: a1 :: a2 :: a3 :: a4 :: a5 :: b :: L) st := r_fg 6 kk
theorem r_fg7 {a0 a1 a2 a3 a4 a5 a6 b : Option Value} (kk : tp_Run l G M R Q k n h pc (a0 :: a1 :: a2 :: a3 :: a4 :: a5 :: a6 :: none :: L) st) : tp_Run l G M R Q k n h pc (a0 :: a1 :: a2 :: a3 :: a4 :: a5 :: a6 :: b :: L) st := r_fg 7 kk
theorem r_fg8 {a0 a1 a2 a3 a4 a5 a6 a7 b : Option Value} (kk : tp_Run l G M R Q k n h pc (a0 :: a1 :: a2 :: a3 :: a4 :: a5 :: a6 :: a7 :: none :: L) st) : tp_Run l G M R Q k n h pc (a0 :: a1 :: a2 :: a3 :: a4 :: a5 :: a6 :: a7 :: b :: L) st := r_fg 8 kk
end TPF
