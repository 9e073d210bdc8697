/-! THE CLASS'S OBJECT at x: books x + 1, saved[] x + 43, saved books x + 44 .., buffer x + 296, reader x + 297 -/
def kr_l (rd : Nat → Int32) : List Value := [.int (rd 0), .int (rd 1), .int (rd 2), .int (rd 3), .int (rd 4), .int (rd 5), .int (rd 6)]
def kx_s (x : Nat) (σ : Nat → Nat) : Nat → Option Nat := fun j => if j < 6 then some (x + 44 + 42 * σ j) else none
def kx_P (σ : Nat → Nat) : Prop := (∀ j, j < 6 → σ j < 6) ∧ ∀ i j, i < 6 → j < 6 → σ i = σ j → i = j
def kx_C (G : tp_G) (x : Nat) (u : Nat → Int32) (π ρ : Nat → Nat) (us : Nat → Nat → Int32) (σ : Nat → Nat) (st len : Int32) (tx rd : Nat → Int32) (h : tp_H) : Prop :=
  (h.2 x = some (.inr (5, [.ref (x + 1), .ref (x + 43), .int st, .ref (x + 296), .int len, .ref (x + 297)])) ∧ h.2 (x + 43) = some (.inl (G.2.2.1 3, 6, .inr (.inr (.inr (.inr (kx_s x σ)))))) ∧ h.2 (x + 296) = some (.inl (G.2.2.1 0, 60, .inl tx)) ∧ h.2 (x + 297) = some (.inr (2, kr_l rd))) ∧
  (kb_C G (x + 1) u π ρ h ∧ (∀ j, j < 6 → ∃ π ρ, kb_C G (x + 44 + 42 * σ j) (us j) π ρ h) ∧ kx_P σ)
def kx_S (G : tp_G) (x : Nat) (h0 : tp_H) (u : Nat → Int32) (π ρ : Nat → Nat) (us : Nat → Nat → Int32) (σ : Nat → Nat) (st len : Int32) (tx rd : Nat → Int32) (h : tp_H) : Prop := kx_C G x u π ρ us σ st len tx rd h ∧ ∀ a, a < x ∨ x + 298 ≤ a → h.2 a = h0.2 a
def kr_S (G : tp_G) (r : Nat) (h0 : tp_H) (rd : Nat → Int32) (h : tp_H) : Prop := h.2 r = some (.inr (2, kr_l rd)) ∧ (h.1 = h0.1 ∧ ∀ a, a ≠ r → h.2 a = h0.2 a)
section KX
variable {l : Launch} {G : tp_G} {M : tp_M} {R : Room} {Q : tp_Q} {k n : Nat} {h h0 : tp_H} {pc : Nat} {L : List (Option Value)} {sk : List Value}
variable {x : Nat} {u : Nat → Int32} {π ρ : Nat → Nat} {us : Nat → Nat → Int32} {σ : Nat → Nat} {st len : Int32} {tx rd : Nat → Int32}
theorem kb_C.mv {b : Nat} {π ρ : Nat → Nat} {h1 : tp_H} (hC : kb_C G b u π ρ h) (e : ∀ o, o < 42 → h1.2 (b + o) = h.2 (b + o)) : kb_C G b u π ρ h1 := ⟨fun o ho => (e o ho).trans (hC.1 o ho), hC.2⟩
theorem kx_S.ob (hT : kx_S G x h0 u π ρ us σ st len tx rd h) : h.2 x = some (.inr (5, [.ref (x + 1), .ref (x + 43), .int st, .ref (x + 296), .int len, .ref (x + 297)])) := hT.1.1.1
theorem kx_S.sv (hT : kx_S G x h0 u π ρ us σ st len tx rd h) : h.2 (x + 43) = some (.inl (G.2.2.1 3, 6, .inr (.inr (.inr (.inr (kx_s x σ)))))) := hT.1.1.2.1
theorem kx_S.bu (hT : kx_S G x h0 u π ρ us σ st len tx rd h) : h.2 (x + 296) = some (.inl (G.2.2.1 0, 60, .inl tx)) := hT.1.1.2.2.1
theorem kx_S.re (hT : kx_S G x h0 u π ρ us σ st len tx rd h) : h.2 (x + 297) = some (.inr (2, kr_l rd)) := hT.1.1.2.2.2
theorem kx_S.bk (hT : kx_S G x h0 u π ρ us σ st len tx rd h) : kb_S G (x + 1) h u π ρ h := ⟨hT.1.2.1, rfl, fun _ _ => rfl⟩
theorem kx_S.sj (hT : kx_S G x h0 u π ρ us σ st len tx rd h) {j : Nat} (hj : j < 6) : ∃ π ρ, kb_S G (x + 44 + 42 * σ j) h (us j) π ρ h := by
  obtain ⟨π, ρ, h1⟩ := hT.1.2.2.1 j hj
  exact ⟨π, ρ, h1, rfl, fun _ _ => rfl⟩
theorem kx_S.sp (hT : kx_S G x h0 u π ρ us σ st len tx rd h) : kx_P σ := hT.1.2.2.2
theorem kx_S.rr (hT : kx_S G x h0 u π ρ us σ st len tx rd h) : kr_S G (x + 297) h rd h := ⟨hT.re, rfl, fun _ _ => rfl⟩
theorem kx_S.self (hT : kx_S G x h0 u π ρ us σ st len tx rd h) : kx_S G x h u π ρ us σ st len tx rd h := ⟨hT.1, fun _ _ => rfl⟩
theorem kx_S.trans {h1 : tp_H} {u' tx' rd' : Nat → Int32} {us' : Nat → Nat → Int32} {σ' π' ρ' : Nat → Nat} {st' len' : Int32} (hT : kx_S G x h0 u π ρ us σ st len tx rd h) (h2 : kx_S G x h u' π' ρ' us' σ' st' len' tx' rd' h1) : kx_S G x h0 u' π' ρ' us' σ' st' len' tx' rd' h1 := ⟨h2.1, fun a ha => (h2.2 a ha).trans (hT.2 a ha)⟩
theorem kx_S.cu {u' : Nat → Int32} (hT : kx_S G x h0 u π ρ us σ st len tx rd h) (e : u = u') : kx_S G x h0 u' π ρ us σ st len tx rd h := e ▸ hT
theorem kx_s_at {j : Nat} (h : j < 6) : kx_s x σ j = some (x + 44 + 42 * σ j) := if_pos h
/-- cells that change: the frame of a part -/
theorem kx_S.to {h1 : tp_H} {lo hi : Nat} {u' tx' rd' : Nat → Int32} {us' : Nat → Nat → Int32} {σ' π' ρ' : Nat → Nat} {st' len' : Int32} (hT : kx_S G x h0 u π ρ us σ st len tx rd h) (hlo : x ≤ lo) (hhi : hi ≤ x + 298) (hf : ∀ a, a < lo ∨ hi ≤ a → h1.2 a = h.2 a) (h2 : kx_C G x u' π' ρ' us' σ' st' len' tx' rd' h1) : kx_S G x h0 u' π' ρ' us' σ' st' len' tx' rd' h1 := ⟨h2, fun a ha => (hf a (by omega)).trans (hT.2 a ha)⟩
theorem kx_S.bkTo {h1 : tp_H} {u' : Nat → Int32} {π' ρ' : Nat → Nat} (hT : kx_S G x h0 u π ρ us σ st len tx rd h) (hB : kb_S G (x + 1) h u' π' ρ' h1) : kx_S G x h0 u' π' ρ' us σ st len tx rd h1 := by
  have f := hB.2.2
  refine hT.to (lo := x + 1) (hi := x + 43) (by omega) (by omega) (fun a ha => f a (by omega)) ⟨⟨(f _ (by omega)).trans hT.ob, (f _ (by omega)).trans hT.sv, (f _ (by omega)).trans hT.bu, (f _ (by omega)).trans hT.re⟩, hB.1, fun j hj => ?_, hT.sp⟩
  obtain ⟨π, ρ, hC⟩ := hT.1.2.2.1 j hj
  exact ⟨π, ρ, hC.mv fun o ho => f _ (by omega)⟩
theorem kx_S.svTo {h1 : tp_H} {u' : Nat → Int32} {π' ρ' : Nat → Nat} (hT : kx_S G x h0 u π ρ us σ st len tx rd h) {j : Nat} (hj : j < 6) (hB : kb_S G (x + 44 + 42 * σ j) h u' π' ρ' h1) : kx_S G x h0 u π ρ (va_up us j u') σ st len tx rd h1 := by
  have f := hB.2.2
  have hs := hT.sp.1 j hj
  refine hT.to (lo := x + 44) (hi := x + 296) (by omega) (by omega) (fun a ha => f a (by omega)) ⟨⟨(f _ (by omega)).trans hT.ob, (f _ (by omega)).trans hT.sv, (f _ (by omega)).trans hT.bu, (f _ (by omega)).trans hT.re⟩, ?_, fun i hi => ?_, hT.sp⟩
  · exact hT.1.2.1.mv fun o ho => f _ (by omega)
  · by_cases e : i = j
    · subst e
      rw [va_up_eq]
      exact ⟨π', ρ', hB.1⟩
    · rw [va_up_ne' _ _ e]
      obtain ⟨π, ρ, hC⟩ := hT.1.2.2.1 i hi
      have hi2 := hT.sp.1 i hi
      have hne : σ i ≠ σ j := fun z => e (hT.sp.2 i j hi hj z)
      exact ⟨π, ρ, hC.mv fun o ho => f _ (by omega)⟩
theorem kx_S.rdTo {h1 : tp_H} {rd' : Nat → Int32} (hT : kx_S G x h0 u π ρ us σ st len tx rd h) (hB : kr_S G (x + 297) h rd' h1) : kx_S G x h0 u π ρ us σ st len tx rd' h1 := by
  have f := hB.2.2
  refine hT.to (lo := x + 297) (hi := x + 298) (by omega) (by omega) (fun a ha => f a (by omega)) ⟨⟨(f _ (by omega)).trans hT.ob, (f _ (by omega)).trans hT.sv, (f _ (by omega)).trans hT.bu, hB.1⟩, ?_, fun i hi => ?_, hT.sp⟩
  · exact hT.1.2.1.mv fun o ho => f _ (by omega)
  · obtain ⟨π, ρ, hC⟩ := hT.1.2.2.1 i hi
    have hi2 := hT.sp.1 i hi
    exact ⟨π, ρ, hC.mv fun o ho => f _ (by omega)⟩
theorem kx_S.one {e : va_E} {a : Nat} (ha : a = x ∨ a = x + 43 ∨ a = x + 296) {us' : Nat → Nat → Int32} {tx' : Nat → Int32} {σ' : Nat → Nat} {st' len' : Int32} (hT : kx_S G x h0 u π ρ us σ st len tx rd h)
    (h1 : (if a = x then some e else h.2 x) = some (.inr (5, [.ref (x + 1), .ref (x + 43), .int st', .ref (x + 296), .int len', .ref (x + 297)])))
    (h2 : (if a = x + 43 then some e else h.2 (x + 43)) = some (.inl (G.2.2.1 3, 6, .inr (.inr (.inr (.inr (kx_s x σ')))))))
    (h3 : (if a = x + 296 then some e else h.2 (x + 296)) = some (.inl (G.2.2.1 0, 60, .inl tx')))
    (h4 : ∀ j, j < 6 → ∃ i, i < 6 ∧ σ' j = σ i ∧ us' j = us i) (h5 : kx_P σ') : kx_S G x h0 u π ρ us' σ' st' len' tx' rd (h.1, tp_up h.2 a e) := by
  have ff : ∀ q, q ≠ a → (h.1, tp_up h.2 a e).2 q = h.2 q := fun q hq => tp_up_n hq
  have fa : ∀ q, (h.1, tp_up h.2 a e).2 q = if a = q then some e else h.2 q := fun q => by
    by_cases z : a = q
    · subst z; rw [if_pos rfl]; exact tp_up_s
    · rw [if_neg z]; exact ff q (fun z2 => z z2.symm)
  refine ⟨⟨⟨(fa _).trans h1, (fa _).trans h2, (fa _).trans h3, (ff _ (by omega)).trans hT.re⟩, ?_, fun j hj => ?_, h5⟩, fun q hq => (ff q (by omega)).trans (hT.2 q hq)⟩
  · exact hT.1.2.1.mv fun o ho => ff _ (by omega)
  · obtain ⟨i, hi, e1, e2⟩ := h4 j hj
    obtain ⟨π, ρ, hC⟩ := hT.1.2.2.1 i hi
    have hi2 := hT.sp.1 i hi
    rw [e1, e2]
    exact ⟨π, ρ, hC.mv fun o ho => ff _ (by omega)⟩
theorem kx_put_savedStates {v : Int32} {ix : Nat} (hd : decode M.2.1 pc = .ok (.putfield ix, 3)) (hf : tp_FL M.1.cls ix 5 2) (hT : kx_S G x h0 u π ρ us σ st len tx rd h) (kk : ∀ h1 : tp_H, kx_S G x h0 u π ρ us σ v len tx rd h1 → tp_Run l G M R Q k n h1 (pc + 3) L sk) : tp_Run l G M R Q k n h pc L (.int v :: .ref x :: sk) :=
  r_putf hd hf ft_5_2 hT.ob (Nat.le_of_ble_eq_true rfl) rfl rfl (kk _ (hT.one (Or.inl rfl) (if_pos rfl) ((if_neg (by omega)).trans hT.sv) ((if_neg (by omega)).trans hT.bu) (fun j hj => ⟨j, hj, rfl, rfl⟩) hT.sp))
theorem kx_put_bufferLength {v : Int32} {ix : Nat} (hd : decode M.2.1 pc = .ok (.putfield ix, 3)) (hf : tp_FL M.1.cls ix 5 4) (hT : kx_S G x h0 u π ρ us σ st len tx rd h) (kk : ∀ h1 : tp_H, kx_S G x h0 u π ρ us σ st v tx rd h1 → tp_Run l G M R Q k n h1 (pc + 3) L sk) : tp_Run l G M R Q k n h pc L (.int v :: .ref x :: sk) :=
  r_putf hd hf ft_5_4 hT.ob (Nat.le_of_ble_eq_true rfl) rfl rfl (kk _ (hT.one (Or.inl rfl) (if_pos rfl) ((if_neg (by omega)).trans hT.sv) ((if_neg (by omega)).trans hT.bu) (fun j hj => ⟨j, hj, rfl, rfl⟩) hT.sp))
theorem kx_st_tx {v y : Int32} {i : Nat} (hd : decode M.2.1 pc = .ok (.iastore, 1)) (hT : kx_S G x h0 u π ρ us σ st len tx rd h) (hy : y = nI i) (hi : i < 60) (kk : ∀ h1 : tp_H, kx_S G x h0 u π ρ us σ st len (va_up tx i v) rd h1 → tp_Run l G M R Q k n h1 (pc + 1) L sk) : tp_Run l G M R Q k n h pc L (.int v :: .int y :: .ref (x + 296) :: sk) :=
  r_iast hd hT.bu hy hi (by decide) (kk _ (hT.one (Or.inr (Or.inr rfl)) ((if_neg (by omega)).trans hT.ob) ((if_neg (by omega)).trans hT.sv) (if_pos rfl) (fun j hj => ⟨j, hj, rfl, rfl⟩) hT.sp))
theorem kr_put_0 {v : Int32} {ix r : Nat} (hd : decode M.2.1 pc = .ok (.putfield ix, 3)) (hf : tp_FL M.1.cls ix 2 0) (hT : kr_S G r h0 rd h) (kk : ∀ h1 : tp_H, kr_S G r h0 (va_up rd 0 v) h1 → tp_Run l G M R Q k n h1 (pc + 3) L sk) : tp_Run l G M R Q k n h pc L (.int v :: .ref r :: sk) :=
  r_putf hd hf ft_2_0 hT.1 (Nat.le_of_ble_eq_true rfl) rfl rfl (kk _ ⟨tp_up_s, hT.2.1, fun a ha => (tp_up_n ha).trans (hT.2.2 a ha)⟩)
theorem kr_put_1 {v : Int32} {ix r : Nat} (hd : decode M.2.1 pc = .ok (.putfield ix, 3)) (hf : tp_FL M.1.cls ix 2 1) (hT : kr_S G r h0 rd h) (kk : ∀ h1 : tp_H, kr_S G r h0 (va_up rd 1 v) h1 → tp_Run l G M R Q k n h1 (pc + 3) L sk) : tp_Run l G M R Q k n h pc L (.int v :: .ref r :: sk) :=
  r_putf hd hf ft_2_1 hT.1 (Nat.le_of_ble_eq_true rfl) rfl rfl (kk _ ⟨tp_up_s, hT.2.1, fun a ha => (tp_up_n ha).trans (hT.2.2 a ha)⟩)
theorem kr_put_2 {v : Int32} {ix r : Nat} (hd : decode M.2.1 pc = .ok (.putfield ix, 3)) (hf : tp_FL M.1.cls ix 2 2) (hT : kr_S G r h0 rd h) (kk : ∀ h1 : tp_H, kr_S G r h0 (va_up rd 2 v) h1 → tp_Run l G M R Q k n h1 (pc + 3) L sk) : tp_Run l G M R Q k n h pc L (.int v :: .ref r :: sk) :=
  r_putf hd hf ft_2_2 hT.1 (Nat.le_of_ble_eq_true rfl) rfl rfl (kk _ ⟨tp_up_s, hT.2.1, fun a ha => (tp_up_n ha).trans (hT.2.2 a ha)⟩)
theorem kr_put_3 {v : Int32} {ix r : Nat} (hd : decode M.2.1 pc = .ok (.putfield ix, 3)) (hf : tp_FL M.1.cls ix 2 3) (hT : kr_S G r h0 rd h) (kk : ∀ h1 : tp_H, kr_S G r h0 (va_up rd 3 v) h1 → tp_Run l G M R Q k n h1 (pc + 3) L sk) : tp_Run l G M R Q k n h pc L (.int v :: .ref r :: sk) :=
  r_putf hd hf ft_2_3 hT.1 (Nat.le_of_ble_eq_true rfl) rfl rfl (kk _ ⟨tp_up_s, hT.2.1, fun a ha => (tp_up_n ha).trans (hT.2.2 a ha)⟩)
theorem kr_put_4 {v : Int32} {ix r : Nat} (hd : decode M.2.1 pc = .ok (.putfield ix, 3)) (hf : tp_FL M.1.cls ix 2 4) (hT : kr_S G r h0 rd h) (kk : ∀ h1 : tp_H, kr_S G r h0 (va_up rd 4 v) h1 → tp_Run l G M R Q k n h1 (pc + 3) L sk) : tp_Run l G M R Q k n h pc L (.int v :: .ref r :: sk) :=
  r_putf hd hf ft_2_4 hT.1 (Nat.le_of_ble_eq_true rfl) rfl rfl (kk _ ⟨tp_up_s, hT.2.1, fun a ha => (tp_up_n ha).trans (hT.2.2 a ha)⟩)
theorem kr_put_5 {v : Int32} {ix r : Nat} (hd : decode M.2.1 pc = .ok (.putfield ix, 3)) (hf : tp_FL M.1.cls ix 2 5) (hT : kr_S G r h0 rd h) (kk : ∀ h1 : tp_H, kr_S G r h0 (va_up rd 5 v) h1 → tp_Run l G M R Q k n h1 (pc + 3) L sk) : tp_Run l G M R Q k n h pc L (.int v :: .ref r :: sk) :=
  r_putf hd hf ft_2_5 hT.1 (Nat.le_of_ble_eq_true rfl) rfl rfl (kk _ ⟨tp_up_s, hT.2.1, fun a ha => (tp_up_n ha).trans (hT.2.2 a ha)⟩)
theorem kr_put_6 {v : Int32} {ix r : Nat} (hd : decode M.2.1 pc = .ok (.putfield ix, 3)) (hf : tp_FL M.1.cls ix 2 6) (hT : kr_S G r h0 rd h) (hb : narrow .boolean (.int v) = .int v ∧ fits .boolean (.int v) = true) (kk : ∀ h1 : tp_H, kr_S G r h0 (va_up rd 6 v) h1 → tp_Run l G M R Q k n h1 (pc + 3) L sk) : tp_Run l G M R Q k n h pc L (.int v :: .ref r :: sk) :=
  r_putf hd hf ft_2_6 hT.1 (Nat.le_of_ble_eq_true rfl) hb.1 hb.2 (kk _ ⟨tp_up_s, hT.2.1, fun a ha => (tp_up_n ha).trans (hT.2.2 a ha)⟩)
end KX
