/-- the reference at y: its object, and its rows z, history, text, parts behind it; all else as in h0 -/
def mm_S (G : tp_G) (y : Nat) (h0 : tp_H) (z hi tx pa : Nat → Int32) (st len thr rd nu du : Int32) (hs : Int64) (h : tp_H) : Prop :=
  (h.2 y = some (.inr (6, [.ref (y + 1), .int st, .ref (y + 2), .int len, .ref (y + 3), .int thr, .ref (y + 4), .int rd, .int nu, .int du, .long hs])) ∧
  (h.2 (y + 1) = some (.inl (G.2.2.1 0, 196, .inl z)) ∧ h.2 (y + 2) = some (.inl (G.2.2.1 0, 1176, .inl hi)) ∧ h.2 (y + 3) = some (.inl (G.2.2.1 0, 60, .inl tx)) ∧ h.2 (y + 4) = some (.inl (G.2.2.1 0, 65, .inl pa)))) ∧
  (h.1 = h0.1 ∧ ∀ a, a < y ∨ y + 5 ≤ a → h.2 a = h0.2 a)
section MMS
variable {l : Launch} {G : tp_G} {M : tp_M} {R : Room} {Q : tp_Q} {k n : Nat} {h : tp_H} {pc : Nat} {L : List (Option Value)} {sk : List Value}
variable {y : Nat} {h0 : tp_H} {z hi tx pa : Nat → Int32} {st len thr rd nu du : Int32} {hs : Int64}
theorem mm_S.ob (hT : mm_S G y h0 z hi tx pa st len thr rd nu du hs h) : h.2 y = some (.inr (6, [.ref (y + 1), .int st, .ref (y + 2), .int len, .ref (y + 3), .int thr, .ref (y + 4), .int rd, .int nu, .int du, .long hs])) := hT.1.1
theorem mm_S.rz (hT : mm_S G y h0 z hi tx pa st len thr rd nu du hs h) : h.2 (y + 1) = some (.inl (G.2.2.1 0, 196, .inl z)) := hT.1.2.1
theorem mm_S.rhi (hT : mm_S G y h0 z hi tx pa st len thr rd nu du hs h) : h.2 (y + 2) = some (.inl (G.2.2.1 0, 1176, .inl hi)) := hT.1.2.2.1
theorem mm_S.rtx (hT : mm_S G y h0 z hi tx pa st len thr rd nu du hs h) : h.2 (y + 3) = some (.inl (G.2.2.1 0, 60, .inl tx)) := hT.1.2.2.2.1
theorem mm_S.rpa (hT : mm_S G y h0 z hi tx pa st len thr rd nu du hs h) : h.2 (y + 4) = some (.inl (G.2.2.1 0, 65, .inl pa)) := hT.1.2.2.2.2
theorem mm_S.self (hT : mm_S G y h0 z hi tx pa st len thr rd nu du hs h) : mm_S G y h z hi tx pa st len thr rd nu du hs h := ⟨hT.1, rfl, fun _ _ => rfl⟩
theorem mm_S.trans {h1 : tp_H} {z' hi' tx' pa' : Nat → Int32} {st' len' thr' rd' nu' du' : Int32} {hs' : Int64} (hT : mm_S G y h0 z hi tx pa st len thr rd nu du hs h) (h2 : mm_S G y h z' hi' tx' pa' st' len' thr' rd' nu' du' hs' h1) : mm_S G y h0 z' hi' tx' pa' st' len' thr' rd' nu' du' hs' h1 := ⟨h2.1, h2.2.1.trans hT.2.1, fun a ha => (h2.2.2 a ha).trans (hT.2.2 a ha)⟩
theorem mm_S.cz {z' : Nat → Int32} (hT : mm_S G y h0 z hi tx pa st len thr rd nu du hs h) (e : z = z') : mm_S G y h0 z' hi tx pa st len thr rd nu du hs h := e ▸ hT
theorem mm_fr {h1 : tp_H} {a b : Nat} {e : va_E} (hb : y ≤ b ∧ b < y + 5) (hq : h1.2 = tp_up h.2 b e) (ha : a < y ∨ y + 5 ≤ a) (h9 : h.2 a = h0.2 a) : h1.2 a = h0.2 a := by
  rw [hq, tp_up_n (by omega)]; exact h9
theorem mm_put_st {x : Int32} (hd : decode M.2.1 pc = .ok (.putfield 26, 3)) (hM : M.1.cls = RX6) (hT : mm_S G y h0 z hi tx pa st len thr rd nu du hs h) (kk : ∀ h1 : tp_H, mm_S G y h0 z hi tx pa x len thr rd nu du hs h1 → tp_Run l G M R Q k n h1 (pc + 3) L sk) : tp_Run l G M R Q k n h pc L (.int x :: .ref y :: sk) := by
  refine r_putf (ix := 26) hd (by rw [hM]; exact f_X6_26) ft_6_1 hT.ob (Nat.le_of_ble_eq_true rfl) rfl rfl (kk _ ⟨⟨tp_up_s, ?_, ?_, ?_, ?_⟩, hT.2.1, fun a ha => mm_fr (b := y) (by omega) rfl ha (hT.2.2 a ha)⟩)
  · exact (tp_up_n (by omega)).trans hT.rz
  · exact (tp_up_n (by omega)).trans hT.rhi
  · exact (tp_up_n (by omega)).trans hT.rtx
  · exact (tp_up_n (by omega)).trans hT.rpa
theorem mm_put_len {x : Int32} (hd : decode M.2.1 pc = .ok (.putfield 164, 3)) (hM : M.1.cls = RX6) (hT : mm_S G y h0 z hi tx pa st len thr rd nu du hs h) (kk : ∀ h1 : tp_H, mm_S G y h0 z hi tx pa st x thr rd nu du hs h1 → tp_Run l G M R Q k n h1 (pc + 3) L sk) : tp_Run l G M R Q k n h pc L (.int x :: .ref y :: sk) := by
  refine r_putf (ix := 164) hd (by rw [hM]; exact f_X6_164) ft_6_3 hT.ob (Nat.le_of_ble_eq_true rfl) rfl rfl (kk _ ⟨⟨tp_up_s, ?_, ?_, ?_, ?_⟩, hT.2.1, fun a ha => mm_fr (b := y) (by omega) rfl ha (hT.2.2 a ha)⟩)
  · exact (tp_up_n (by omega)).trans hT.rz
  · exact (tp_up_n (by omega)).trans hT.rhi
  · exact (tp_up_n (by omega)).trans hT.rtx
  · exact (tp_up_n (by omega)).trans hT.rpa
theorem mm_put_thr {x : Int32} (hd : decode M.2.1 pc = .ok (.putfield 22, 3)) (hM : M.1.cls = RX6) (hT : mm_S G y h0 z hi tx pa st len thr rd nu du hs h) (kk : ∀ h1 : tp_H, mm_S G y h0 z hi tx pa st len x rd nu du hs h1 → tp_Run l G M R Q k n h1 (pc + 3) L sk) : tp_Run l G M R Q k n h pc L (.int x :: .ref y :: sk) := by
  refine r_putf (ix := 22) hd (by rw [hM]; exact f_X6_22) ft_6_5 hT.ob (Nat.le_of_ble_eq_true rfl) rfl rfl (kk _ ⟨⟨tp_up_s, ?_, ?_, ?_, ?_⟩, hT.2.1, fun a ha => mm_fr (b := y) (by omega) rfl ha (hT.2.2 a ha)⟩)
  · exact (tp_up_n (by omega)).trans hT.rz
  · exact (tp_up_n (by omega)).trans hT.rhi
  · exact (tp_up_n (by omega)).trans hT.rtx
  · exact (tp_up_n (by omega)).trans hT.rpa
theorem mm_put_rd {x : Int32} (hd : decode M.2.1 pc = .ok (.putfield 167, 3)) (hM : M.1.cls = RX6) (hT : mm_S G y h0 z hi tx pa st len thr rd nu du hs h) (kk : ∀ h1 : tp_H, mm_S G y h0 z hi tx pa st len thr x nu du hs h1 → tp_Run l G M R Q k n h1 (pc + 3) L sk) : tp_Run l G M R Q k n h pc L (.int x :: .ref y :: sk) := by
  refine r_putf (ix := 167) hd (by rw [hM]; exact f_X6_167) ft_6_7 hT.ob (Nat.le_of_ble_eq_true rfl) rfl rfl (kk _ ⟨⟨tp_up_s, ?_, ?_, ?_, ?_⟩, hT.2.1, fun a ha => mm_fr (b := y) (by omega) rfl ha (hT.2.2 a ha)⟩)
  · exact (tp_up_n (by omega)).trans hT.rz
  · exact (tp_up_n (by omega)).trans hT.rhi
  · exact (tp_up_n (by omega)).trans hT.rtx
  · exact (tp_up_n (by omega)).trans hT.rpa
theorem mm_put_nu {x : Int32} (hd : decode M.2.1 pc = .ok (.putfield 173, 3)) (hM : M.1.cls = RX6) (hT : mm_S G y h0 z hi tx pa st len thr rd nu du hs h) (kk : ∀ h1 : tp_H, mm_S G y h0 z hi tx pa st len thr rd x du hs h1 → tp_Run l G M R Q k n h1 (pc + 3) L sk) : tp_Run l G M R Q k n h pc L (.int x :: .ref y :: sk) := by
  refine r_putf (ix := 173) hd (by rw [hM]; exact f_X6_173) ft_6_8 hT.ob (Nat.le_of_ble_eq_true rfl) rfl rfl (kk _ ⟨⟨tp_up_s, ?_, ?_, ?_, ?_⟩, hT.2.1, fun a ha => mm_fr (b := y) (by omega) rfl ha (hT.2.2 a ha)⟩)
  · exact (tp_up_n (by omega)).trans hT.rz
  · exact (tp_up_n (by omega)).trans hT.rhi
  · exact (tp_up_n (by omega)).trans hT.rtx
  · exact (tp_up_n (by omega)).trans hT.rpa
theorem mm_put_du {x : Int32} (hd : decode M.2.1 pc = .ok (.putfield 170, 3)) (hM : M.1.cls = RX6) (hT : mm_S G y h0 z hi tx pa st len thr rd nu du hs h) (kk : ∀ h1 : tp_H, mm_S G y h0 z hi tx pa st len thr rd nu x hs h1 → tp_Run l G M R Q k n h1 (pc + 3) L sk) : tp_Run l G M R Q k n h pc L (.int x :: .ref y :: sk) := by
  refine r_putf (ix := 170) hd (by rw [hM]; exact f_X6_170) ft_6_9 hT.ob (Nat.le_of_ble_eq_true rfl) rfl rfl (kk _ ⟨⟨tp_up_s, ?_, ?_, ?_, ?_⟩, hT.2.1, fun a ha => mm_fr (b := y) (by omega) rfl ha (hT.2.2 a ha)⟩)
  · exact (tp_up_n (by omega)).trans hT.rz
  · exact (tp_up_n (by omega)).trans hT.rhi
  · exact (tp_up_n (by omega)).trans hT.rtx
  · exact (tp_up_n (by omega)).trans hT.rpa
theorem mm_put_hs {x : Int64} (hd : decode M.2.1 pc = .ok (.putfield 228, 3)) (hM : M.1.cls = RX6) (hT : mm_S G y h0 z hi tx pa st len thr rd nu du hs h) (kk : ∀ h1 : tp_H, mm_S G y h0 z hi tx pa st len thr rd nu du x h1 → tp_Run l G M R Q k n h1 (pc + 3) L sk) : tp_Run l G M R Q k n h pc L (.long x :: .ref y :: sk) := by
  refine r_putf (ix := 228) hd (by rw [hM]; exact f_X6_228) ft_6_10 hT.ob (Nat.le_of_ble_eq_true rfl) rfl rfl (kk _ ⟨⟨tp_up_s, ?_, ?_, ?_, ?_⟩, hT.2.1, fun a ha => mm_fr (b := y) (by omega) rfl ha (hT.2.2 a ha)⟩)
  · exact (tp_up_n (by omega)).trans hT.rz
  · exact (tp_up_n (by omega)).trans hT.rhi
  · exact (tp_up_n (by omega)).trans hT.rtx
  · exact (tp_up_n (by omega)).trans hT.rpa
theorem mm_st_z {x v : Int32} {i : Nat} (hd : decode M.2.1 pc = .ok (.iastore, 1)) (hT : mm_S G y h0 z hi tx pa st len thr rd nu du hs h) (hx : x = nI i) (hi9 : i < 196) (kk : ∀ h1 : tp_H, mm_S G y h0 (va_up z i v) hi tx pa st len thr rd nu du hs h1 → tp_Run l G M R Q k n h1 (pc + 1) L sk) : tp_Run l G M R Q k n h pc L (.int v :: .int x :: .ref (y + 1) :: sk) := by
  refine r_iast hd hT.rz hx hi9 (by omega) (kk _ ⟨⟨?_, ?_, ?_, ?_, ?_⟩, hT.2.1, fun a ha => mm_fr (b := y + 1) (by omega) rfl ha (hT.2.2 a ha)⟩)
  · exact (tp_up_n (by omega)).trans hT.ob
  · exact tp_up_s
  · exact (tp_up_n (by omega)).trans hT.rhi
  · exact (tp_up_n (by omega)).trans hT.rtx
  · exact (tp_up_n (by omega)).trans hT.rpa
theorem mm_st_hi {x v : Int32} {i : Nat} (hd : decode M.2.1 pc = .ok (.iastore, 1)) (hT : mm_S G y h0 z hi tx pa st len thr rd nu du hs h) (hx : x = nI i) (hi9 : i < 1176) (kk : ∀ h1 : tp_H, mm_S G y h0 z (va_up hi i v) tx pa st len thr rd nu du hs h1 → tp_Run l G M R Q k n h1 (pc + 1) L sk) : tp_Run l G M R Q k n h pc L (.int v :: .int x :: .ref (y + 2) :: sk) := by
  refine r_iast hd hT.rhi hx hi9 (by omega) (kk _ ⟨⟨?_, ?_, ?_, ?_, ?_⟩, hT.2.1, fun a ha => mm_fr (b := y + 2) (by omega) rfl ha (hT.2.2 a ha)⟩)
  · exact (tp_up_n (by omega)).trans hT.ob
  · exact (tp_up_n (by omega)).trans hT.rz
  · exact tp_up_s
  · exact (tp_up_n (by omega)).trans hT.rtx
  · exact (tp_up_n (by omega)).trans hT.rpa
theorem mm_st_tx {x v : Int32} {i : Nat} (hd : decode M.2.1 pc = .ok (.iastore, 1)) (hT : mm_S G y h0 z hi tx pa st len thr rd nu du hs h) (hx : x = nI i) (hi9 : i < 60) (kk : ∀ h1 : tp_H, mm_S G y h0 z hi (va_up tx i v) pa st len thr rd nu du hs h1 → tp_Run l G M R Q k n h1 (pc + 1) L sk) : tp_Run l G M R Q k n h pc L (.int v :: .int x :: .ref (y + 3) :: sk) := by
  refine r_iast hd hT.rtx hx hi9 (by omega) (kk _ ⟨⟨?_, ?_, ?_, ?_, ?_⟩, hT.2.1, fun a ha => mm_fr (b := y + 3) (by omega) rfl ha (hT.2.2 a ha)⟩)
  · exact (tp_up_n (by omega)).trans hT.ob
  · exact (tp_up_n (by omega)).trans hT.rz
  · exact (tp_up_n (by omega)).trans hT.rhi
  · exact tp_up_s
  · exact (tp_up_n (by omega)).trans hT.rpa
theorem mm_st_pa {x v : Int32} {i : Nat} (hd : decode M.2.1 pc = .ok (.iastore, 1)) (hT : mm_S G y h0 z hi tx pa st len thr rd nu du hs h) (hx : x = nI i) (hi9 : i < 65) (kk : ∀ h1 : tp_H, mm_S G y h0 z hi tx (va_up pa i v) st len thr rd nu du hs h1 → tp_Run l G M R Q k n h1 (pc + 1) L sk) : tp_Run l G M R Q k n h pc L (.int v :: .int x :: .ref (y + 4) :: sk) := by
  refine r_iast hd hT.rpa hx hi9 (by omega) (kk _ ⟨⟨?_, ?_, ?_, ?_, ?_⟩, hT.2.1, fun a ha => mm_fr (b := y + 4) (by omega) rfl ha (hT.2.2 a ha)⟩)
  · exact (tp_up_n (by omega)).trans hT.ob
  · exact (tp_up_n (by omega)).trans hT.rz
  · exact (tp_up_n (by omega)).trans hT.rhi
  · exact (tp_up_n (by omega)).trans hT.rtx
  · exact tp_up_s
end MMS
