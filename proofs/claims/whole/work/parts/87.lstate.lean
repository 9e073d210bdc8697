/-! THE LAW'S STATE: the class at x, the reference at x + 298, the answers' rows at x + 303 and x + 304 -/
theorem kx_C.mv {G : tp_G} {x : Nat} {u : Nat → Int32} {π ρ : Nat → Nat} {us : Nat → Nat → Int32} {σ : Nat → Nat} {st len : Int32} {tx rd : Nat → Int32} {h h1 : tp_H} (hC : kx_C G x u π ρ us σ st len tx rd h) (e : ∀ a, x ≤ a → a < x + 298 → h1.2 a = h.2 a) : kx_C G x u π ρ us σ st len tx rd h1 := by
  obtain ⟨⟨c1, c2, c3, c4⟩, c5, c6, c7⟩ := hC
  refine ⟨⟨(e _ (by omega) (by omega)).trans c1, (e _ (by omega) (by omega)).trans c2, (e _ (by omega) (by omega)).trans c3, (e _ (by omega) (by omega)).trans c4⟩, c5.mv fun o ho => e _ (by omega) (by omega), fun j hj => ?_, c7⟩
  obtain ⟨π1, ρ1, c8⟩ := c6 j hj
  have := c7.1 j hj
  exact ⟨π1, ρ1, c8.mv fun o ho => e _ (by omega) (by omega)⟩
def tl_S (G : tp_G) (x : Nat) (u : Nat → Int32) (π ρ : Nat → Nat) (us : Nat → Nat → Int32) (σ : Nat → Nat) (st len : Int32) (tx rd : Nat → Int32) (z hi tx' pa : Nat → Int32) (st' len' thr R9 nu du : Int32) (hs : Int64) (ov : Nat → Int64) (od : Nat → UInt64) (h : tp_H) : Prop :=
  kx_S G x h u π ρ us σ st len tx rd h ∧ mm_S G (x + 298) h z hi tx' pa st' len' thr R9 nu du hs h ∧ h.2 (x + 303) = some (.inl (G.2.2.1 1, 1, .inr (.inl ov))) ∧ h.2 (x + 304) = some (.inl (G.2.2.1 2, 1, .inr (.inr (.inr (.inl od)))))
section TLS
variable {G : tp_G} {x : Nat} {u : Nat → Int32} {π ρ : Nat → Nat} {us : Nat → Nat → Int32} {σ : Nat → Nat} {st len : Int32} {tx rd : Nat → Int32} {z hi tx' pa : Nat → Int32} {st' len' thr R9 nu du : Int32} {hs : Int64} {ov : Nat → Int64} {od : Nat → UInt64} {h : tp_H}
theorem tl_S.mm (hS : tl_S G x u π ρ us σ st len tx rd z hi tx' pa st' len' thr R9 nu du hs ov od h) : mm_S G (x + 298) h z hi tx' pa st' len' thr R9 nu du hs h := hS.2.1
theorem tl_S.cob (hS : tl_S G x u π ρ us σ st len tx rd z hi tx' pa st' len' thr R9 nu du hs ov od h) : h.2 x = some (.inr (5, [.ref (x + 1), .ref (x + 43), .int st, .ref (x + 296), .int len, .ref (x + 297)])) := hS.1.ob
theorem tl_S.mob (hS : tl_S G x u π ρ us σ st len tx rd z hi tx' pa st' len' thr R9 nu du hs ov od h) : h.2 (x + 298) = some (.inr (6, [.ref (x + 298 + 1), .int st', .ref (x + 298 + 2), .int len', .ref (x + 298 + 3), .int thr, .ref (x + 298 + 4), .int R9, .int nu, .int du, .long hs])) := hS.2.1.ob
theorem tl_S.oc (hS : tl_S G x u π ρ us σ st len tx rd z hi tx' pa st' len' thr R9 nu du hs ov od h) : h.2 (x + 303) = some (.inl (G.2.2.1 1, 1, .inr (.inl ov))) := hS.2.2.1
theorem tl_S.oD (hS : tl_S G x u π ρ us σ st len tx rd z hi tx' pa st' len' thr R9 nu du hs ov od h) : h.2 (x + 304) = some (.inl (G.2.2.1 2, 1, .inr (.inr (.inr (.inl od))))) := hS.2.2.2
theorem mm_S.mv {y : Nat} {h0 h1 : tp_H} (hM : mm_S G y h0 z hi tx' pa st' len' thr R9 nu du hs h) (e : ∀ a, y ≤ a → a < y + 5 → h1.2 a = h.2 a) : mm_S G y h1 z hi tx' pa st' len' thr R9 nu du hs h1 :=
  ⟨⟨(e _ (by omega) (by omega)).trans hM.ob, (e _ (by omega) (by omega)).trans hM.rz, (e _ (by omega) (by omega)).trans hM.rhi, (e _ (by omega) (by omega)).trans hM.rtx, (e _ (by omega) (by omega)).trans hM.rpa⟩, rfl, fun _ _ => rfl⟩
theorem tl_S.cls {u2 : Nat → Int32} {π2 ρ2 : Nat → Nat} {us2 : Nat → Nat → Int32} {σ2 : Nat → Nat} {st2 len2 : Int32} {tx2 rd2 : Nat → Int32} {h1 : tp_H} (hS : tl_S G x u π ρ us σ st len tx rd z hi tx' pa st' len' thr R9 nu du hs ov od h) (hP : kx_S G x h u2 π2 ρ2 us2 σ2 st2 len2 tx2 rd2 h1) : tl_S G x u2 π2 ρ2 us2 σ2 st2 len2 tx2 rd2 z hi tx' pa st' len' thr R9 nu du hs ov od h1 :=
  ⟨hP.self, hS.mm.mv fun a h1 h2 => hP.2 a (by omega), (hP.2 _ (by omega)).trans hS.oc, (hP.2 _ (by omega)).trans hS.oD⟩
theorem tl_S.ex {h1 : tp_H} (hS : tl_S G x u π ρ us σ st len tx rd z hi tx' pa st' len' thr R9 nu du hs ov od h) (e : h1.2 = h.2) : tl_S G x u π ρ us σ st len tx rd z hi tx' pa st' len' thr R9 nu du hs ov od h1 :=
  ⟨⟨hS.1.1.mv fun a _ _ => by rw [e], fun _ _ => rfl⟩, hS.mm.mv fun a _ _ => by rw [e], by rw [e]; exact hS.oc, by rw [e]; exact hS.oD⟩
theorem tl_S.out (hS : tl_S G x u π ρ us σ st len tx rd z hi tx' pa st' len' thr R9 nu du hs ov od h) (v : Int64) : tl_S G x u π ρ us σ st len tx rd z hi tx' pa st' len' thr R9 nu du hs (va_up ov 0 v) od (h.1, tp_up h.2 (x + 303) (.inl (G.2.2.1 1, 1, .inr (.inl (va_up ov 0 v))))) :=
  ⟨⟨hS.1.1.mv fun a _ _ => tp_up_n (by omega), fun _ _ => rfl⟩, hS.mm.mv fun a _ _ => tp_up_n (by omega), tp_up_s, (tp_up_n (by omega)).trans hS.oD⟩
theorem tl_S.outD (hS : tl_S G x u π ρ us σ st len tx rd z hi tx' pa st' len' thr R9 nu du hs ov od h) (v : UInt64) : tl_S G x u π ρ us σ st len tx rd z hi tx' pa st' len' thr R9 nu du hs ov (va_up od 0 v) (h.1, tp_up h.2 (x + 304) (.inl (G.2.2.1 2, 1, .inr (.inr (.inr (.inl (va_up od 0 v))))))) :=
  ⟨⟨hS.1.1.mv fun a _ _ => tp_up_n (by omega), fun _ _ => rfl⟩, hS.mm.mv fun a _ _ => tp_up_n (by omega), (tp_up_n (by omega)).trans hS.oc, tp_up_s⟩
theorem tl_S.mod {z2 hi2 tx2 pa2 : Nat → Int32} {st2 len2 thr2 R2 nu2 du2 : Int32} {hs2 : Int64} {h1 : tp_H} (hS : tl_S G x u π ρ us σ st len tx rd z hi tx' pa st' len' thr R9 nu du hs ov od h) (hQ : mm_S G (x + 298) h z2 hi2 tx2 pa2 st2 len2 thr2 R2 nu2 du2 hs2 h1) : tl_S G x u π ρ us σ st len tx rd z2 hi2 tx2 pa2 st2 len2 thr2 R2 nu2 du2 hs2 ov od h1 :=
  ⟨⟨hS.1.1.mv fun a _ _ => hQ.2.2 a (by omega), fun _ _ => rfl⟩, hQ.self, (hQ.2.2 _ (by omega)).trans hS.oc, (hQ.2.2 _ (by omega)).trans hS.oD⟩
end TLS
def tl_V (C : Nat) (u z : Nat → Int32) (us : Nat → Nat → Int32) (hi : Nat → Int32) (s n : Nat) (tx : Nat → Int32) (N P : Nat) : Prop :=
  ((zr N P u z ∧ iv (1000000 * (C - n)) N P z) ∧ h_S (1000000 * (C - n)) s us hi) ∧ (n ≤ 60 ∧ n ≤ C) ∧ ∀ i, i < n → ∃ t, t < 128 ∧ tx i = nI t
def tl_J (G : tp_G) (x C : Nat) (thr : Int32) (ov0 : Int64) (od0 : UInt64) (h : tp_H) : Prop :=
  ∃ u π ρ us σ s n tx rd z hi pa R9 nu du hs ov od N P, tl_S G x u π ρ us σ (nI s) (nI n) tx rd z hi tx pa (nI s) (nI n) thr R9 nu du hs ov od h ∧ tl_V C u z us hi s n tx N P ∧ ov 0 = ov0 ∧ od 0 = od0
theorem tl_S.J {G : tp_G} {x : Nat} {u : Nat → Int32} {π ρ : Nat → Nat} {us : Nat → Nat → Int32} {σ : Nat → Nat} {tx rd : Nat → Int32} {z hi pa : Nat → Int32} {thr R9 nu du : Int32} {hs : Int64} {ov : Nat → Int64} {od : Nat → UInt64} {h : tp_H} {C s n N P : Nat} (hS : tl_S G x u π ρ us σ (nI s) (nI n) tx rd z hi tx pa (nI s) (nI n) thr R9 nu du hs ov od h) (hV : tl_V C u z us hi s n tx N P) : tl_J G x C thr (ov 0) (od 0) h := ⟨u, π, ρ, us, σ, s, n, tx, rd, z, hi, pa, R9, nu, du, hs, ov, od, N, P, hS, hV, rfl, rfl⟩
section TLV
variable {C : Nat} {u zz : Nat → Int32} {us : Nat → Nat → Int32} {hi : Nat → Int32} {ss n : Nat} {tt : Nat → Int32} {N P : Nat}
theorem tl_V.z (h : tl_V C u zz us hi ss n tt N P) : zr N P u zz := h.1.1.1
theorem tl_V.i (h : tl_V C u zz us hi ss n tt N P) : iv (1000000 * (C - n)) N P zz := h.1.1.2
theorem tl_V.s (h : tl_V C u zz us hi ss n tt N P) : h_S (1000000 * (C - n)) ss us hi := h.1.2
theorem tl_V.s6 (h : tl_V C u zz us hi ss n tt N P) : ss ≤ 6 := h.1.2.1
theorem tl_V.n60 (h : tl_V C u zz us hi ss n tt N P) : n ≤ 60 := h.2.1.1
theorem tl_V.nC (h : tl_V C u zz us hi ss n tt N P) : n ≤ C := h.2.1.2
theorem tl_V.tx (h : tl_V C u zz us hi ss n tt N P) : ∀ i, i < n → ∃ t, t < 128 ∧ tt i = nI t := h.2.2
theorem tl_V.B (h : tl_V C u zz us hi ss n tt N P) (hC : C ≤ 512) : 1000000 * (C - n) < 2 ^ 30 := by omega
theorem tl_V.next (h : tl_V C u zz us hi ss n tt N P) : tl_V (C + 1) u zz us hi ss n tt N P := by
  have hn := h.nC
  exact ⟨⟨⟨h.z, h.i.mono (by omega)⟩, h.s.mono (by omega)⟩, ⟨h.n60, by omega⟩, h.tx⟩
/-- a state saved, and a change -/
theorem tl_V.new (h : tl_V C u zz us hi ss n tt N P) {u' z' : Nat → Int32} {N' P' B' : Nat} (h1 : zr N' P' u' z') (h2 : iv B' N' P' z') (hB : B' ≤ 1000000 * (C - n) + 1000000) : tl_V (C + 1) u' z' (kx_us us ss u N P) (z_saveH hi zz ss) (z_saveN ss) n tt N' P' := by
  have hn := h.nC
  exact ⟨⟨⟨h1, h2.mono (by omega)⟩, (h.s.save h.z h.i).mono (by omega)⟩, ⟨h.n60, by omega⟩, h.tx⟩
end TLV
def sc (G : tp_G) (C j : Nat) : Int32 := nI (G.2.2.2 (5 + (6 * C + j)))
theorem lg_cmp_self (x : Int64) : lg_cmp x x = 0 := by
  unfold lg_cmp
  simp
/-- the room is the Statement's own: whatever a TURN measures, it is far above what the law asks for -/
theorem tp_room : 100000 ≤ room_1.cells ∧ 100000 ≤ room_1.slots := ⟨Nat.le_of_ble_eq_true rfl, Nat.le_of_ble_eq_true rfl⟩
