theorem sc_n {p : Int32} {K : Nat} (h0 : 0 ≤ p) (h1 : p ≤ nI K) (hK : K < 2 ^ 31) : ∃ j, p = nI j ∧ j ≤ K := tp_of h0 h1 hK
theorem sc_w {p : Int32} (h : 0 ≤ p ∧ p ≤ 3) : ∃ w, p = nI w ∧ w < 4 := by
  obtain ⟨j, e, h2⟩ := tp_of (N := 3) h.1 h.2 (by omega)
  exact ⟨j, e, by omega⟩
theorem sc_lo {p : Int32} {a K : Nat} (ha : a ≤ K) (h : nI a ≤ p ∧ p ≤ nI K) (hK : K < 2 ^ 31) : ∃ j, p = nI j ∧ a ≤ j ∧ j ≤ K := by
  obtain ⟨j, e, h2⟩ := tp_of (Int32.le_trans (nI_pos' (by omega)) h.1) h.2 hK
  refine ⟨j, e, ?_, h2⟩
  have := h.1
  rw [e] at this
  exact (tp_le (by omega) (by omega)).mp this
theorem sc_a {p : Int32} (h : 1 ≤ p ∧ p ≤ 99999) : ∃ m, p = nI m ∧ 1 ≤ m ∧ m ≤ 99999 := sc_lo (a := 1) (K := 99999) (by omega) h (by omega)
theorem sc_c {p : Int32} (h : 1 ≤ p ∧ p ≤ 3) : ∃ c, p = nI c ∧ 0 < c ∧ c < 4 := by
  obtain ⟨j, e, h1, h2⟩ := sc_lo (a := 1) (K := 3) (by omega) h (by omega)
  exact ⟨j, e, by omega, by omega⟩
theorem sc_r {p : Int32} (h : 100 ≤ p ∧ p ≤ 2000) : ∃ r, p = nI r ∧ (100 ≤ r ∧ r ≤ 2000) := sc_lo (a := 100) (K := 2000) (by omega) h (by omega)
theorem sc_d {p : Int32} (h : 1 ≤ p ∧ p ≤ 60) : ∃ d, p = nI d ∧ (1 ≤ d ∧ d ≤ 60) := sc_lo (a := 1) (K := 60) (by omega) h (by omega)
theorem sc_n4 {p : Int32} (h : 1 ≤ p ∧ p ≤ 9999) : ∃ m, p = nI m ∧ (1 ≤ m ∧ m ≤ 9999) := sc_lo (a := 1) (K := 9999) (by omega) h (by omega)
theorem sc_t {p : Int32} (h : 33 ≤ p ∧ p ≤ 126) : ∃ t, p = nI t ∧ t < 128 := by
  obtain ⟨j, e, h1, h2⟩ := sc_lo (a := 33) (K := 126) (by omega) h (by omega)
  exact ⟨j, e, by omega⟩
theorem sc_jj {p : Int32} {N : Nat} (h : 0 ≤ p ∧ p ≤ nI N - 1) (hN : N ≤ 12) : ∃ j, p = nI j ∧ j < N := by
  rcases Nat.eq_zero_or_pos N with e | e
  · subst e
    exact absurd (Int32.le_trans h.1 h.2) (by decide)
  · have h2 := h.2
    rw [tp_m1 e] at h2
    obtain ⟨j, e1, e2⟩ := tp_of h.1 h2 (by omega)
    exact ⟨j, e1, by omega⟩
theorem sc_j {p : Int32} {N : Nat} (h : 0 ≤ p ∧ p ≤ nI N - 1) (hN : N ≤ 8) : ∃ j, p = nI j ∧ j < N := sc_jj h (by omega)
theorem sc_j12 {p : Int32} {N : Nat} (h : 0 ≤ p ∧ p ≤ nI N - 1) (hN : N ≤ 12) : ∃ j, p = nI j ∧ j < N := sc_jj h hN
theorem sc_lim {j : Nat} (hj : j < 4) : tp_st 2 j = (if nI j = 1 then 100 else if nI j = 2 then 50 else 60) := by
  rcases (show j = 0 ∨ j = 1 ∨ j = 2 ∨ j = 3 by omega) with rfl | rfl | rfl | rfl <;> rfl
theorem sc_v {p : Int32} {j : Nat} (hj : j < 4) (h : 0 ≤ p ∧ p ≤ tp_st 2 j) : ∃ v, p = nI v ∧ v ≤ (if j = 1 then 100 else if j = 2 then 50 else 60) := by
  rcases (show j = 0 ∨ j = 1 ∨ j = 2 ∨ j = 3 by omega) with rfl | rfl | rfl | rfl
  · exact tp_of (N := 60) h.1 h.2 (by omega)
  · exact tp_of (N := 100) h.1 h.2 (by omega)
  · exact tp_of (N := 50) h.1 h.2 (by omega)
  · exact tp_of (N := 60) h.1 h.2 (by omega)
theorem tl_V.app {C : Nat} {u z : Nat → Int32} {us : Nat → Nat → Int32} {hi : Nat → Int32} {s n : Nat} {tx : Nat → Int32} {N P t : Nat} (h : tl_V C u z us hi s n tx N P) (hn : n < 60) (ht : t < 128) : tl_V (C + 1) u z us hi s (n + 1) (va_up tx n (nI t)) N P := by
  have hc := h.nC
  refine ⟨⟨⟨h.z, h.i.mono (by omega)⟩, h.s.mono (by omega)⟩, ⟨by omega, by omega⟩, fun i hi => ?_⟩
  by_cases e : i = n
  · subst e
    exact ⟨t, ht, va_up_eq _ _ _⟩
  · obtain ⟨t2, h1, h2⟩ := h.tx i (by omega)
    exact ⟨t2, h1, (va_up_ne' _ _ e).trans h2⟩
theorem tl_V.und {C : Nat} {u z : Nat → Int32} {us : Nat → Nat → Int32} {hi : Nat → Int32} {s n : Nat} {tx : Nat → Int32} {N P N2 P2 : Nat} (h : tl_V C u z us hi (s + 1) n tx N P) (g1 : zr N2 P2 (us s) (fun q => hi (196 * s + q))) (g2 : iv (1000000 * (C - n)) N2 P2 (fun q => hi (196 * s + q))) : tl_V (C + 1) (k_copy u (us s) N2 P2) (z_cpT z hi s 196) us hi s n tx N2 P2 := by
  have hc := h.nC
  have hs := h.s
  have e : ∀ q, q < 196 → z_cpT z hi s 196 q = hi (196 * s + q) := fun q hq => if_pos hq
  exact ⟨⟨⟨(g1.copy u).zag e, (g2.zag g1.n8 g1.n9 e).mono (by omega)⟩, ⟨by have := hs.1; omega, fun j hj => (hs.2 j (by omega)).mono (by omega)⟩⟩, ⟨h.n60, by omega⟩, h.tx⟩
theorem tl_V.clr {C : Nat} {u z : Nat → Int32} {us : Nat → Nat → Int32} {hi : Nat → Int32} {s n : Nat} {tx : Nat → Int32} {N P : Nat} (h : tl_V C u z us hi s n tx N P) : tl_V (C + 1) u z us hi s 0 tx N P := ⟨⟨⟨h.z, h.i.mono (by omega)⟩, h.s.mono (by omega)⟩, ⟨by omega, by omega⟩, fun i hi => absurd hi (Nat.not_lt_zero i)⟩
set_option maxRecDepth 100000 in
set_option maxHeartbeats 4000000 in
theorem T_load {l : Launch} {G : tp_G} {Q : tp_Q} {k n : Nat} {h : tp_H} {x C : Nat} {thr0 : Int32} {ov0 : Int64} {od0 : UInt64} (hl : l.stackTraces = false) (hC : 6 * C + 6 ≤ G.2.2.2 4) (hN : G.2.2.2 4 ≤ 3072) (hkk : k + 1 ≤ room_1.cells ∧ n + 6 ≤ room_1.slots) (hJ : tl_J G x C thr0 ov0 od0 h) (kk : ∀ mc ms h2 thr ov od, mc ≤ 1 → ms ≤ 6 → tl_J G x (C + 1) thr ov od h2 → tp_Run l G mL_law room_1 Q (k + mc) (n + ms) h2 1997 [some (.ref (G.2.2.2 3)), some (.ref x), some (.ref (x + 298)), some (.ref (x + 303)), some (.ref (x + 304)), some (.int (nI (6 * C))), none, none, none] []) : tp_Run l G mL_law room_1 Q k n h 176 [some (.ref (G.2.2.2 3)), some (.ref x), some (.ref (x + 298)), some (.ref (x + 303)), some (.ref (x + 304)), some (.int (nI (6 * C))), none, none, none] [] := by
  obtain ⟨u, π, ρ, us, σ, s, n9, tx, rd, z, hy, pa, R9, nu, du, hs, ov, od, N, P, hS, hV, -, -⟩ := hJ
  have hz := hV.z
  have hv := hV.i
  have hB := hV.B (by omega)
  have h8 := hz.n8
  have h9 := hz.n9
  have hn60 := hV.n60
  have hk0 : k + 0 ≤ room_1.cells ∧ n + 0 ≤ room_1.slots := by omega
  have hk1 : k + 1 ≤ room_1.cells ∧ n + 6 ≤ room_1.slots := hkk
  obtain ⟨p1, e1⟩ : ∃ p, sc G C 1 = p := ⟨_, rfl⟩
  obtain ⟨p2, e2⟩ : ∃ p, sc G C 2 = p := ⟨_, rfl⟩
  by_cases c1 : 0 ≤ p1 ∧ p1 ≤ 3
  · obtain ⟨w, rfl, hw⟩ := sc_w c1
    by_cases c2 : 1 ≤ p2 ∧ p2 ≤ 99999
    · obtain ⟨m, rfl, hm1, hm⟩ := sc_a c2
      by_cases c3 : z (z_at w 0) + nI m ≤ 1000000
      · exact L_load hl hC hN hk0 e1 e2 (WL_load hl hS.cob (X_load hl hS.1 rfl hV.s6 hz.u8 h8 hz.u9 h9 hw c2 ((hz.loadC hv hB hw hm).mpr c3)) (fun h1 q => by
            obtain ⟨σ1, q⟩ := q
            exact (hS.cls q).oc)) (fun h1 hF => by
          obtain ⟨hh, ⟨σ1, q⟩, rfl⟩ := hF
          have hS1 := (hS.cls q).out (Int32.toInt64 (k_load u w (nI m) (z_at w 0)))
          exact ⟨_, _, _, hS1.mob, Q_load hl hS1.mm hV.s6 hw c2 c3, fun h2 hq => ⟨_, _, (hS1.mod hq).J (hV.new (hz.load hw _) (hv.load hB hw hm) (by omega)), fun _ => (va_up_eq _ _ _).trans (congrArg Int32.toInt64 ((hz.load hw _).ba hw (by omega)))⟩⟩) (fun h2 thr ov od q => kk 0 0 h2 thr ov od (by decide) (by decide) q)
      · exact L_load hl hC hN hk1 e1 e2 (WX_load_3 hl hS.cob (X_load_3 hl hS.1 hw c2 (fun q => c3 ((hz.loadC hv hB hw hm).mp q))) (fun E h1 q => q.1)) (fun h1 hF => by
          obtain ⟨E, -, hF⟩ := hF
          have hS1 := hS.ex hF
          exact ⟨_, _, _, hS1.mob, Q_load_3 hl hS1.mm hw c2 c3, fun h2 hq => ⟨_, _, (hS1.mod hq).J hV.next, fun q => absurd q (by decide)⟩⟩) (fun h2 thr ov od q => kk 1 6 h2 thr ov od (by decide) (by decide) q)
    · exact L_load hl hC hN hk1 e1 e2 (WX_load_2 hl hS.cob (X_load_2 hl hS.1 hw c2) (fun E h1 q => q.1)) (fun h1 hF => by
        obtain ⟨E, -, hF⟩ := hF
        have hS1 := hS.ex hF
        exact ⟨_, _, _, hS1.mob, Q_load_2 hl hS1.mm hw c2, fun h2 hq => ⟨_, _, (hS1.mod hq).J hV.next, fun q => absurd q (by decide)⟩⟩) (fun h2 thr ov od q => kk 1 6 h2 thr ov od (by decide) (by decide) q)
  · exact L_load hl hC hN hk1 e1 e2 (WX_load_1 hl hS.cob (X_load_1 hl hS.1 c1) (fun E h1 q => q.1)) (fun h1 hF => by
      obtain ⟨E, -, hF⟩ := hF
      have hS1 := hS.ex hF
      exact ⟨_, _, _, hS1.mob, Q_load_1 hl hS1.mm c1, fun h2 hq => ⟨_, _, (hS1.mod hq).J hV.next, fun q => absurd q (by decide)⟩⟩) (fun h2 thr ov od q => kk 1 6 h2 thr ov od (by decide) (by decide) q)


set_option maxRecDepth 100000 in
set_option maxHeartbeats 4000000 in
theorem T_quote {l : Launch} {G : tp_G} {Q : tp_Q} {k n : Nat} {h : tp_H} {x C : Nat} {thr0 : Int32} {ov0 : Int64} {od0 : UInt64} (hl : l.stackTraces = false) (hC : 6 * C + 6 ≤ G.2.2.2 4) (hN : G.2.2.2 4 ≤ 3072) (hkk : k + 1 ≤ room_1.cells ∧ n + 6 ≤ room_1.slots) (hJ : tl_J G x C thr0 ov0 od0 h) (kk : ∀ mc ms h2 thr ov od, mc ≤ 1 → ms ≤ 6 → tl_J G x (C + 1) thr ov od h2 → tp_Run l G mL_law room_1 Q (k + mc) (n + ms) h2 1997 [some (.ref (G.2.2.2 3)), some (.ref x), some (.ref (x + 298)), some (.ref (x + 303)), some (.ref (x + 304)), some (.int (nI (6 * C))), none, none, none] []) : tp_Run l G mL_law room_1 Q k n h 244 [some (.ref (G.2.2.2 3)), some (.ref x), some (.ref (x + 298)), some (.ref (x + 303)), some (.ref (x + 304)), some (.int (nI (6 * C))), none, none, none] [] := by
  obtain ⟨u, π, ρ, us, σ, s, n9, tx, rd, z, hy, pa, R9, nu, du, hs, ov, od, N, P, hS, hV, -, -⟩ := hJ
  have hz := hV.z
  have hv := hV.i
  have hB := hV.B (by omega)
  have h8 := hz.n8
  have h9 := hz.n9
  have hn60 := hV.n60
  have hk0 : k + 0 ≤ room_1.cells ∧ n + 0 ≤ room_1.slots := by omega
  have hk1 : k + 1 ≤ room_1.cells ∧ n + 6 ≤ room_1.slots := hkk
  obtain ⟨p1, e1⟩ : ∃ p, sc G C 1 = p := ⟨_, rfl⟩
  obtain ⟨p2, e2⟩ : ∃ p, sc G C 2 = p := ⟨_, rfl⟩
  by_cases c1 : 1 ≤ p1 ∧ p1 ≤ 3
  · obtain ⟨c, rfl, hc0, hc⟩ := sc_c c1
    by_cases c2 : 100 ≤ p2 ∧ p2 ≤ 2000
    · obtain ⟨r, rfl, hr⟩ := sc_r c2
      exact L_quote hl hC hN hk0 e1 e2 (WL_quote hl hS.cob (X_quote hl hS.1 rfl hV.s6 hz.u8 h8 hz.u9 h9 ⟨hc0, hc⟩ c2) (fun h1 q => by
          obtain ⟨σ1, q⟩ := q
          exact (hS.cls q).oc)) (fun h1 hF => by
        obtain ⟨hh, ⟨σ1, q⟩, rfl⟩ := hF
        have hS1 := (hS.cls q).out (Int32.toInt64 (u (4 + c)))
        exact ⟨_, _, _, hS1.mob, Q_quote hl hS1.mm hV.s6 hc c1 c2, fun h2 hq => ⟨_, _, (hS1.mod hq).J (hV.new (hz.up (by omega) (by omega)) (hv.quote ⟨hc0, hc⟩ hr) (by omega)), fun _ => (va_up_eq _ _ _).trans (congrArg Int32.toInt64 (hz.hd (by omega)))⟩⟩) (fun h2 thr ov od q => kk 0 0 h2 thr ov od (by decide) (by decide) q)
    · exact L_quote hl hC hN hk1 e1 e2 (WX_quote_2 hl hS.cob (X_quote_2 hl hS.1 ⟨hc0, hc⟩ c2) (fun E h1 q => q.1)) (fun h1 hF => by
        obtain ⟨E, -, hF⟩ := hF
        have hS1 := hS.ex hF
        exact ⟨_, _, _, hS1.mob, Q_quote_2 hl hS1.mm c1 c2, fun h2 hq => ⟨_, _, (hS1.mod hq).J hV.next, fun q => absurd q (by decide)⟩⟩) (fun h2 thr ov od q => kk 1 6 h2 thr ov od (by decide) (by decide) q)
  · exact L_quote hl hC hN hk1 e1 e2 (WX_quote_1 hl hS.cob (X_quote_1 hl hS.1 c1) (fun E h1 q => q.1)) (fun h1 hF => by
      obtain ⟨E, -, hF⟩ := hF
      have hS1 := hS.ex hF
      exact ⟨_, _, _, hS1.mob, Q_quote_1 hl hS1.mm c1, fun h2 hq => ⟨_, _, (hS1.mod hq).J hV.next, fun q => absurd q (by decide)⟩⟩) (fun h2 thr ov od q => kk 1 6 h2 thr ov od (by decide) (by decide) q)


set_option maxRecDepth 100000 in
set_option maxHeartbeats 4000000 in
theorem T_lock {l : Launch} {G : tp_G} {Q : tp_Q} {k n : Nat} {h : tp_H} {x C : Nat} {thr0 : Int32} {ov0 : Int64} {od0 : UInt64} (hl : l.stackTraces = false) (hC : 6 * C + 6 ≤ G.2.2.2 4) (hN : G.2.2.2 4 ≤ 3072) (hkk : k + 1 ≤ room_1.cells ∧ n + 6 ≤ room_1.slots) (hJ : tl_J G x C thr0 ov0 od0 h) (kk : ∀ mc ms h2 thr ov od, mc ≤ 1 → ms ≤ 6 → tl_J G x (C + 1) thr ov od h2 → tp_Run l G mL_law room_1 Q (k + mc) (n + ms) h2 1997 [some (.ref (G.2.2.2 3)), some (.ref x), some (.ref (x + 298)), some (.ref (x + 303)), some (.ref (x + 304)), some (.int (nI (6 * C))), none, none, none] []) : tp_Run l G mL_law room_1 Q k n h 312 [some (.ref (G.2.2.2 3)), some (.ref x), some (.ref (x + 298)), some (.ref (x + 303)), some (.ref (x + 304)), some (.int (nI (6 * C))), none, none, none] [] := by
  obtain ⟨u, π, ρ, us, σ, s, n9, tx, rd, z, hy, pa, R9, nu, du, hs, ov, od, N, P, hS, hV, -, -⟩ := hJ
  have hz := hV.z
  have hv := hV.i
  have hB := hV.B (by omega)
  have h8 := hz.n8
  have h9 := hz.n9
  have hn60 := hV.n60
  have hk0 : k + 0 ≤ room_1.cells ∧ n + 0 ≤ room_1.slots := by omega
  have hk1 : k + 1 ≤ room_1.cells ∧ n + 6 ≤ room_1.slots := hkk
  obtain ⟨p1, e1⟩ : ∃ p, sc G C 1 = p := ⟨_, rfl⟩
  obtain ⟨p2, e2⟩ : ∃ p, sc G C 2 = p := ⟨_, rfl⟩
  by_cases c1 : ((0 ≤ p1 ∧ p1 ≤ 3) ∧ (0 ≤ p2 ∧ p2 ≤ 3)) ∧ 0 < p2
  · obtain ⟨w, rfl, hw⟩ := sc_w c1.1.1
    obtain ⟨c, rfl, hc⟩ := sc_w c1.1.2
    have h0c : 0 < c := (tp_lt (a := 0) (by omega) (by omega)).mp c1.2
    exact L_lock hl hC hN hk0 e1 e2 (WL_lock hl hS.cob (X_lock hl hS.1 rfl hV.s6 hz.u8 h8 hz.u9 h9 hw hc h0c) (fun h1 q => by
        obtain ⟨σ1, q⟩ := q
        exact (hS.cls q).oc)) (fun h1 hF => by
      obtain ⟨hh, ⟨σ1, q⟩, rfl⟩ := hF
      have hS1 := (hS.cls q).out (Int32.toInt64 (u 4 + u 0))
      exact ⟨_, _, _, hS1.mob, Q_lock hl hS1.mm hV.s6 hw hc c1, fun h2 hq => ⟨_, _, (hS1.mod hq).J (hV.new (hz.lock hv hw hc h0c).1 (hz.lock hv hw hc h0c).2 (by omega)), fun _ => (va_up_eq _ _ _).trans (congrArg Int32.toInt64 (by rw [hz.hd (show 4 < 16 by omega), hz.hd (show 0 < 16 by omega)]))⟩⟩) (fun h2 thr ov od q => kk 0 0 h2 thr ov od (by decide) (by decide) q)
  · exact L_lock hl hC hN hk1 e1 e2 (WX_lock_1 hl hS.cob (X_lock_1 hl hS.1 c1) (fun E h1 q => q.1)) (fun h1 hF => by
      obtain ⟨E, -, hF⟩ := hF
      have hS1 := hS.ex hF
      exact ⟨_, _, _, hS1.mob, Q_lock_1 hl hS1.mm c1, fun h2 hq => ⟨_, _, (hS1.mod hq).J hV.next, fun q => absurd q (by decide)⟩⟩) (fun h2 thr ov od q => kk 1 6 h2 thr ov od (by decide) (by decide) q)


set_option maxRecDepth 100000 in
set_option maxHeartbeats 4000000 in
theorem T_exchange {l : Launch} {G : tp_G} {Q : tp_Q} {k n : Nat} {h : tp_H} {x C : Nat} {thr0 : Int32} {ov0 : Int64} {od0 : UInt64} (hl : l.stackTraces = false) (hC : 6 * C + 6 ≤ G.2.2.2 4) (hN : G.2.2.2 4 ≤ 3072) (hkk : k + 1 ≤ room_1.cells ∧ n + 6 ≤ room_1.slots) (hJ : tl_J G x C thr0 ov0 od0 h) (kk : ∀ mc ms h2 thr ov od, mc ≤ 1 → ms ≤ 6 → tl_J G x (C + 1) thr ov od h2 → tp_Run l G mL_law room_1 Q (k + mc) (n + ms) h2 1997 [some (.ref (G.2.2.2 3)), some (.ref x), some (.ref (x + 298)), some (.ref (x + 303)), some (.ref (x + 304)), some (.int (nI (6 * C))), none, none, none] []) : tp_Run l G mL_law room_1 Q k n h 380 [some (.ref (G.2.2.2 3)), some (.ref x), some (.ref (x + 298)), some (.ref (x + 303)), some (.ref (x + 304)), some (.int (nI (6 * C))), none, none, none] [] := by
  obtain ⟨u, π, ρ, us, σ, s, n9, tx, rd, z, hy, pa, R9, nu, du, hs, ov, od, N, P, hS, hV, -, -⟩ := hJ
  have hz := hV.z
  have hv := hV.i
  have hB := hV.B (by omega)
  have h8 := hz.n8
  have h9 := hz.n9
  have hn60 := hV.n60
  have hk0 : k + 0 ≤ room_1.cells ∧ n + 0 ≤ room_1.slots := by omega
  have hk1 : k + 1 ≤ room_1.cells ∧ n + 6 ≤ room_1.slots := hkk
  obtain ⟨p1, e1⟩ : ∃ p, sc G C 1 = p := ⟨_, rfl⟩
  obtain ⟨p2, e2⟩ : ∃ p, sc G C 2 = p := ⟨_, rfl⟩
  obtain ⟨p3, e3⟩ : ∃ p, sc G C 3 = p := ⟨_, rfl⟩
  obtain ⟨p4, e4⟩ : ∃ p, sc G C 4 = p := ⟨_, rfl⟩
  by_cases c1 : (0 ≤ p1 ∧ p1 ≤ 3) ∧ (0 ≤ p2 ∧ p2 ≤ 3)
  · obtain ⟨w, rfl, hw⟩ := sc_w c1.1
    obtain ⟨f, rfl, hf⟩ := sc_w c1.2
    by_cases c4 : 0 ≤ p3 ∧ p3 ≤ 3
    · obtain ⟨t, rfl, ht⟩ := sc_w c4
      by_cases c2 : 1 ≤ p4 ∧ p4 ≤ 99999
      · obtain ⟨m, rfl, hm1, hm⟩ := sc_a c2
        by_cases c3 : z_whyEx z w f t (nI m) = 0
        · obtain ⟨g1, g2, g3⟩ := hz.ex hv hB hw hf ht hm c3
          exact L_exchange hl hC hN hk0 e1 e2 e3 e4 (WL_exchange hl hS.cob (X_exchange hl hS.1 rfl hV.s6 hz.u8 h8 hz.u9 h9 hw hf ht c2 (by rw [hz.whyEx hw hf]; exact c3)) (fun h1 q => by
              obtain ⟨σ1, q⟩ := q
              exact (hS.cls q).oc)) (fun h1 hF => by
            obtain ⟨hh, ⟨σ1, q⟩, rfl⟩ := hF
            have hS1 := (hS.cls q).out (Int32.toInt64 (k_net u w f t (nI m)))
            exact ⟨_, _, _, hS1.mob, Q_exchange hl hS1.mm hV.s6 hz.z8 h8 hw hf ht c2 ((hv.mP hz.z8 h8 hB).2.1 w t hw ht) c3, fun h2 hq => ⟨_, _, (hS1.mod hq).J (hV.new g1 g2 (by omega)), fun _ => (va_up_eq _ _ _).trans (congrArg Int32.toInt64 (g3))⟩⟩) (fun h2 thr ov od q => kk 0 0 h2 thr ov od (by decide) (by decide) q)
        · exact L_exchange hl hC hN hk1 e1 e2 e3 e4 (WX_exchange_3 hl hS.cob (X_exchange_3 hl hS.1 hz.u8 h8 hw hf ht c2 (by rw [hz.whyEx hw hf]; exact c3)) (fun E h1 q => q.1)) (fun h1 hF => by
            obtain ⟨E, -, hF⟩ := hF
            have hS1 := hS.ex hF
            exact ⟨_, _, _, hS1.mob, Q_exchange_3 hl hS1.mm hz.z8 h8 hw hf ht c2 c3, fun h2 hq => ⟨_, _, (hS1.mod hq).J hV.next, fun q => absurd q (by decide)⟩⟩) (fun h2 thr ov od q => kk 1 6 h2 thr ov od (by decide) (by decide) q)
      · exact L_exchange hl hC hN hk1 e1 e2 e3 e4 (WX_exchange_2 hl hS.cob (X_exchange_2 hl hS.1 hw hf ht c2) (fun E h1 q => q.1)) (fun h1 hF => by
          obtain ⟨E, -, hF⟩ := hF
          have hS1 := hS.ex hF
          exact ⟨_, _, _, hS1.mob, Q_exchange_2 hl hS1.mm hw hf ht c2, fun h2 hq => ⟨_, _, (hS1.mod hq).J hV.next, fun q => absurd q (by decide)⟩⟩) (fun h2 thr ov od q => kk 1 6 h2 thr ov od (by decide) (by decide) q)
    · exact L_exchange hl hC hN hk1 e1 e2 e3 e4 (WX_exchange_1 hl hS.cob (X_exchange_1b hl hS.1 hw hf c4) (fun E h1 q => q.1)) (fun h1 hF => by
        obtain ⟨E, -, hF⟩ := hF
        have hS1 := hS.ex hF
        exact ⟨_, _, _, hS1.mob, Q_exchange_1b hl hS1.mm hw hf c4, fun h2 hq => ⟨_, _, (hS1.mod hq).J hV.next, fun q => absurd q (by decide)⟩⟩) (fun h2 thr ov od q => kk 1 6 h2 thr ov od (by decide) (by decide) q)
  · exact L_exchange hl hC hN hk1 e1 e2 e3 e4 (WX_exchange_1 hl hS.cob (X_exchange_1 hl hS.1 c1) (fun E h1 q => q.1)) (fun h1 hF => by
      obtain ⟨E, -, hF⟩ := hF
      have hS1 := hS.ex hF
      exact ⟨_, _, _, hS1.mob, Q_exchange_1 hl hS1.mm c1, fun h2 hq => ⟨_, _, (hS1.mod hq).J hV.next, fun q => absurd q (by decide)⟩⟩) (fun h2 thr ov od q => kk 1 6 h2 thr ov od (by decide) (by decide) q)


set_option maxRecDepth 100000 in
set_option maxHeartbeats 4000000 in
theorem T_hold {l : Launch} {G : tp_G} {Q : tp_Q} {k n : Nat} {h : tp_H} {x C : Nat} {thr0 : Int32} {ov0 : Int64} {od0 : UInt64} (hl : l.stackTraces = false) (hC : 6 * C + 6 ≤ G.2.2.2 4) (hN : G.2.2.2 4 ≤ 3072) (hkk : k + 1 ≤ room_1.cells ∧ n + 6 ≤ room_1.slots) (hJ : tl_J G x C thr0 ov0 od0 h) (kk : ∀ mc ms h2 thr ov od, mc ≤ 1 → ms ≤ 6 → tl_J G x (C + 1) thr ov od h2 → tp_Run l G mL_law room_1 Q (k + mc) (n + ms) h2 1997 [some (.ref (G.2.2.2 3)), some (.ref x), some (.ref (x + 298)), some (.ref (x + 303)), some (.ref (x + 304)), some (.int (nI (6 * C))), none, none, none] []) : tp_Run l G mL_law room_1 Q k n h 472 [some (.ref (G.2.2.2 3)), some (.ref x), some (.ref (x + 298)), some (.ref (x + 303)), some (.ref (x + 304)), some (.int (nI (6 * C))), none, none, none] [] := by
  obtain ⟨u, π, ρ, us, σ, s, n9, tx, rd, z, hy, pa, R9, nu, du, hs, ov, od, N, P, hS, hV, -, -⟩ := hJ
  have hz := hV.z
  have hv := hV.i
  have hB := hV.B (by omega)
  have h8 := hz.n8
  have h9 := hz.n9
  have hn60 := hV.n60
  have hk0 : k + 0 ≤ room_1.cells ∧ n + 0 ≤ room_1.slots := by omega
  have hk1 : k + 1 ≤ room_1.cells ∧ n + 6 ≤ room_1.slots := hkk
  obtain ⟨p1, e1⟩ : ∃ p, sc G C 1 = p := ⟨_, rfl⟩
  obtain ⟨p2, e2⟩ : ∃ p, sc G C 2 = p := ⟨_, rfl⟩
  obtain ⟨p3, e3⟩ : ∃ p, sc G C 3 = p := ⟨_, rfl⟩
  by_cases c1 : (0 ≤ p1 ∧ p1 ≤ 3) ∧ (0 ≤ p2 ∧ p2 ≤ 3)
  · obtain ⟨w, rfl, hw⟩ := sc_w c1.1
    obtain ⟨c, rfl, hc⟩ := sc_w c1.2
    by_cases c2 : 1 ≤ p3 ∧ p3 ≤ 99999
    · obtain ⟨m, rfl, hm1, hm⟩ := sc_a c2
      by_cases c3 : z_whyHold z w c (nI m) = 0
      · have hN8 := z_whyHold_8 c3 hz.z8 h8
        exact L_hold hl hC hN hk0 e1 e2 e3 (WL_hold hl hS.cob (X_hold hl hS.1 rfl hV.s6 hz.u8 h8 hz.u9 h9 hw hc c2 (by rw [hz.whyHold hw hc]; exact c3) hN8) (fun h1 q => by
            obtain ⟨σ1, q⟩ := q
            exact (hS.cls q).oc)) (fun h1 hF => by
          obtain ⟨hh, ⟨σ1, q⟩, rfl⟩ := hF
          have hS1 := (hS.cls q).out (Int32.toInt64 (u 8))
          exact ⟨_, _, _, hS1.mob, Q_hold hl hS1.mm hV.s6 hz.z8 h8 hN8 hw hc c2 c3, fun h2 hq => ⟨_, _, (hS1.mod hq).J (hV.new (hz.hold hN8 _) (hv.hold hz.z8 hN8 hB hw hc hm c3) (by omega)), fun _ => (va_up_eq _ _ _).trans (congrArg Int32.toInt64 (hz.hd (by omega)))⟩⟩) (fun h2 thr ov od q => kk 0 0 h2 thr ov od (by decide) (by decide) q)
      · exact L_hold hl hC hN hk1 e1 e2 e3 (WX_hold_3 hl hS.cob (X_hold_3 hl hS.1 hz.u8 h8 hw hc c2 (by rw [hz.whyHold hw hc]; exact c3)) (fun E h1 q => q.1)) (fun h1 hF => by
          obtain ⟨E, -, hF⟩ := hF
          have hS1 := hS.ex hF
          exact ⟨_, _, _, hS1.mob, Q_hold_3 hl hS1.mm hz.z8 h8 hw hc c2 c3, fun h2 hq => ⟨_, _, (hS1.mod hq).J hV.next, fun q => absurd q (by decide)⟩⟩) (fun h2 thr ov od q => kk 1 6 h2 thr ov od (by decide) (by decide) q)
    · exact L_hold hl hC hN hk1 e1 e2 e3 (WX_hold_2 hl hS.cob (X_hold_2 hl hS.1 hw hc c2) (fun E h1 q => q.1)) (fun h1 hF => by
        obtain ⟨E, -, hF⟩ := hF
        have hS1 := hS.ex hF
        exact ⟨_, _, _, hS1.mob, Q_hold_2 hl hS1.mm hw hc c2, fun h2 hq => ⟨_, _, (hS1.mod hq).J hV.next, fun q => absurd q (by decide)⟩⟩) (fun h2 thr ov od q => kk 1 6 h2 thr ov od (by decide) (by decide) q)
  · exact L_hold hl hC hN hk1 e1 e2 e3 (WX_hold_1 hl hS.cob (X_hold_1 hl hS.1 c1) (fun E h1 q => q.1)) (fun h1 hF => by
      obtain ⟨E, -, hF⟩ := hF
      have hS1 := hS.ex hF
      exact ⟨_, _, _, hS1.mob, Q_hold_1 hl hS1.mm c1, fun h2 hq => ⟨_, _, (hS1.mod hq).J hV.next, fun q => absurd q (by decide)⟩⟩) (fun h2 thr ov od q => kk 1 6 h2 thr ov od (by decide) (by decide) q)


set_option maxRecDepth 100000 in
set_option maxHeartbeats 4000000 in
theorem T_pay {l : Launch} {G : tp_G} {Q : tp_Q} {k n : Nat} {h : tp_H} {x C : Nat} {thr0 : Int32} {ov0 : Int64} {od0 : UInt64} (hl : l.stackTraces = false) (hC : 6 * C + 6 ≤ G.2.2.2 4) (hN : G.2.2.2 4 ≤ 3072) (hkk : k + 1 ≤ room_1.cells ∧ n + 6 ≤ room_1.slots) (hJ : tl_J G x C thr0 ov0 od0 h) (kk : ∀ mc ms h2 thr ov od, mc ≤ 1 → ms ≤ 6 → tl_J G x (C + 1) thr ov od h2 → tp_Run l G mL_law room_1 Q (k + mc) (n + ms) h2 1997 [some (.ref (G.2.2.2 3)), some (.ref x), some (.ref (x + 298)), some (.ref (x + 303)), some (.ref (x + 304)), some (.int (nI (6 * C))), none, none, none] []) : tp_Run l G mL_law room_1 Q k n h 552 [some (.ref (G.2.2.2 3)), some (.ref x), some (.ref (x + 298)), some (.ref (x + 303)), some (.ref (x + 304)), some (.int (nI (6 * C))), none, none, none] [] := by
  obtain ⟨u, π, ρ, us, σ, s, n9, tx, rd, z, hy, pa, R9, nu, du, hs, ov, od, N, P, hS, hV, -, -⟩ := hJ
  have hz := hV.z
  have hv := hV.i
  have hB := hV.B (by omega)
  have h8 := hz.n8
  have h9 := hz.n9
  have hn60 := hV.n60
  have hk0 : k + 0 ≤ room_1.cells ∧ n + 0 ≤ room_1.slots := by omega
  have hk1 : k + 1 ≤ room_1.cells ∧ n + 6 ≤ room_1.slots := hkk
  obtain ⟨p1, e1⟩ : ∃ p, sc G C 1 = p := ⟨_, rfl⟩
  obtain ⟨p2, e2⟩ : ∃ p, sc G C 2 = p := ⟨_, rfl⟩
  by_cases c1 : 0 ≤ p1 ∧ p1 ≤ z 8 - 1
  · obtain ⟨j, rfl, hj⟩ := sc_j (by rw [hz.z8] at c1; exact c1) h8
    by_cases c2 : 1 ≤ p2
    · obtain ⟨D, hD, hrH, hrP⟩ := hv.2.1
      obtain ⟨w, c, k9, d, ⟨hw, hc, hk9, hd⟩, ⟨r0, r1⟩, r3, r4⟩ := hrH j hj
      have e3 : u (96 + 5 * j + 3) = z (96 + 5 * j + 3) := hz.ho (by omega) (by omega)
      by_cases c3 : z (96 + 5 * j + 3) < p2
      · exact L_pay hl hC hN hk1 e1 e2 (WX_pay_3 hl hS.cob (X_pay_3 hl hS.1 hz.u8 h8 hz.u9 h9 hj c2 (fun q => absurd c3 (Int32.not_lt.mpr (by rw [← e3]; exact q.1)))) (fun E h1 q => q.1)) (fun h1 hF => by
          obtain ⟨E, -, hF⟩ := hF
          have hS1 := hS.ex hF
          exact ⟨_, _, _, hS1.mob, Q_pay_3 hl hS1.mm (by omega) c1 c2 c3, fun h2 hq => ⟨_, _, (hS1.mod hq).J hV.next, fun q => absurd q (by decide)⟩⟩) (fun h2 thr ov od q => kk 1 6 h2 thr ov od (by decide) (by decide) q)
      · by_cases c4 : P = 12
        · exact L_pay hl hC hN hk1 e1 e2 (WX_pay_3 hl hS.cob (X_pay_3 hl hS.1 hz.u8 h8 hz.u9 h9 hj c2 (fun q => absurd q.2 (by omega))) (fun E h1 q => q.1)) (fun h1 hF => by
            obtain ⟨E, -, hF⟩ := hF
            have hS1 := hS.ex hF
            exact ⟨_, _, _, hS1.mob, Q_pay_3b hl hS1.mm (by omega) c1 c2 c3 (by rw [hz.z9, c4]; rfl), fun h2 hq => ⟨_, _, (hS1.mod hq).J hV.next, fun q => absurd q (by decide)⟩⟩) (fun h2 thr ov od q => kk 1 6 h2 thr ov od (by decide) (by decide) q)
        · obtain ⟨m, rfl, hm⟩ := tp_of (Int32.le_trans (by decide) c2) (by have := Int32.not_lt.mp c3; rw [r3] at this; exact this) (by omega)
          exact L_pay hl hC hN hk0 e1 e2 (WL_pay hl hS.cob (X_pay hl hS.1 rfl hV.s6 hz.u8 h8 hz.u9 h9 hj hw hc ((hz.ho (by omega) (by omega)).trans r0) ((hz.ho (by omega) (by omega)).trans r1) c2 (by rw [e3]; exact Int32.not_lt.mp c3) (by omega)) (fun h1 q => by
              obtain ⟨σ1, π1, ρ1, q⟩ := q
              exact (hS.cls q).oc)) (fun h1 hF => by
            obtain ⟨hh, ⟨σ1, π1, ρ1, q⟩, rfl⟩ := hF
            have hS1 := (hS.cls q).out (Int32.toInt64 (nI P))
            exact ⟨_, _, _, hS1.mob, Q_pay hl hS1.mm hV.s6 hz.z8 h8 hz.z9 (by omega) hj c1 hw hc r0 r1 c2 c3 (by rw [hz.z9]; exact fun q => c4 ((tp_eq (b := 12) (by omega) (by omega)).mp q)), fun h2 hq => ⟨_, _, (hS1.mod hq).J (hV.new (hz.pay hj (by omega) hw hc _) (hv.pay hz.z8 h8 hz.z9 hj hw hc r0 r1 r3 hk9 hm) (by omega)), fun _ => (va_up_eq _ _ _).trans (congrArg Int32.toInt64 (rfl))⟩⟩) (fun h2 thr ov od q => kk 0 0 h2 thr ov od (by decide) (by decide) q)
    · exact L_pay hl hC hN hk1 e1 e2 (WX_pay_2 hl hS.cob (X_pay_2 hl hS.1 hz.u8 h8 hj c2) (fun E h1 q => q.1)) (fun h1 hF => by
        obtain ⟨E, -, hF⟩ := hF
        have hS1 := hS.ex hF
        exact ⟨_, _, _, hS1.mob, Q_pay_2 hl hS1.mm c1 c2, fun h2 hq => ⟨_, _, (hS1.mod hq).J hV.next, fun q => absurd q (by decide)⟩⟩) (fun h2 thr ov od q => kk 1 6 h2 thr ov od (by decide) (by decide) q)
  · exact L_pay hl hC hN hk1 e1 e2 (WX_pay_1 hl hS.cob (X_pay_1 hl hS.1 hz.u8 h8 (by rw [hz.hd (show 8 < 16 by omega)]; exact c1)) (fun E h1 q => q.1)) (fun h1 hF => by
      obtain ⟨E, -, hF⟩ := hF
      have hS1 := hS.ex hF
      exact ⟨_, _, _, hS1.mob, Q_pay_1 hl hS1.mm c1, fun h2 hq => ⟨_, _, (hS1.mod hq).J hV.next, fun q => absurd q (by decide)⟩⟩) (fun h2 thr ov od q => kk 1 6 h2 thr ov od (by decide) (by decide) q)


set_option maxRecDepth 100000 in
set_option maxHeartbeats 4000000 in
theorem T_letGo {l : Launch} {G : tp_G} {Q : tp_Q} {k n : Nat} {h : tp_H} {x C : Nat} {thr0 : Int32} {ov0 : Int64} {od0 : UInt64} (hl : l.stackTraces = false) (hC : 6 * C + 6 ≤ G.2.2.2 4) (hN : G.2.2.2 4 ≤ 3072) (hkk : k + 1 ≤ room_1.cells ∧ n + 6 ≤ room_1.slots) (hJ : tl_J G x C thr0 ov0 od0 h) (kk : ∀ mc ms h2 thr ov od, mc ≤ 1 → ms ≤ 6 → tl_J G x (C + 1) thr ov od h2 → tp_Run l G mL_law room_1 Q (k + mc) (n + ms) h2 1997 [some (.ref (G.2.2.2 3)), some (.ref x), some (.ref (x + 298)), some (.ref (x + 303)), some (.ref (x + 304)), some (.int (nI (6 * C))), none, none, none] []) : tp_Run l G mL_law room_1 Q k n h 620 [some (.ref (G.2.2.2 3)), some (.ref x), some (.ref (x + 298)), some (.ref (x + 303)), some (.ref (x + 304)), some (.int (nI (6 * C))), none, none, none] [] := by
  obtain ⟨u, π, ρ, us, σ, s, n9, tx, rd, z, hy, pa, R9, nu, du, hs, ov, od, N, P, hS, hV, -, -⟩ := hJ
  have hz := hV.z
  have hv := hV.i
  have hB := hV.B (by omega)
  have h8 := hz.n8
  have h9 := hz.n9
  have hn60 := hV.n60
  have hk0 : k + 0 ≤ room_1.cells ∧ n + 0 ≤ room_1.slots := by omega
  have hk1 : k + 1 ≤ room_1.cells ∧ n + 6 ≤ room_1.slots := hkk
  obtain ⟨p1, e1⟩ : ∃ p, sc G C 1 = p := ⟨_, rfl⟩
  by_cases c1 : 0 ≤ p1 ∧ p1 ≤ z 8 - 1
  · obtain ⟨j, rfl, hj⟩ := sc_j (by rw [hz.z8] at c1; exact c1) h8
    exact L_letGo hl hC hN hk0 e1 (WL_letGo hl hS.cob (X_letGo hl hS.1 rfl hV.s6 hz.u8 h8 hz.u9 h9 hj) (fun h1 q => by
        obtain ⟨σ1, π1, ρ1, q⟩ := q
        exact (hS.cls q).oc)) (fun h1 hF => by
      obtain ⟨hh, ⟨σ1, π1, ρ1, q⟩, rfl⟩ := hF
      have hS1 := (hS.cls q).out (Int32.toInt64 (u (96 + 5 * j + 3)))
      exact ⟨_, _, _, hS1.mob, Q_letGo hl hS1.mm hV.s6 hz.z8 h8 hj c1, fun h2 hq => ⟨_, _, (hS1.mod hq).J (hV.new (hz.drop hj) (hv.drop hz.z8 h8 hj) (by omega)), fun _ => (va_up_eq _ _ _).trans (congrArg Int32.toInt64 (hz.ho (by omega) (by omega)))⟩⟩) (fun h2 thr ov od q => kk 0 0 h2 thr ov od (by decide) (by decide) q)
  · exact L_letGo hl hC hN hk1 e1 (WX_letGo_1 hl hS.cob (X_letGo_1 hl hS.1 hz.u8 h8 (by rw [hz.hd (show 8 < 16 by omega)]; exact c1)) (fun E h1 q => q.1)) (fun h1 hF => by
      obtain ⟨E, -, hF⟩ := hF
      have hS1 := hS.ex hF
      exact ⟨_, _, _, hS1.mob, Q_letGo_1 hl hS1.mm c1, fun h2 hq => ⟨_, _, (hS1.mod hq).J hV.next, fun q => absurd q (by decide)⟩⟩) (fun h2 thr ov od q => kk 1 6 h2 thr ov od (by decide) (by decide) q)


set_option maxRecDepth 100000 in
set_option maxHeartbeats 4000000 in
theorem T_dispute {l : Launch} {G : tp_G} {Q : tp_Q} {k n : Nat} {h : tp_H} {x C : Nat} {thr0 : Int32} {ov0 : Int64} {od0 : UInt64} (hl : l.stackTraces = false) (hC : 6 * C + 6 ≤ G.2.2.2 4) (hN : G.2.2.2 4 ≤ 3072) (hkk : k + 1 ≤ room_1.cells ∧ n + 6 ≤ room_1.slots) (hJ : tl_J G x C thr0 ov0 od0 h) (kk : ∀ mc ms h2 thr ov od, mc ≤ 1 → ms ≤ 6 → tl_J G x (C + 1) thr ov od h2 → tp_Run l G mL_law room_1 Q (k + mc) (n + ms) h2 1997 [some (.ref (G.2.2.2 3)), some (.ref x), some (.ref (x + 298)), some (.ref (x + 303)), some (.ref (x + 304)), some (.int (nI (6 * C))), none, none, none] []) : tp_Run l G mL_law room_1 Q k n h 676 [some (.ref (G.2.2.2 3)), some (.ref x), some (.ref (x + 298)), some (.ref (x + 303)), some (.ref (x + 304)), some (.int (nI (6 * C))), none, none, none] [] := by
  obtain ⟨u, π, ρ, us, σ, s, n9, tx, rd, z, hy, pa, R9, nu, du, hs, ov, od, N, P, hS, hV, -, -⟩ := hJ
  have hz := hV.z
  have hv := hV.i
  have hB := hV.B (by omega)
  have h8 := hz.n8
  have h9 := hz.n9
  have hn60 := hV.n60
  have hk0 : k + 0 ≤ room_1.cells ∧ n + 0 ≤ room_1.slots := by omega
  have hk1 : k + 1 ≤ room_1.cells ∧ n + 6 ≤ room_1.slots := hkk
  obtain ⟨p1, e1⟩ : ∃ p, sc G C 1 = p := ⟨_, rfl⟩
  by_cases c1 : 0 ≤ p1 ∧ p1 ≤ z 9 - 1
  · obtain ⟨j, rfl, hj⟩ := sc_j12 (by rw [hz.z9] at c1; exact c1) h9
    by_cases c2 : z (136 + 5 * j + 4) = 0 ∧ z 4 ≤ z (136 + 5 * j + 3) + 30
    · obtain ⟨D, hD, hrH, hrP⟩ := hv.2.1
      obtain ⟨w, c, a9, d, ⟨hw, hc, ha9, hd⟩, ⟨r0, r1⟩, r2, r3⟩ := hrP j hj
      have eu : u (136 + 5 * j + 2) = nI a9 := (hz.pa (by omega) (by omega)).trans r2
      have hzn : zr N P (z_in (va_up u (136 + 5 * j + 4) 1) w c (u (136 + 5 * j + 2))) (z_in (va_up z (136 + 5 * j + 4) 1) w c (z (136 + 5 * j + 2))) := by
        rw [eu, r2]
        exact (hz.up (by omega) (by omega)).in hw hc _
      have hvn : iv (1000000 * (C - n9) + 1000000) N P (z_in (va_up z (136 + 5 * j + 4) 1) w c (z (136 + 5 * j + 2))) := by
        rw [r2]
        exact ((hv.status h8).in hw hc (by omega) (by omega)).mono (by omega)
      exact L_dispute hl hC hN hk0 e1 (WL_dispute hl hS.cob (X_dispute hl hS.1 rfl hV.s6 hz.u8 h8 hz.u9 h9 hj hw hc ((hz.pa (by omega) (by omega)).trans r0) ((hz.pa (by omega) (by omega)).trans r1) ((hz.may hv hj).mpr c2)) (fun h1 q => by
          obtain ⟨σ1, q⟩ := q
          exact (hS.cls q).oc)) (fun h1 hF => by
        obtain ⟨hh, ⟨σ1, q⟩, rfl⟩ := hF
        have hS1 := (hS.cls q).out (Int32.toInt64 (z_in (va_up u (136 + 5 * j + 4) 1) w c (u (136 + 5 * j + 2)) (z_at w c)))
        exact ⟨_, _, _, hS1.mob, Q_dispute hl hS1.mm hV.s6 (by omega) c1 hw hc r0 r1 c2, fun h2 hq => ⟨_, _, (hS1.mod hq).J (hV.new hzn hvn (by omega)), fun _ => (va_up_eq _ _ _).trans (congrArg Int32.toInt64 (hzn.ba hw hc))⟩⟩) (fun h2 thr ov od q => kk 0 0 h2 thr ov od (by decide) (by decide) q)
    · exact L_dispute hl hC hN hk1 e1 (WX_dispute_2 hl hS.cob (X_dispute_2 hl hS.1 hz.u9 h9 hj (fun q => c2 ((hz.may hv hj).mp q))) (fun E h1 q => q.1)) (fun h1 hF => by
        obtain ⟨E, -, hF⟩ := hF
        have hS1 := hS.ex hF
        exact ⟨_, _, _, hS1.mob, Q_dispute_2 hl hS1.mm (by omega) c1 c2, fun h2 hq => ⟨_, _, (hS1.mod hq).J hV.next, fun q => absurd q (by decide)⟩⟩) (fun h2 thr ov od q => kk 1 6 h2 thr ov od (by decide) (by decide) q)
  · exact L_dispute hl hC hN hk1 e1 (WX_dispute_1 hl hS.cob (X_dispute_1 hl hS.1 hz.u9 h9 (by rw [hz.hd (show 9 < 16 by omega)]; exact c1)) (fun E h1 q => q.1)) (fun h1 hF => by
      obtain ⟨E, -, hF⟩ := hF
      have hS1 := hS.ex hF
      exact ⟨_, _, _, hS1.mob, Q_dispute_1 hl hS1.mm c1, fun h2 hq => ⟨_, _, (hS1.mod hq).J hV.next, fun q => absurd q (by decide)⟩⟩) (fun h2 thr ov od q => kk 1 6 h2 thr ov od (by decide) (by decide) q)


set_option maxRecDepth 100000 in
set_option maxHeartbeats 4000000 in
theorem T_decide {l : Launch} {G : tp_G} {Q : tp_Q} {k n : Nat} {h : tp_H} {x C : Nat} {thr0 : Int32} {ov0 : Int64} {od0 : UInt64} (hl : l.stackTraces = false) (hC : 6 * C + 6 ≤ G.2.2.2 4) (hN : G.2.2.2 4 ≤ 3072) (hkk : k + 1 ≤ room_1.cells ∧ n + 6 ≤ room_1.slots) (hJ : tl_J G x C thr0 ov0 od0 h) (kk : ∀ mc ms h2 thr ov od, mc ≤ 1 → ms ≤ 6 → tl_J G x (C + 1) thr ov od h2 → tp_Run l G mL_law room_1 Q (k + mc) (n + ms) h2 1997 [some (.ref (G.2.2.2 3)), some (.ref x), some (.ref (x + 298)), some (.ref (x + 303)), some (.ref (x + 304)), some (.int (nI (6 * C))), none, none, none] []) : tp_Run l G mL_law room_1 Q k n h 732 [some (.ref (G.2.2.2 3)), some (.ref x), some (.ref (x + 298)), some (.ref (x + 303)), some (.ref (x + 304)), some (.int (nI (6 * C))), none, none, none] [] := by
  obtain ⟨u, π, ρ, us, σ, s, n9, tx, rd, z, hy, pa, R9, nu, du, hs, ov, od, N, P, hS, hV, -, -⟩ := hJ
  have hz := hV.z
  have hv := hV.i
  have hB := hV.B (by omega)
  have h8 := hz.n8
  have h9 := hz.n9
  have hn60 := hV.n60
  have hk0 : k + 0 ≤ room_1.cells ∧ n + 0 ≤ room_1.slots := by omega
  have hk1 : k + 1 ≤ room_1.cells ∧ n + 6 ≤ room_1.slots := hkk
  obtain ⟨p1, e1⟩ : ∃ p, sc G C 1 = p := ⟨_, rfl⟩
  obtain ⟨p2, e2⟩ : ∃ p, sc G C 2 = p := ⟨_, rfl⟩
  by_cases c1 : 0 ≤ p1 ∧ p1 ≤ z 9 - 1
  · obtain ⟨j, rfl, hj⟩ := sc_j12 (by rw [hz.z9] at c1; exact c1) h9
    by_cases c2 : z (136 + 5 * j + 4) = 1
    · obtain ⟨D, hD, hrH, hrP⟩ := hv.2.1
      obtain ⟨w, c, a9, d, ⟨hw, hc, ha9, hd⟩, ⟨r0, r1⟩, r2, r3⟩ := hrP j hj
      have eu : u (136 + 5 * j + 2) = nI a9 := (hz.pa (by omega) (by omega)).trans r2
      have est : u (136 + 5 * j + 4) = 1 := (hz.pa (by omega) (by omega)).trans c2
      have hz3 : ∀ v, zr N P (va_up u (136 + 5 * j + 4) v) (va_up z (136 + 5 * j + 4) v) := fun v => hz.up (by omega) (by omega)
      by_cases c3 : p2 = 0
      · have hzn : zr N P (z_back (va_up u (136 + 5 * j + 4) 3) w c (u (136 + 5 * j + 2))) (z_back (va_up z (136 + 5 * j + 4) 3) w c (z (136 + 5 * j + 2))) := by
          rw [eu, r2]
          exact ((hz3 3).back hw hc _).1
        have htn : z_taken (va_up u (136 + 5 * j + 4) 3) w c (u (136 + 5 * j + 2)) = z_taken (va_up z (136 + 5 * j + 4) 3) w c (z (136 + 5 * j + 2)) := by
          rw [eu, r2]
          exact ((hz3 3).back hw hc _).2
        have hvn : iv (1000000 * (C - n9) + 1000000) N P (z_back (va_up z (136 + 5 * j + 4) 3) w c (z (136 + 5 * j + 2))) := by
          rw [r2]
          exact ((hv.status h8).back (hz3 3).z8 h8 hB hw hc ha9).mono (by omega)
        exact L_decide hl hC hN hk0 e1 e2 (b2 := 0) (if_pos c3).symm (WL_decide hl hS.cob (X_decide_l hl hS.1 rfl hV.s6 hz.u8 h8 hz.u9 h9 hj hw hc ((hz.pa (by omega) (by omega)).trans r0) ((hz.pa (by omega) (by omega)).trans r1) est) (fun h1 q => by
            obtain ⟨σ1, q⟩ := q
            exact (hS.cls q).oc)) (fun h1 hF => by
          obtain ⟨hh, ⟨σ1, q⟩, rfl⟩ := hF
          have hS1 := (hS.cls q).out (Int32.toInt64 (u (136 + 5 * j + 2) - z_taken (va_up u (136 + 5 * j + 4) 3) w c (u (136 + 5 * j + 2))))
          exact ⟨_, _, _, hS1.mob, Q_decide_l hl hS1.mm hV.s6 hz.z8 h8 (by omega) c1 hw hc r0 r1 c2, fun h2 hq => ⟨_, _, (hS1.mod hq).J (hV.new hzn hvn (by omega)), fun _ => (va_up_eq _ _ _).trans (congrArg Int32.toInt64 (by rw [htn, eu, r2]))⟩⟩) (fun h2 thr ov od q => kk 0 0 h2 thr ov od (by decide) (by decide) q)
      · exact L_decide hl hC hN hk0 e1 e2 (b2 := 1) (if_neg c3).symm (WL_decide hl hS.cob (X_decide_w hl hS.1 rfl hV.s6 hz.u8 h8 hz.u9 h9 hj est (by decide)) (fun h1 q => by
            obtain ⟨σ1, q⟩ := q
            exact (hS.cls q).oc)) (fun h1 hF => by
          obtain ⟨hh, ⟨σ1, q⟩, rfl⟩ := hF
          have hS1 := (hS.cls q).out (Int32.toInt64 (0))
          exact ⟨_, _, _, hS1.mob, Q_decide_w hl hS1.mm hV.s6 (by omega) c1 c2 (by decide), fun h2 hq => ⟨_, _, (hS1.mod hq).J (hV.new (hz3 2) (hv.status h8) (by omega)), fun _ => (va_up_eq _ _ _).trans (congrArg Int32.toInt64 (rfl))⟩⟩) (fun h2 thr ov od q => kk 0 0 h2 thr ov od (by decide) (by decide) q)
    · exact L_decide hl hC hN hk1 e1 e2 (b2 := if p2 = 0 then 0 else 1) rfl (WX_decide_2 hl hS.cob (X_decide_2 hl hS.1 hz.u9 h9 hj (by rw [hz.pa (by omega) (by omega)]; exact c2)) (fun E h1 q => q.1)) (fun h1 hF => by
        obtain ⟨E, -, hF⟩ := hF
        have hS1 := hS.ex hF
        exact ⟨_, _, _, hS1.mob, Q_decide_2 hl hS1.mm (by omega) c1 c2, fun h2 hq => ⟨_, _, (hS1.mod hq).J hV.next, fun q => absurd q (by decide)⟩⟩) (fun h2 thr ov od q => kk 1 6 h2 thr ov od (by decide) (by decide) q)
  · exact L_decide hl hC hN hk1 e1 e2 (b2 := if p2 = 0 then 0 else 1) rfl (WX_decide_1 hl hS.cob (X_decide_1 hl hS.1 hz.u9 h9 (by rw [hz.hd (show 9 < 16 by omega)]; exact c1)) (fun E h1 q => q.1)) (fun h1 hF => by
      obtain ⟨E, -, hF⟩ := hF
      have hS1 := hS.ex hF
      exact ⟨_, _, _, hS1.mob, Q_decide_1 hl hS1.mm c1, fun h2 hq => ⟨_, _, (hS1.mod hq).J hV.next, fun q => absurd q (by decide)⟩⟩) (fun h2 thr ov od q => kk 1 6 h2 thr ov od (by decide) (by decide) q)


set_option maxRecDepth 100000 in
set_option maxHeartbeats 4000000 in
theorem T_close {l : Launch} {G : tp_G} {Q : tp_Q} {k n : Nat} {h : tp_H} {x C : Nat} {thr0 : Int32} {ov0 : Int64} {od0 : UInt64} (hl : l.stackTraces = false) (hC : 6 * C + 6 ≤ G.2.2.2 4) (hN : G.2.2.2 4 ≤ 3072) (hkk : k + 1 ≤ room_1.cells ∧ n + 6 ≤ room_1.slots) (hJ : tl_J G x C thr0 ov0 od0 h) (kk : ∀ mc ms h2 thr ov od, mc ≤ 1 → ms ≤ 6 → tl_J G x (C + 1) thr ov od h2 → tp_Run l G mL_law room_1 Q (k + mc) (n + ms) h2 1997 [some (.ref (G.2.2.2 3)), some (.ref x), some (.ref (x + 298)), some (.ref (x + 303)), some (.ref (x + 304)), some (.int (nI (6 * C))), none, none, none] []) : tp_Run l G mL_law room_1 Q k n h 816 [some (.ref (G.2.2.2 3)), some (.ref x), some (.ref (x + 298)), some (.ref (x + 303)), some (.ref (x + 304)), some (.int (nI (6 * C))), none, none, none] [] := by
  obtain ⟨u, π, ρ, us, σ, s, n9, tx, rd, z, hy, pa, R9, nu, du, hs, ov, od, N, P, hS, hV, -, -⟩ := hJ
  have hz := hV.z
  have hv := hV.i
  have hB := hV.B (by omega)
  have h8 := hz.n8
  have h9 := hz.n9
  have hn60 := hV.n60
  have hk0 : k + 0 ≤ room_1.cells ∧ n + 0 ≤ room_1.slots := by omega
  have hk1 : k + 1 ≤ room_1.cells ∧ n + 6 ≤ room_1.slots := hkk
  obtain ⟨p1, e1⟩ : ∃ p, sc G C 1 = p := ⟨_, rfl⟩
  by_cases c1 : 0 ≤ p1 ∧ p1 ≤ 3
  · obtain ⟨w, rfl, hw⟩ := sc_w c1
    by_cases c2 : z_whyClose z w = 0
    · obtain ⟨g1, g2, g3⟩ := hz.close hv hB hw c2
      exact L_close hl hC hN hk0 e1 (WL_close hl hS.cob (X_close hl hS.1 rfl hV.s6 hz.u8 h8 hz.u9 h9 hw (by rw [hz.whyClose hw]; exact c2)) (fun h1 q => by
          obtain ⟨σ1, q⟩ := q
          exact (hS.cls q).oc)) (fun h1 hF => by
        obtain ⟨hh, ⟨σ1, q⟩, rfl⟩ := hF
        have hS1 := (hS.cls q).out (Int32.toInt64 (k_closeT u w 3 (z_at w 0)))
        exact ⟨_, _, _, hS1.mob, Q_close hl hS1.mm hV.s6 hw hz.z8 h8 hz.z9 h9 c2, fun h2 hq => ⟨_, _, (hS1.mod hq).J (hV.new g1 g2 (by omega)), fun _ => (va_up_eq _ _ _).trans (congrArg Int32.toInt64 (g3))⟩⟩) (fun h2 thr ov od q => kk 0 0 h2 thr ov od (by decide) (by decide) q)
    · exact L_close hl hC hN hk1 e1 (WX_close_2 hl hS.cob (X_close_2 hl hS.1 hz.u8 h8 hz.u9 h9 hw (by rw [hz.whyClose hw]; exact c2)) (fun E h1 q => q.1)) (fun h1 hF => by
        obtain ⟨E, -, hF⟩ := hF
        have hS1 := hS.ex hF
        exact ⟨_, _, _, hS1.mob, Q_close_2 hl hS1.mm hw hz.z8 h8 hz.z9 h9 c2, fun h2 hq => ⟨_, _, (hS1.mod hq).J hV.next, fun q => absurd q (by decide)⟩⟩) (fun h2 thr ov od q => kk 1 6 h2 thr ov od (by decide) (by decide) q)
  · exact L_close hl hC hN hk1 e1 (WX_close_1 hl hS.cob (X_close_1 hl hS.1 c1) (fun E h1 q => q.1)) (fun h1 hF => by
      obtain ⟨E, -, hF⟩ := hF
      have hS1 := hS.ex hF
      exact ⟨_, _, _, hS1.mob, Q_close_1 hl hS1.mm c1, fun h2 hq => ⟨_, _, (hS1.mod hq).J hV.next, fun q => absurd q (by decide)⟩⟩) (fun h2 thr ov od q => kk 1 6 h2 thr ov od (by decide) (by decide) q)


set_option maxRecDepth 100000 in
set_option maxHeartbeats 4000000 in
theorem T_pass {l : Launch} {G : tp_G} {Q : tp_Q} {k n : Nat} {h : tp_H} {x C : Nat} {thr0 : Int32} {ov0 : Int64} {od0 : UInt64} (hl : l.stackTraces = false) (hC : 6 * C + 6 ≤ G.2.2.2 4) (hN : G.2.2.2 4 ≤ 3072) (hkk : k + 1 ≤ room_1.cells ∧ n + 6 ≤ room_1.slots) (hJ : tl_J G x C thr0 ov0 od0 h) (kk : ∀ mc ms h2 thr ov od, mc ≤ 1 → ms ≤ 6 → tl_J G x (C + 1) thr ov od h2 → tp_Run l G mL_law room_1 Q (k + mc) (n + ms) h2 1997 [some (.ref (G.2.2.2 3)), some (.ref x), some (.ref (x + 298)), some (.ref (x + 303)), some (.ref (x + 304)), some (.int (nI (6 * C))), none, none, none] []) : tp_Run l G mL_law room_1 Q k n h 872 [some (.ref (G.2.2.2 3)), some (.ref x), some (.ref (x + 298)), some (.ref (x + 303)), some (.ref (x + 304)), some (.int (nI (6 * C))), none, none, none] [] := by
  obtain ⟨u, π, ρ, us, σ, s, n9, tx, rd, z, hy, pa, R9, nu, du, hs, ov, od, N, P, hS, hV, -, -⟩ := hJ
  have hz := hV.z
  have hv := hV.i
  have hB := hV.B (by omega)
  have h8 := hz.n8
  have h9 := hz.n9
  have hn60 := hV.n60
  have hk0 : k + 0 ≤ room_1.cells ∧ n + 0 ≤ room_1.slots := by omega
  have hk1 : k + 1 ≤ room_1.cells ∧ n + 6 ≤ room_1.slots := hkk
  obtain ⟨p1, e1⟩ : ∃ p, sc G C 1 = p := ⟨_, rfl⟩
  by_cases c1 : 1 ≤ p1 ∧ p1 ≤ 60
  · obtain ⟨d, rfl, hd⟩ := sc_d c1
    by_cases c2 : z 4 + nI d ≤ 5000
    · obtain ⟨N2, g1, g2, g3⟩ := hz.pass hv hd c2
      exact L_pass hl hC hN hk0 e1 (WL_pass hl hS.cob (X_pass hl hS.1 rfl hV.s6 hz.u8 h8 hz.u9 h9 c1 (by rw [hz.hd (show 4 < 16 by omega)]; exact c2)) (fun h1 q => by
          obtain ⟨σ1, π1, ρ1, q⟩ := q
          exact (hS.cls q).oc)) (fun h1 hF => by
        obtain ⟨hh, ⟨σ1, π1, ρ1, q⟩, rfl⟩ := hF
        have hS1 := (hS.cls q).out (Int32.toInt64 ((k_sweep N (va_up u 4 (u 4 + nI d)) 0).2))
        exact ⟨_, _, _, hS1.mob, Q_pass hl hS1.mm hV.s6 hz.z8 h8 hd.2 c1 c2, fun h2 hq => ⟨_, _, (hS1.mod hq).J (hV.new g1 g2 (by omega)), fun _ => (va_up_eq _ _ _).trans (congrArg Int32.toInt64 (g3))⟩⟩) (fun h2 thr ov od q => kk 0 0 h2 thr ov od (by decide) (by decide) q)
    · exact L_pass hl hC hN hk1 e1 (WX_pass_2 hl hS.cob (X_pass_2 hl hS.1 c1 (by rw [hz.hd (show 4 < 16 by omega)]; exact c2)) (fun E h1 q => q.1)) (fun h1 hF => by
        obtain ⟨E, -, hF⟩ := hF
        have hS1 := hS.ex hF
        exact ⟨_, _, _, hS1.mob, Q_pass_2 hl hS1.mm c1 c2, fun h2 hq => ⟨_, _, (hS1.mod hq).J hV.next, fun q => absurd q (by decide)⟩⟩) (fun h2 thr ov od q => kk 1 6 h2 thr ov od (by decide) (by decide) q)
  · exact L_pass hl hC hN hk1 e1 (WX_pass_1 hl hS.cob (X_pass_1 hl hS.1 c1) (fun E h1 q => q.1)) (fun h1 hF => by
      obtain ⟨E, -, hF⟩ := hF
      have hS1 := hS.ex hF
      exact ⟨_, _, _, hS1.mob, Q_pass_1 hl hS1.mm c1, fun h2 hq => ⟨_, _, (hS1.mod hq).J hV.next, fun q => absurd q (by decide)⟩⟩) (fun h2 thr ov od q => kk 1 6 h2 thr ov od (by decide) (by decide) q)


set_option maxRecDepth 100000 in
set_option maxHeartbeats 4000000 in
theorem T_set {l : Launch} {G : tp_G} {Q : tp_Q} {k n : Nat} {h : tp_H} {x C : Nat} {thr0 : Int32} {ov0 : Int64} {od0 : UInt64} (hl : l.stackTraces = false) (hC : 6 * C + 6 ≤ G.2.2.2 4) (hN : G.2.2.2 4 ≤ 3072) (hkk : k + 1 ≤ room_1.cells ∧ n + 6 ≤ room_1.slots) (hJ : tl_J G x C thr0 ov0 od0 h) (kk : ∀ mc ms h2 thr ov od, mc ≤ 1 → ms ≤ 6 → tl_J G x (C + 1) thr ov od h2 → tp_Run l G mL_law room_1 Q (k + mc) (n + ms) h2 1997 [some (.ref (G.2.2.2 3)), some (.ref x), some (.ref (x + 298)), some (.ref (x + 303)), some (.ref (x + 304)), some (.int (nI (6 * C))), none, none, none] []) : tp_Run l G mL_law room_1 Q k n h 928 [some (.ref (G.2.2.2 3)), some (.ref x), some (.ref (x + 298)), some (.ref (x + 303)), some (.ref (x + 304)), some (.int (nI (6 * C))), none, none, none] [] := by
  obtain ⟨u, π, ρ, us, σ, s, n9, tx, rd, z, hy, pa, R9, nu, du, hs, ov, od, N, P, hS, hV, -, -⟩ := hJ
  have hz := hV.z
  have hv := hV.i
  have hB := hV.B (by omega)
  have h8 := hz.n8
  have h9 := hz.n9
  have hn60 := hV.n60
  have hk0 : k + 0 ≤ room_1.cells ∧ n + 0 ≤ room_1.slots := by omega
  have hk1 : k + 1 ≤ room_1.cells ∧ n + 6 ≤ room_1.slots := hkk
  obtain ⟨p1, e1⟩ : ∃ p, sc G C 1 = p := ⟨_, rfl⟩
  obtain ⟨p2, e2⟩ : ∃ p, sc G C 2 = p := ⟨_, rfl⟩
  by_cases c1 : 0 ≤ p1 ∧ p1 ≤ 3
  · obtain ⟨j, rfl, hj⟩ := sc_w c1
    by_cases c2 : 0 ≤ p2 ∧ p2 ≤ tp_st 2 j
    · obtain ⟨v, rfl, hvl⟩ := sc_v hj c2
      exact L_set hl hC hN hk0 e1 e2 (WL_set hl hS.cob (X_set hl hS.1 rfl hV.s6 hz.u8 h8 hz.u9 h9 hj c2) (fun h1 q => by
          obtain ⟨σ1, q⟩ := q
          exact (hS.cls q).oc)) (fun h1 hF => by
        obtain ⟨hh, ⟨σ1, q⟩, rfl⟩ := hF
        have hS1 := (hS.cls q).out (Int32.toInt64 (u j))
        exact ⟨_, _, _, hS1.mob, Q_set hl hS1.mm hV.s6 hj c1 (by rw [← sc_lim hj]; exact c2), fun h2 hq => ⟨_, _, (hS1.mod hq).J (hV.new (hz.up (by omega) (by omega)) (hv.set hj hvl) (by omega)), fun _ => (va_up_eq _ _ _).trans (congrArg Int32.toInt64 (hz.hd (by omega)))⟩⟩) (fun h2 thr ov od q => kk 0 0 h2 thr ov od (by decide) (by decide) q)
    · exact L_set hl hC hN hk1 e1 e2 (WX_set_2 hl hS.cob (X_set_2 hl hS.1 hj c2) (fun E h1 q => q.1)) (fun h1 hF => by
        obtain ⟨E, -, hF⟩ := hF
        have hS1 := hS.ex hF
        exact ⟨_, _, _, hS1.mob, Q_set_2 hl hS1.mm c1 (by rw [← sc_lim hj]; exact c2), fun h2 hq => ⟨_, _, (hS1.mod hq).J hV.next, fun q => absurd q (by decide)⟩⟩) (fun h2 thr ov od q => kk 1 6 h2 thr ov od (by decide) (by decide) q)
  · exact L_set hl hC hN hk1 e1 e2 (WX_set_1 hl hS.cob (X_set_1 hl hS.1 c1) (fun E h1 q => q.1)) (fun h1 hF => by
      obtain ⟨E, -, hF⟩ := hF
      have hS1 := hS.ex hF
      exact ⟨_, _, _, hS1.mob, Q_set_1 hl hS1.mm c1, fun h2 hq => ⟨_, _, (hS1.mod hq).J hV.next, fun q => absurd q (by decide)⟩⟩) (fun h2 thr ov od q => kk 1 6 h2 thr ov od (by decide) (by decide) q)


set_option maxRecDepth 100000 in
set_option maxHeartbeats 4000000 in
theorem T_append {l : Launch} {G : tp_G} {Q : tp_Q} {k n : Nat} {h : tp_H} {x C : Nat} {thr0 : Int32} {ov0 : Int64} {od0 : UInt64} (hl : l.stackTraces = false) (hC : 6 * C + 6 ≤ G.2.2.2 4) (hN : G.2.2.2 4 ≤ 3072) (hkk : k + 1 ≤ room_1.cells ∧ n + 6 ≤ room_1.slots) (hJ : tl_J G x C thr0 ov0 od0 h) (kk : ∀ mc ms h2 thr ov od, mc ≤ 1 → ms ≤ 6 → tl_J G x (C + 1) thr ov od h2 → tp_Run l G mL_law room_1 Q (k + mc) (n + ms) h2 1997 [some (.ref (G.2.2.2 3)), some (.ref x), some (.ref (x + 298)), some (.ref (x + 303)), some (.ref (x + 304)), some (.int (nI (6 * C))), none, none, none] []) : tp_Run l G mL_law room_1 Q k n h 996 [some (.ref (G.2.2.2 3)), some (.ref x), some (.ref (x + 298)), some (.ref (x + 303)), some (.ref (x + 304)), some (.int (nI (6 * C))), none, none, none] [] := by
  obtain ⟨u, π, ρ, us, σ, s, n9, tx, rd, z, hy, pa, R9, nu, du, hs, ov, od, N, P, hS, hV, -, -⟩ := hJ
  have hz := hV.z
  have hv := hV.i
  have hB := hV.B (by omega)
  have h8 := hz.n8
  have h9 := hz.n9
  have hn60 := hV.n60
  have hk0 : k + 0 ≤ room_1.cells ∧ n + 0 ≤ room_1.slots := by omega
  have hk1 : k + 1 ≤ room_1.cells ∧ n + 6 ≤ room_1.slots := hkk
  obtain ⟨p1, e1⟩ : ∃ p, sc G C 1 = p := ⟨_, rfl⟩
  by_cases c1 : 33 ≤ p1 ∧ p1 ≤ 126
  · by_cases c2 : n9 = 60
    · exact L_append hl hC hN hk1 e1 (WX_append_2 hl hS.cob (X_append_2 hl hS.1 rfl c2 c1) (fun E h1 q => q.1)) (fun h1 hF => by
        obtain ⟨E, -, hF⟩ := hF
        have hS1 := hS.ex hF
        exact ⟨_, _, _, hS1.mob, Q_append_2 hl hS1.mm (by rw [c2]; rfl) c1, fun h2 hq => ⟨_, _, (hS1.mod hq).J hV.next, fun q => absurd q (by decide)⟩⟩) (fun h2 thr ov od q => kk 1 6 h2 thr ov od (by decide) (by decide) q)
    · obtain ⟨t, rfl, ht⟩ := sc_t c1
      exact L_append hl hC hN hk0 e1 (WL_append hl hS.cob (X_append hl hS.1 rfl (by omega) c1) (fun h1 q => by
          have q := q
          exact (hS.cls q).oc)) (fun h1 hF => by
        obtain ⟨hh, q, rfl⟩ := hF
        have hS1 := (hS.cls q).out (Int32.toInt64 (nI (n9 + 1)))
        exact ⟨_, _, _, hS1.mob, Q_append hl hS1.mm rfl (by omega) (fun q => c2 ((tp_eq (b := 60) (by omega) (by omega)).mp q)) c1, fun h2 hq => ⟨_, _, (hS1.mod hq).J (hV.app (by omega) ht), fun _ => (va_up_eq _ _ _).trans (congrArg Int32.toInt64 (rfl))⟩⟩) (fun h2 thr ov od q => kk 0 0 h2 thr ov od (by decide) (by decide) q)
  · exact L_append hl hC hN hk1 e1 (WX_append_1 hl hS.cob (X_append_1 hl hS.1 c1) (fun E h1 q => q.1)) (fun h1 hF => by
      obtain ⟨E, -, hF⟩ := hF
      have hS1 := hS.ex hF
      exact ⟨_, _, _, hS1.mob, Q_append_1 hl hS1.mm c1, fun h2 hq => ⟨_, _, (hS1.mod hq).J hV.next, fun q => absurd q (by decide)⟩⟩) (fun h2 thr ov od q => kk 1 6 h2 thr ov od (by decide) (by decide) q)


set_option maxRecDepth 100000 in
set_option maxHeartbeats 4000000 in
theorem T_undo {l : Launch} {G : tp_G} {Q : tp_Q} {k n : Nat} {h : tp_H} {x C : Nat} {thr0 : Int32} {ov0 : Int64} {od0 : UInt64} (hl : l.stackTraces = false) (hC : 6 * C + 6 ≤ G.2.2.2 4) (hN : G.2.2.2 4 ≤ 3072) (hkk : k + 1 ≤ room_1.cells ∧ n + 6 ≤ room_1.slots) (hJ : tl_J G x C thr0 ov0 od0 h) (kk : ∀ mc ms h2 thr ov od, mc ≤ 1 → ms ≤ 6 → tl_J G x (C + 1) thr ov od h2 → tp_Run l G mL_law room_1 Q (k + mc) (n + ms) h2 1997 [some (.ref (G.2.2.2 3)), some (.ref x), some (.ref (x + 298)), some (.ref (x + 303)), some (.ref (x + 304)), some (.int (nI (6 * C))), none, none, none] []) : tp_Run l G mL_law room_1 Q k n h 1122 [some (.ref (G.2.2.2 3)), some (.ref x), some (.ref (x + 298)), some (.ref (x + 303)), some (.ref (x + 304)), some (.int (nI (6 * C))), none, none, none] [] := by
  obtain ⟨u, π, ρ, us, σ, s, n9, tx, rd, z, hy, pa, R9, nu, du, hs, ov, od, N, P, hS, hV, -, -⟩ := hJ
  have hz := hV.z
  have hv := hV.i
  have hB := hV.B (by omega)
  have h8 := hz.n8
  have h9 := hz.n9
  have hn60 := hV.n60
  have hk0 : k + 0 ≤ room_1.cells ∧ n + 0 ≤ room_1.slots := by omega
  have hk1 : k + 1 ≤ room_1.cells ∧ n + 6 ≤ room_1.slots := hkk
  rcases Nat.eq_zero_or_pos s with c1 | c1
  · exact L_undo hl hC hN hk1  (WX_undo_1 hl hS.cob (X_undo_1 hl hS.1 (by rw [c1])) (fun E h1 q => q.1)) (fun h1 hF => by
      obtain ⟨E, -, hF⟩ := hF
      have hS1 := hS.ex hF
      exact ⟨_, _, _, hS1.mob, Q_undo_1 hl hS1.mm (by rw [c1]; rfl), fun h2 hq => ⟨_, _, (hS1.mod hq).J hV.next, fun q => absurd q (by decide)⟩⟩) (fun h2 thr ov od q => kk 1 6 h2 thr ov od (by decide) (by decide) q)
  · obtain ⟨s1, rfl⟩ : ∃ s1, s = s1 + 1 := ⟨s - 1, by omega⟩
    have hs6 := hV.s6
    obtain ⟨N2, P2, g1, g2⟩ := hV.s.2 s1 (by omega)
    exact L_undo hl hC hN hk0  (WL_undo hl hS.cob (X_undo hl hS.1 rfl (by omega) g1.u8 g1.n8 g1.u9 g1.n9) (fun h1 q => by
        have q := q
        exact (hS.cls q).oc)) (fun h1 hF => by
      obtain ⟨hh, q, rfl⟩ := hF
      have hS1 := (hS.cls q).out (Int32.toInt64 (nI s1))
      exact ⟨_, _, _, hS1.mob, Q_undo hl hS1.mm (by omega), fun h2 hq => ⟨_, _, (hS1.mod hq).J (hV.und g1 g2), fun _ => (va_up_eq _ _ _).trans (congrArg Int32.toInt64 (rfl))⟩⟩) (fun h2 thr ov od q => kk 0 0 h2 thr ov od (by decide) (by decide) q)


