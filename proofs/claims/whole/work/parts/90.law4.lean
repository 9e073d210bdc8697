set_option maxRecDepth 100000 in
set_option maxHeartbeats 4000000 in
theorem T_purse {l : Launch} {G : tp_G} {Q : tp_Q} {k n : Nat} {h : tp_H} {x C : Nat} {thr0 : Int32} {ov0 : Int64} {od0 : UInt64} (hl : l.stackTraces = false) (hC : 6 * C + 6 ≤ G.2.2.2 4) (hN : G.2.2.2 4 ≤ 3072) (hkk : k + 1 ≤ room_1.cells ∧ n + 6 ≤ room_1.slots) (hJ : tl_J G x C thr0 ov0 od0 h) (kk : ∀ mc ms h2 thr ov od, mc ≤ 1 → ms ≤ 6 → tl_J G x (C + 1) thr ov od h2 → tp_Run l G mL_law room_1 Q (k + mc) (n + ms) h2 1997 [some (.ref (G.2.2.2 3)), some (.ref x), some (.ref (x + 298)), some (.ref (x + 303)), some (.ref (x + 304)), some (.int (nI (6 * C))), none, none, none] []) : tp_Run l G mL_law room_1 Q k n h 1166 [some (.ref (G.2.2.2 3)), some (.ref x), some (.ref (x + 298)), some (.ref (x + 303)), some (.ref (x + 304)), some (.int (nI (6 * C))), none, none, none] [] := by
  obtain ⟨u, π, ρ, us, σ, s, n9, tx, rd, z, hy, pa, R9, nu, du, hs, ov, od, N, P, hS, hV, -, -⟩ := hJ
  have hz := hV.z
  have hv := hV.i
  have hB := hV.B (by omega)
  have h8 := hz.n8
  have h9 := hz.n9
  have hn60 := hV.n60
  have hk0 : k + 0 ≤ room_1.cells ∧ n + 0 ≤ room_1.slots := by omega
  have hk1 : k + 1 ≤ room_1.cells ∧ n + 6 ≤ room_1.slots := hkk
  obtain ⟨p1, e1⟩ : ∃ p, sc G C 1 = p := ⟨_, rfl⟩
  obtain ⟨p2, e2⟩ : ∃ p, sc G C 2 = p := ⟨_, rfl⟩
  obtain ⟨p3, e3⟩ : ∃ p, sc G C 3 = p := ⟨_, rfl⟩
  by_cases c1 : (0 ≤ p1 ∧ p1 ≤ 3) ∧ (0 ≤ p2 ∧ p2 ≤ 3)
  · obtain ⟨w, rfl, hw⟩ := sc_w c1.1
    obtain ⟨c, rfl, hc⟩ := sc_w c1.2
    by_cases c2 : 0 ≤ p3 ∧ p3 ≤ 7
    · obtain ⟨j, rfl, hj⟩ := sc_n (K := 7) c2.1 c2.2 (by omega)
      exact L_purse hl hC hN hk0 e1 e2 e3 (WL_purse (P := fun h1 => h1 = h) hl hS.cob (X_purse hl hS.1 hz.u8 h8 hz.u9 h9 hw hc (by omega)) (fun h1 q => by rw [q]; exact hS.oc)) (fun h1 hF => by
        obtain ⟨hh, rfl, rfl⟩ := hF
        have hS1 := hS.out (Int32.toInt64 (k_purse u w c j))
        exact ⟨_, _, _, hS1.mob, Q_purse hl hS1.mm (hv.I1 hz.z8 h8 hz.z9 h9) (hv.I2 hz.z8 h8 hB) hw hc (by omega) c2, fun h2 hq => ⟨_, _, (hS1.mod hq).J hV.next, fun _ => (va_up_eq _ _ _).trans (congrArg Int32.toInt64 (hz.purse hv hw hc j))⟩⟩) (fun h2 thr ov od q => kk 0 0 h2 thr ov od (by decide) (by decide) q)
    · exact L_purse hl hC hN hk1 e1 e2 e3 (WX_purse_2 hl hS.cob (X_purse_2 hl hS.1 hw hc c2) (fun E h1 q => q.1)) (fun h1 hF => by
        obtain ⟨E, -, hF⟩ := hF
        have hS1 := hS.ex hF
        exact ⟨_, _, _, hS1.mob, Q_purse_2 hl hS1.mm c1 c2, fun h2 hq => ⟨_, _, (hS1.mod hq).J hV.next, fun q => absurd q (by decide)⟩⟩) (fun h2 thr ov od q => kk 1 6 h2 thr ov od (by decide) (by decide) q)
  · exact L_purse hl hC hN hk1 e1 e2 e3 (WX_purse_1 hl hS.cob (X_purse_1 hl hS.1 c1) (fun E h1 q => q.1)) (fun h1 hF => by
      obtain ⟨E, -, hF⟩ := hF
      have hS1 := hS.ex hF
      exact ⟨_, _, _, hS1.mob, Q_purse_1 hl hS1.mm c1, fun h2 hq => ⟨_, _, (hS1.mod hq).J hV.next, fun q => absurd q (by decide)⟩⟩) (fun h2 thr ov od q => kk 1 6 h2 thr ov od (by decide) (by decide) q)


set_option maxRecDepth 100000 in
set_option maxHeartbeats 4000000 in
theorem T_held {l : Launch} {G : tp_G} {Q : tp_Q} {k n : Nat} {h : tp_H} {x C : Nat} {thr0 : Int32} {ov0 : Int64} {od0 : UInt64} (hl : l.stackTraces = false) (hC : 6 * C + 6 ≤ G.2.2.2 4) (hN : G.2.2.2 4 ≤ 3072) (hkk : k + 1 ≤ room_1.cells ∧ n + 6 ≤ room_1.slots) (hJ : tl_J G x C thr0 ov0 od0 h) (kk : ∀ mc ms h2 thr ov od, mc ≤ 1 → ms ≤ 6 → tl_J G x (C + 1) thr ov od h2 → tp_Run l G mL_law room_1 Q (k + mc) (n + ms) h2 1997 [some (.ref (G.2.2.2 3)), some (.ref x), some (.ref (x + 298)), some (.ref (x + 303)), some (.ref (x + 304)), some (.int (nI (6 * C))), none, none, none] []) : tp_Run l G mL_law room_1 Q k n h 1246 [some (.ref (G.2.2.2 3)), some (.ref x), some (.ref (x + 298)), some (.ref (x + 303)), some (.ref (x + 304)), some (.int (nI (6 * C))), none, none, none] [] := by
  obtain ⟨u, π, ρ, us, σ, s, n9, tx, rd, z, hy, pa, R9, nu, du, hs, ov, od, N, P, hS, hV, -, -⟩ := hJ
  have hz := hV.z
  have hv := hV.i
  have hB := hV.B (by omega)
  have h8 := hz.n8
  have h9 := hz.n9
  have hn60 := hV.n60
  have hk0 : k + 0 ≤ room_1.cells ∧ n + 0 ≤ room_1.slots := by omega
  have hk1 : k + 1 ≤ room_1.cells ∧ n + 6 ≤ room_1.slots := hkk
  obtain ⟨p1, e1⟩ : ∃ p, sc G C 1 = p := ⟨_, rfl⟩
  obtain ⟨p2, e2⟩ : ∃ p, sc G C 2 = p := ⟨_, rfl⟩
  by_cases c1 : 0 ≤ p1 ∧ p1 ≤ z 8 - 1
  · obtain ⟨j, rfl, hj⟩ := sc_j (by rw [hz.z8] at c1; exact c1) h8
    by_cases c2 : 0 ≤ p2 ∧ p2 ≤ 4
    · obtain ⟨i, rfl, hi⟩ := sc_n (K := 4) c2.1 c2.2 (by omega)
      exact L_held hl hC hN hk0 e1 e2 (WL_held (P := fun h1 => h1 = h) hl hS.cob (X_held hl hS.1 hz.u8 h8 hj (i := i) (by omega)) (fun h1 q => by rw [q]; exact hS.oc)) (fun h1 hF => by
        obtain ⟨hh, rfl, rfl⟩ := hF
        have hS1 := hS.out (Int32.toInt64 (u (96 + 5 * j + i)))
        exact ⟨_, _, _, hS1.mob, Q_held hl hS1.mm (by omega) c1 (by omega) c2, fun h2 hq => ⟨_, _, (hS1.mod hq).J hV.next, fun _ => (va_up_eq _ _ _).trans (congrArg Int32.toInt64 (hz.ho (by omega) (by omega)))⟩⟩) (fun h2 thr ov od q => kk 0 0 h2 thr ov od (by decide) (by decide) q)
    · exact L_held hl hC hN hk1 e1 e2 (WX_held_2 hl hS.cob (X_held_2 hl hS.1 hz.u8 h8 hj c2) (fun E h1 q => q.1)) (fun h1 hF => by
        obtain ⟨E, -, hF⟩ := hF
        have hS1 := hS.ex hF
        exact ⟨_, _, _, hS1.mob, Q_held_2 hl hS1.mm c1 c2, fun h2 hq => ⟨_, _, (hS1.mod hq).J hV.next, fun q => absurd q (by decide)⟩⟩) (fun h2 thr ov od q => kk 1 6 h2 thr ov od (by decide) (by decide) q)
  · exact L_held hl hC hN hk1 e1 e2 (WX_held_1 hl hS.cob (X_held_1 hl hS.1 hz.u8 h8 (by rw [hz.hd (show 8 < 16 by omega)]; exact c1)) (fun E h1 q => q.1)) (fun h1 hF => by
      obtain ⟨E, -, hF⟩ := hF
      have hS1 := hS.ex hF
      exact ⟨_, _, _, hS1.mob, Q_held_1 hl hS1.mm c1, fun h2 hq => ⟨_, _, (hS1.mod hq).J hV.next, fun q => absurd q (by decide)⟩⟩) (fun h2 thr ov od q => kk 1 6 h2 thr ov od (by decide) (by decide) q)


set_option maxRecDepth 100000 in
set_option maxHeartbeats 4000000 in
theorem T_payment {l : Launch} {G : tp_G} {Q : tp_Q} {k n : Nat} {h : tp_H} {x C : Nat} {thr0 : Int32} {ov0 : Int64} {od0 : UInt64} (hl : l.stackTraces = false) (hC : 6 * C + 6 ≤ G.2.2.2 4) (hN : G.2.2.2 4 ≤ 3072) (hkk : k + 1 ≤ room_1.cells ∧ n + 6 ≤ room_1.slots) (hJ : tl_J G x C thr0 ov0 od0 h) (kk : ∀ mc ms h2 thr ov od, mc ≤ 1 → ms ≤ 6 → tl_J G x (C + 1) thr ov od h2 → tp_Run l G mL_law room_1 Q (k + mc) (n + ms) h2 1997 [some (.ref (G.2.2.2 3)), some (.ref x), some (.ref (x + 298)), some (.ref (x + 303)), some (.ref (x + 304)), some (.int (nI (6 * C))), none, none, none] []) : tp_Run l G mL_law room_1 Q k n h 1314 [some (.ref (G.2.2.2 3)), some (.ref x), some (.ref (x + 298)), some (.ref (x + 303)), some (.ref (x + 304)), some (.int (nI (6 * C))), none, none, none] [] := by
  obtain ⟨u, π, ρ, us, σ, s, n9, tx, rd, z, hy, pa, R9, nu, du, hs, ov, od, N, P, hS, hV, -, -⟩ := hJ
  have hz := hV.z
  have hv := hV.i
  have hB := hV.B (by omega)
  have h8 := hz.n8
  have h9 := hz.n9
  have hn60 := hV.n60
  have hk0 : k + 0 ≤ room_1.cells ∧ n + 0 ≤ room_1.slots := by omega
  have hk1 : k + 1 ≤ room_1.cells ∧ n + 6 ≤ room_1.slots := hkk
  obtain ⟨p1, e1⟩ : ∃ p, sc G C 1 = p := ⟨_, rfl⟩
  obtain ⟨p2, e2⟩ : ∃ p, sc G C 2 = p := ⟨_, rfl⟩
  by_cases c1 : 0 ≤ p1 ∧ p1 ≤ z 9 - 1
  · obtain ⟨j, rfl, hj⟩ := sc_j12 (by rw [hz.z9] at c1; exact c1) h9
    by_cases c2 : 0 ≤ p2 ∧ p2 ≤ 5
    · obtain ⟨i, rfl, hi⟩ := sc_n (K := 5) c2.1 c2.2 (by omega)
      exact L_payment hl hC hN hk0 e1 e2 (WL_payment (P := fun h1 => h1 = h) hl hS.cob (X_payment hl hS.1 hz.u9 h9 hj (i := i) (by omega)) (fun h1 q => by rw [q]; exact hS.oc)) (fun h1 hF => by
        obtain ⟨hh, rfl, rfl⟩ := hF
        have hS1 := hS.out (Int32.toInt64 (k_payn u j i))
        exact ⟨_, _, _, hS1.mob, Q_payment hl hS1.mm (by omega) c1 (by omega) c2, fun h2 hq => ⟨_, _, (hS1.mod hq).J hV.next, fun _ => (va_up_eq _ _ _).trans (congrArg Int32.toInt64 (hz.payn hv hj))⟩⟩) (fun h2 thr ov od q => kk 0 0 h2 thr ov od (by decide) (by decide) q)
    · exact L_payment hl hC hN hk1 e1 e2 (WX_payment_2 hl hS.cob (X_payment_2 hl hS.1 hz.u9 h9 hj c2) (fun E h1 q => q.1)) (fun h1 hF => by
        obtain ⟨E, -, hF⟩ := hF
        have hS1 := hS.ex hF
        exact ⟨_, _, _, hS1.mob, Q_payment_2 hl hS1.mm c1 c2, fun h2 hq => ⟨_, _, (hS1.mod hq).J hV.next, fun q => absurd q (by decide)⟩⟩) (fun h2 thr ov od q => kk 1 6 h2 thr ov od (by decide) (by decide) q)
  · exact L_payment hl hC hN hk1 e1 e2 (WX_payment_1 hl hS.cob (X_payment_1 hl hS.1 hz.u9 h9 (by rw [hz.hd (show 9 < 16 by omega)]; exact c1)) (fun E h1 q => q.1)) (fun h1 hF => by
      obtain ⟨E, -, hF⟩ := hF
      have hS1 := hS.ex hF
      exact ⟨_, _, _, hS1.mob, Q_payment_1 hl hS1.mm c1, fun h2 hq => ⟨_, _, (hS1.mod hq).J hV.next, fun q => absurd q (by decide)⟩⟩) (fun h2 thr ov od q => kk 1 6 h2 thr ov od (by decide) (by decide) q)


set_option maxRecDepth 100000 in
set_option maxHeartbeats 4000000 in
theorem T_count {l : Launch} {G : tp_G} {Q : tp_Q} {k n : Nat} {h : tp_H} {x C : Nat} {thr0 : Int32} {ov0 : Int64} {od0 : UInt64} (hl : l.stackTraces = false) (hC : 6 * C + 6 ≤ G.2.2.2 4) (hN : G.2.2.2 4 ≤ 3072) (hkk : k + 1 ≤ room_1.cells ∧ n + 6 ≤ room_1.slots) (hJ : tl_J G x C thr0 ov0 od0 h) (kk : ∀ mc ms h2 thr ov od, mc ≤ 1 → ms ≤ 6 → tl_J G x (C + 1) thr ov od h2 → tp_Run l G mL_law room_1 Q (k + mc) (n + ms) h2 1997 [some (.ref (G.2.2.2 3)), some (.ref x), some (.ref (x + 298)), some (.ref (x + 303)), some (.ref (x + 304)), some (.int (nI (6 * C))), none, none, none] []) : tp_Run l G mL_law room_1 Q k n h 1382 [some (.ref (G.2.2.2 3)), some (.ref x), some (.ref (x + 298)), some (.ref (x + 303)), some (.ref (x + 304)), some (.int (nI (6 * C))), none, none, none] [] := by
  obtain ⟨u, π, ρ, us, σ, s, n9, tx, rd, z, hy, pa, R9, nu, du, hs, ov, od, N, P, hS, hV, -, -⟩ := hJ
  have hz := hV.z
  have hv := hV.i
  have hB := hV.B (by omega)
  have h8 := hz.n8
  have h9 := hz.n9
  have hn60 := hV.n60
  have hk0 : k + 0 ≤ room_1.cells ∧ n + 0 ≤ room_1.slots := by omega
  have hk1 : k + 1 ≤ room_1.cells ∧ n + 6 ≤ room_1.slots := hkk
  obtain ⟨p1, e1⟩ : ∃ p, sc G C 1 = p := ⟨_, rfl⟩
  by_cases c1 : 0 ≤ p1 ∧ p1 ≤ 13
  · obtain ⟨j, rfl, hj⟩ := sc_n (K := 13) c1.1 c1.2 (by omega)
    exact L_count hl hC hN hk0 e1 (WL_count (P := fun h1 => h1 = h) hl hS.cob (X_count hl hS.1 hz.u9 h9 (j := j) (by omega)) (fun h1 q => by rw [q]; exact hS.oc)) (fun h1 hF => by
      obtain ⟨hh, rfl, rfl⟩ := hF
      have hS1 := hS.out (Int32.toInt64 (z_count u (nI s) j))
      exact ⟨_, _, _, hS1.mob, Q_count hl hS1.mm (hv.I1 hz.z8 h8 hz.z9 h9) (hv.I2 hz.z8 h8 hB) (by omega) c1, fun h2 hq => ⟨_, _, (hS1.mod hq).J hV.next, fun _ => (va_up_eq _ _ _).trans (congrArg Int32.toInt64 (hz.count _ j))⟩⟩) (fun h2 thr ov od q => kk 0 0 h2 thr ov od (by decide) (by decide) q)
  · exact L_count hl hC hN hk1 e1 (WX_count_1 hl hS.cob (X_count_1 hl hS.1 c1) (fun E h1 q => q.1)) (fun h1 hF => by
      obtain ⟨E, -, hF⟩ := hF
      have hS1 := hS.ex hF
      exact ⟨_, _, _, hS1.mob, Q_count_1 hl hS1.mm c1, fun h2 hq => ⟨_, _, (hS1.mod hq).J hV.next, fun q => absurd q (by decide)⟩⟩) (fun h2 thr ov od q => kk 1 6 h2 thr ov od (by decide) (by decide) q)


set_option maxRecDepth 100000 in
set_option maxHeartbeats 4000000 in
theorem T_setting {l : Launch} {G : tp_G} {Q : tp_Q} {k n : Nat} {h : tp_H} {x C : Nat} {thr0 : Int32} {ov0 : Int64} {od0 : UInt64} (hl : l.stackTraces = false) (hC : 6 * C + 6 ≤ G.2.2.2 4) (hN : G.2.2.2 4 ≤ 3072) (hkk : k + 1 ≤ room_1.cells ∧ n + 6 ≤ room_1.slots) (hJ : tl_J G x C thr0 ov0 od0 h) (kk : ∀ mc ms h2 thr ov od, mc ≤ 1 → ms ≤ 6 → tl_J G x (C + 1) thr ov od h2 → tp_Run l G mL_law room_1 Q (k + mc) (n + ms) h2 1997 [some (.ref (G.2.2.2 3)), some (.ref x), some (.ref (x + 298)), some (.ref (x + 303)), some (.ref (x + 304)), some (.int (nI (6 * C))), none, none, none] []) : tp_Run l G mL_law room_1 Q k n h 1438 [some (.ref (G.2.2.2 3)), some (.ref x), some (.ref (x + 298)), some (.ref (x + 303)), some (.ref (x + 304)), some (.int (nI (6 * C))), none, none, none] [] := by
  obtain ⟨u, π, ρ, us, σ, s, n9, tx, rd, z, hy, pa, R9, nu, du, hs, ov, od, N, P, hS, hV, -, -⟩ := hJ
  have hz := hV.z
  have hv := hV.i
  have hB := hV.B (by omega)
  have h8 := hz.n8
  have h9 := hz.n9
  have hn60 := hV.n60
  have hk0 : k + 0 ≤ room_1.cells ∧ n + 0 ≤ room_1.slots := by omega
  have hk1 : k + 1 ≤ room_1.cells ∧ n + 6 ≤ room_1.slots := hkk
  obtain ⟨p1, e1⟩ : ∃ p, sc G C 1 = p := ⟨_, rfl⟩
  by_cases c1 : 0 ≤ p1 ∧ p1 ≤ 3
  · obtain ⟨j, rfl, hj⟩ := sc_w c1
    exact L_setting hl hC hN hk0 e1 (WL_setting (P := fun h1 => h1 = h) hl hS.cob (X_setting hl hS.1 hj) (fun h1 q => by rw [q]; exact hS.oc)) (fun h1 hF => by
      obtain ⟨hh, rfl, rfl⟩ := hF
      have hS1 := hS.out (Int32.toInt64 (u j))
      exact ⟨_, _, _, hS1.mob, Q_setting hl hS1.mm hj c1, fun h2 hq => ⟨_, _, (hS1.mod hq).J hV.next, fun _ => (va_up_eq _ _ _).trans (congrArg Int32.toInt64 (hz.hd (by omega)))⟩⟩) (fun h2 thr ov od q => kk 0 0 h2 thr ov od (by decide) (by decide) q)
  · exact L_setting hl hC hN hk1 e1 (WX_setting_1 hl hS.cob (X_setting_1 hl hS.1 c1) (fun E h1 q => q.1)) (fun h1 hF => by
      obtain ⟨E, -, hF⟩ := hF
      have hS1 := hS.ex hF
      exact ⟨_, _, _, hS1.mob, Q_setting_1 hl hS1.mm c1, fun h2 hq => ⟨_, _, (hS1.mod hq).J hV.next, fun q => absurd q (by decide)⟩⟩) (fun h2 thr ov od q => kk 1 6 h2 thr ov od (by decide) (by decide) q)


set_option maxRecDepth 100000 in
set_option maxHeartbeats 4000000 in
theorem T_ifExchanged {l : Launch} {G : tp_G} {Q : tp_Q} {k n : Nat} {h : tp_H} {x C : Nat} {thr0 : Int32} {ov0 : Int64} {od0 : UInt64} (hl : l.stackTraces = false) (hC : 6 * C + 6 ≤ G.2.2.2 4) (hN : G.2.2.2 4 ≤ 3072) (hkk : k + 1 ≤ room_1.cells ∧ n + 6 ≤ room_1.slots) (hJ : tl_J G x C thr0 ov0 od0 h) (kk : ∀ mc ms h2 thr ov od, mc ≤ 1 → ms ≤ 6 → tl_J G x (C + 1) thr ov od h2 → tp_Run l G mL_law room_1 Q (k + mc) (n + ms) h2 1997 [some (.ref (G.2.2.2 3)), some (.ref x), some (.ref (x + 298)), some (.ref (x + 303)), some (.ref (x + 304)), some (.int (nI (6 * C))), none, none, none] []) : tp_Run l G mL_law room_1 Q k n h 1494 [some (.ref (G.2.2.2 3)), some (.ref x), some (.ref (x + 298)), some (.ref (x + 303)), some (.ref (x + 304)), some (.int (nI (6 * C))), none, none, none] [] := by
  obtain ⟨u, π, ρ, us, σ, s, n9, tx, rd, z, hy, pa, R9, nu, du, hs, ov, od, N, P, hS, hV, -, -⟩ := hJ
  have hz := hV.z
  have hv := hV.i
  have hB := hV.B (by omega)
  have h8 := hz.n8
  have h9 := hz.n9
  have hn60 := hV.n60
  have hk0 : k + 0 ≤ room_1.cells ∧ n + 0 ≤ room_1.slots := by omega
  have hk1 : k + 1 ≤ room_1.cells ∧ n + 6 ≤ room_1.slots := hkk
  obtain ⟨p1, e1⟩ : ∃ p, sc G C 1 = p := ⟨_, rfl⟩
  obtain ⟨p2, e2⟩ : ∃ p, sc G C 2 = p := ⟨_, rfl⟩
  obtain ⟨p3, e3⟩ : ∃ p, sc G C 3 = p := ⟨_, rfl⟩
  obtain ⟨p4, e4⟩ : ∃ p, sc G C 4 = p := ⟨_, rfl⟩
  by_cases c1 : (0 ≤ p1 ∧ p1 ≤ 3) ∧ (0 ≤ p2 ∧ p2 ≤ 3)
  · obtain ⟨w, rfl, hw⟩ := sc_w c1.1
    obtain ⟨f, rfl, hf⟩ := sc_w c1.2
    by_cases c4 : 0 ≤ p3 ∧ p3 ≤ 3
    · obtain ⟨t, rfl, ht⟩ := sc_w c4
      by_cases c2 : 1 ≤ p4 ∧ p4 ≤ 99999
      · obtain ⟨m, rfl, hm1, hm⟩ := sc_a c2
        exact L_ifExchanged hl hC hN hk0 e1 e2 e3 e4 (WL_ifExchanged (P := fun h1 => h1 = h) hl hS.cob (X_ifExchanged hl hS.1 hw hf ht c2) (fun h1 q => by rw [q]; exact hS.oc)) (fun h1 hF => by
          obtain ⟨hh, rfl, rfl⟩ := hF
          have hS1 := hS.out (Int32.toInt64 (if f = t ∨ (0 < f ∧ 0 < t) then -1 else k_net u w f t (nI m)))
          exact ⟨_, _, _, hS1.mob, Q_ifExchanged hl hS1.mm (hv.I1 hz.z8 h8 hz.z9 h9) (hv.I2 hz.z8 h8 hB) hw hf ht c2, fun h2 hq => ⟨_, _, (hS1.mod hq).J hV.next, fun _ => (va_up_eq _ _ _).trans (congrArg Int32.toInt64 (hz.exThen hv hw hf ht hm))⟩⟩) (fun h2 thr ov od q => kk 0 0 h2 thr ov od (by decide) (by decide) q)
      · exact L_ifExchanged hl hC hN hk1 e1 e2 e3 e4 (WX_ifExchanged_2 hl hS.cob (X_ifExchanged_2 hl hS.1 hw hf ht c2) (fun E h1 q => q.1)) (fun h1 hF => by
          obtain ⟨E, -, hF⟩ := hF
          have hS1 := hS.ex hF
          exact ⟨_, _, _, hS1.mob, Q_ifExchanged_2 hl hS1.mm c1 c4 c2, fun h2 hq => ⟨_, _, (hS1.mod hq).J hV.next, fun q => absurd q (by decide)⟩⟩) (fun h2 thr ov od q => kk 1 6 h2 thr ov od (by decide) (by decide) q)
    · exact L_ifExchanged hl hC hN hk1 e1 e2 e3 e4 (WX_ifExchanged_1 hl hS.cob (X_ifExchanged_1b hl hS.1 hw hf c4) (fun E h1 q => q.1)) (fun h1 hF => by
        obtain ⟨E, -, hF⟩ := hF
        have hS1 := hS.ex hF
        exact ⟨_, _, _, hS1.mob, Q_ifExchanged_1b hl hS1.mm c1 c4, fun h2 hq => ⟨_, _, (hS1.mod hq).J hV.next, fun q => absurd q (by decide)⟩⟩) (fun h2 thr ov od q => kk 1 6 h2 thr ov od (by decide) (by decide) q)
  · exact L_ifExchanged hl hC hN hk1 e1 e2 e3 e4 (WX_ifExchanged_1 hl hS.cob (X_ifExchanged_1 hl hS.1 c1) (fun E h1 q => q.1)) (fun h1 hF => by
      obtain ⟨E, -, hF⟩ := hF
      have hS1 := hS.ex hF
      exact ⟨_, _, _, hS1.mob, Q_ifExchanged_1 hl hS1.mm c1, fun h2 hq => ⟨_, _, (hS1.mod hq).J hV.next, fun q => absurd q (by decide)⟩⟩) (fun h2 thr ov od q => kk 1 6 h2 thr ov od (by decide) (by decide) q)


set_option maxRecDepth 100000 in
set_option maxHeartbeats 4000000 in
theorem T_needed {l : Launch} {G : tp_G} {Q : tp_Q} {k n : Nat} {h : tp_H} {x C : Nat} {thr0 : Int32} {ov0 : Int64} {od0 : UInt64} (hl : l.stackTraces = false) (hC : 6 * C + 6 ≤ G.2.2.2 4) (hN : G.2.2.2 4 ≤ 3072) (hkk : k + 1 ≤ room_1.cells ∧ n + 6 ≤ room_1.slots) (hJ : tl_J G x C thr0 ov0 od0 h) (kk : ∀ mc ms h2 thr ov od, mc ≤ 1 → ms ≤ 6 → tl_J G x (C + 1) thr ov od h2 → tp_Run l G mL_law room_1 Q (k + mc) (n + ms) h2 1997 [some (.ref (G.2.2.2 3)), some (.ref x), some (.ref (x + 298)), some (.ref (x + 303)), some (.ref (x + 304)), some (.int (nI (6 * C))), none, none, none] []) : tp_Run l G mL_law room_1 Q k n h 1586 [some (.ref (G.2.2.2 3)), some (.ref x), some (.ref (x + 298)), some (.ref (x + 303)), some (.ref (x + 304)), some (.int (nI (6 * C))), none, none, none] [] := by
  obtain ⟨u, π, ρ, us, σ, s, n9, tx, rd, z, hy, pa, R9, nu, du, hs, ov, od, N, P, hS, hV, -, -⟩ := hJ
  have hz := hV.z
  have hv := hV.i
  have hB := hV.B (by omega)
  have h8 := hz.n8
  have h9 := hz.n9
  have hn60 := hV.n60
  have hk0 : k + 0 ≤ room_1.cells ∧ n + 0 ≤ room_1.slots := by omega
  have hk1 : k + 1 ≤ room_1.cells ∧ n + 6 ≤ room_1.slots := hkk
  obtain ⟨p1, e1⟩ : ∃ p, sc G C 1 = p := ⟨_, rfl⟩
  obtain ⟨p2, e2⟩ : ∃ p, sc G C 2 = p := ⟨_, rfl⟩
  obtain ⟨p3, e3⟩ : ∃ p, sc G C 3 = p := ⟨_, rfl⟩
  by_cases c1 : ((0 ≤ p1 ∧ p1 ≤ 3) ∧ (0 ≤ p2 ∧ p2 ≤ 3)) ∧ 0 < p2
  · obtain ⟨w, rfl, hw⟩ := sc_w c1.1.1
    obtain ⟨c, rfl, hc⟩ := sc_w c1.1.2
    have h0c : 0 < c := (tp_lt (a := 0) (by omega) (by omega)).mp c1.2
    by_cases c2 : 1 ≤ p3 ∧ p3 ≤ 9999
    · obtain ⟨m, rfl, hm⟩ := sc_n4 c2
      obtain ⟨r, r1, r2, r3⟩ := hv.rate hw hc
      obtain ⟨sp, s1, s2⟩ := hv.z1
      exact L_needed hl hC hN hk0 e1 e2 e3 (WL_needed (P := fun h1 => h1 = h) hl hS.cob (X_needed hl hS.1 hw hc h0c ((hz.rate hv hw hc).trans r1) ⟨r2, r3⟩ ((hz.hd (by omega)).trans s1) s2 hm) (fun h1 q => by rw [q]; exact hS.oc)) (fun h1 hF => by
        obtain ⟨hh, rfl, rfl⟩ := hF
        have hS1 := hS.out (Int32.toInt64 (nI (z_need r sp m)))
        exact ⟨_, _, _, hS1.mob, Q_needed hl hS1.mm (hv.I1 hz.z8 h8 hz.z9 h9) (hv.I2 hz.z8 h8 hB) hw hc c1 hm c2, fun h2 hq => ⟨_, _, (hS1.mod hq).J hV.next, fun _ => (va_up_eq _ _ _).trans (congrArg Int32.toInt64 (by unfold z_needOf; rw [r1, s1, z_nI (by omega), z_nI (by omega)]))⟩⟩) (fun h2 thr ov od q => kk 0 0 h2 thr ov od (by decide) (by decide) q)
    · exact L_needed hl hC hN hk1 e1 e2 e3 (WX_needed_2 hl hS.cob (X_needed_2 hl hS.1 hw hc h0c c2) (fun E h1 q => q.1)) (fun h1 hF => by
        obtain ⟨E, -, hF⟩ := hF
        have hS1 := hS.ex hF
        exact ⟨_, _, _, hS1.mob, Q_needed_2 hl hS1.mm c1 c2, fun h2 hq => ⟨_, _, (hS1.mod hq).J hV.next, fun q => absurd q (by decide)⟩⟩) (fun h2 thr ov od q => kk 1 6 h2 thr ov od (by decide) (by decide) q)
  · exact L_needed hl hC hN hk1 e1 e2 e3 (WX_needed_1 hl hS.cob (X_needed_1 hl hS.1 c1) (fun E h1 q => q.1)) (fun h1 hF => by
      obtain ⟨E, -, hF⟩ := hF
      have hS1 := hS.ex hF
      exact ⟨_, _, _, hS1.mob, Q_needed_1 hl hS1.mm c1, fun h2 hq => ⟨_, _, (hS1.mod hq).J hV.next, fun q => absurd q (by decide)⟩⟩) (fun h2 thr ov od q => kk 1 6 h2 thr ov od (by decide) (by decide) q)


set_option maxRecDepth 100000 in
set_option maxHeartbeats 4000000 in
theorem T_room {l : Launch} {G : tp_G} {Q : tp_Q} {k n : Nat} {h : tp_H} {x C : Nat} {thr0 : Int32} {ov0 : Int64} {od0 : UInt64} (hl : l.stackTraces = false) (hC : 6 * C + 6 ≤ G.2.2.2 4) (hN : G.2.2.2 4 ≤ 3072) (hkk : k + 1 ≤ room_1.cells ∧ n + 6 ≤ room_1.slots) (hJ : tl_J G x C thr0 ov0 od0 h) (kk : ∀ mc ms h2 thr ov od, mc ≤ 1 → ms ≤ 6 → tl_J G x (C + 1) thr ov od h2 → tp_Run l G mL_law room_1 Q (k + mc) (n + ms) h2 1997 [some (.ref (G.2.2.2 3)), some (.ref x), some (.ref (x + 298)), some (.ref (x + 303)), some (.ref (x + 304)), some (.int (nI (6 * C))), none, none, none] []) : tp_Run l G mL_law room_1 Q k n h 1666 [some (.ref (G.2.2.2 3)), some (.ref x), some (.ref (x + 298)), some (.ref (x + 303)), some (.ref (x + 304)), some (.int (nI (6 * C))), none, none, none] [] := by
  obtain ⟨u, π, ρ, us, σ, s, n9, tx, rd, z, hy, pa, R9, nu, du, hs, ov, od, N, P, hS, hV, -, -⟩ := hJ
  have hz := hV.z
  have hv := hV.i
  have hB := hV.B (by omega)
  have h8 := hz.n8
  have h9 := hz.n9
  have hn60 := hV.n60
  have hk0 : k + 0 ≤ room_1.cells ∧ n + 0 ≤ room_1.slots := by omega
  have hk1 : k + 1 ≤ room_1.cells ∧ n + 6 ≤ room_1.slots := hkk
  obtain ⟨p1, e1⟩ : ∃ p, sc G C 1 = p := ⟨_, rfl⟩
  obtain ⟨p2, e2⟩ : ∃ p, sc G C 2 = p := ⟨_, rfl⟩
  by_cases c1 : (0 ≤ p1 ∧ p1 ≤ 3) ∧ (0 ≤ p2 ∧ p2 ≤ 3)
  · obtain ⟨w, rfl, hw⟩ := sc_w c1.1
    obtain ⟨c, rfl, hc⟩ := sc_w c1.2
    obtain ⟨b, b1, b2, b3, b4⟩ := hv.free hz.z8 h8 hw hc
    obtain ⟨t, t1, t2⟩ := hv.z2
    exact L_room hl hC hN hk0 e1 e2 (WL_room (P := fun h1 => h1 = h) hl hS.cob (X_room hl hS.1 hw hc hz.u8 h8 ((hz.free hw hc).trans b4) (by omega) ((hz.hd (by omega)).trans t1) (by omega)) (fun h1 q => by rw [q]; exact hS.oc)) (fun h1 hF => by
      obtain ⟨hh, rfl, rfl⟩ := hF
      have hS1 := hS.out (Int32.toInt64 (nI (z_room t (b - kN z w c N))))
      exact ⟨_, _, _, hS1.mob, Q_room hl hS1.mm (hv.I1 hz.z8 h8 hz.z9 h9) (hv.I2 hz.z8 h8 hB) hw hc, fun h2 hq => ⟨_, _, (hS1.mod hq).J hV.next, fun _ => (va_up_eq _ _ _).trans (congrArg Int32.toInt64 (by unfold z_roomOf; rw [b4, t1, z_nI (by omega), z_nI (by omega)]))⟩⟩) (fun h2 thr ov od q => kk 0 0 h2 thr ov od (by decide) (by decide) q)
  · exact L_room hl hC hN hk1 e1 e2 (WX_room_1 hl hS.cob (X_room_1 hl hS.1 c1) (fun E h1 q => q.1)) (fun h1 hF => by
      obtain ⟨E, -, hF⟩ := hF
      have hS1 := hS.ex hF
      exact ⟨_, _, _, hS1.mob, Q_room_1 hl hS1.mm c1, fun h2 hq => ⟨_, _, (hS1.mod hq).J hV.next, fun q => absurd q (by decide)⟩⟩) (fun h2 thr ov od q => kk 1 6 h2 thr ov od (by decide) (by decide) q)


set_option maxRecDepth 100000 in
set_option maxHeartbeats 4000000 in
theorem T_whyNot {l : Launch} {G : tp_G} {Q : tp_Q} {k n : Nat} {h : tp_H} {x C : Nat} {thr0 : Int32} {ov0 : Int64} {od0 : UInt64} (hl : l.stackTraces = false) (hC : 6 * C + 6 ≤ G.2.2.2 4) (hN : G.2.2.2 4 ≤ 3072) (hkk : k + 1 ≤ room_1.cells ∧ n + 6 ≤ room_1.slots) (hJ : tl_J G x C thr0 ov0 od0 h) (kk : ∀ mc ms h2 thr ov od, mc ≤ 1 → ms ≤ 6 → tl_J G x (C + 1) thr ov od h2 → tp_Run l G mL_law room_1 Q (k + mc) (n + ms) h2 1997 [some (.ref (G.2.2.2 3)), some (.ref x), some (.ref (x + 298)), some (.ref (x + 303)), some (.ref (x + 304)), some (.int (nI (6 * C))), none, none, none] []) : tp_Run l G mL_law room_1 Q k n h 1734 [some (.ref (G.2.2.2 3)), some (.ref x), some (.ref (x + 298)), some (.ref (x + 303)), some (.ref (x + 304)), some (.int (nI (6 * C))), none, none, none] [] := by
  obtain ⟨u, π, ρ, us, σ, s, n9, tx, rd, z, hy, pa, R9, nu, du, hs, ov, od, N, P, hS, hV, -, -⟩ := hJ
  have hz := hV.z
  have hv := hV.i
  have hB := hV.B (by omega)
  have h8 := hz.n8
  have h9 := hz.n9
  have hn60 := hV.n60
  have hk0 : k + 0 ≤ room_1.cells ∧ n + 0 ≤ room_1.slots := by omega
  have hk1 : k + 1 ≤ room_1.cells ∧ n + 6 ≤ room_1.slots := hkk
  obtain ⟨p1, e1⟩ : ∃ p, sc G C 1 = p := ⟨_, rfl⟩
  obtain ⟨p2, e2⟩ : ∃ p, sc G C 2 = p := ⟨_, rfl⟩
  obtain ⟨p3, e3⟩ : ∃ p, sc G C 3 = p := ⟨_, rfl⟩
  obtain ⟨p4, e4⟩ : ∃ p, sc G C 4 = p := ⟨_, rfl⟩
  obtain ⟨p5, e5⟩ : ∃ p, sc G C 5 = p := ⟨_, rfl⟩
  by_cases c1 : (0 ≤ p2 ∧ p2 ≤ 3) ∧ (0 ≤ p3 ∧ p3 ≤ 3)
  · obtain ⟨w, rfl, hw⟩ := sc_w c1.1
    obtain ⟨f, rfl, hf⟩ := sc_w c1.2
    by_cases c4 : 0 ≤ p4 ∧ p4 ≤ 3
    · obtain ⟨t, rfl, ht⟩ := sc_w c4
      by_cases c2 : 1 ≤ p5 ∧ p5 ≤ 99999
      · obtain ⟨m, rfl, hm1, hm⟩ := sc_a c2
        by_cases c5 : 0 ≤ p1 ∧ p1 ≤ 2
        · obtain ⟨j, rfl, hj⟩ := sc_n (K := 2) c5.1 c5.2 (by omega)
          rcases (show j = 0 ∨ j = 1 ∨ j = 2 by omega) with rfl | rfl | rfl
          · exact L_whyNot hl hC hN hk0 e1 e2 e3 e4 e5 (WL_whyNot (P := fun h1 => h1 = h) hl hS.cob (X_whyNot hl hS.1 hz.u8 h8 hz.u9 h9 (j := 0) hw hf ht c2 (by omega)) (fun h1 q => by rw [q]; exact hS.oc)) (fun h1 hF => by
              obtain ⟨hh, rfl, rfl⟩ := hF
              have hS1 := hS.out (Int32.toInt64 (z_whyN u w f t (nI m) 0))
              exact ⟨_, _, _, hS1.mob, Q_whyNot0 hl hS1.mm hw hf ht hz.z8 h8 hz.z9 h9 c2, fun h2 hq => ⟨_, _, (hS1.mod hq).J hV.next, fun _ => (va_up_eq _ _ _).trans (congrArg Int32.toInt64 (hz.whyEx hw hf _))⟩⟩) (fun h2 thr ov od q => kk 0 0 h2 thr ov od (by decide) (by decide) q)
          · exact L_whyNot hl hC hN hk0 e1 e2 e3 e4 e5 (WL_whyNot (P := fun h1 => h1 = h) hl hS.cob (X_whyNot hl hS.1 hz.u8 h8 hz.u9 h9 (j := 1) hw hf ht c2 (by omega)) (fun h1 q => by rw [q]; exact hS.oc)) (fun h1 hF => by
              obtain ⟨hh, rfl, rfl⟩ := hF
              have hS1 := hS.out (Int32.toInt64 (z_whyN u w f t (nI m) 1))
              exact ⟨_, _, _, hS1.mob, Q_whyNot1 hl hS1.mm hw hf ht hz.z8 h8 hz.z9 h9 c2, fun h2 hq => ⟨_, _, (hS1.mod hq).J hV.next, fun _ => (va_up_eq _ _ _).trans (congrArg Int32.toInt64 (hz.whyHold hw hf _))⟩⟩) (fun h2 thr ov od q => kk 0 0 h2 thr ov od (by decide) (by decide) q)
          · exact L_whyNot hl hC hN hk0 e1 e2 e3 e4 e5 (WL_whyNot (P := fun h1 => h1 = h) hl hS.cob (X_whyNot hl hS.1 hz.u8 h8 hz.u9 h9 (j := 2) hw hf ht c2 (by omega)) (fun h1 q => by rw [q]; exact hS.oc)) (fun h1 hF => by
              obtain ⟨hh, rfl, rfl⟩ := hF
              have hS1 := hS.out (Int32.toInt64 (z_whyN u w f t (nI m) 2))
              exact ⟨_, _, _, hS1.mob, Q_whyNot2 hl hS1.mm hw hf ht hz.z8 h8 hz.z9 h9 c2, fun h2 hq => ⟨_, _, (hS1.mod hq).J hV.next, fun _ => (va_up_eq _ _ _).trans (congrArg Int32.toInt64 (hz.whyClose hw))⟩⟩) (fun h2 thr ov od q => kk 0 0 h2 thr ov od (by decide) (by decide) q)
        · exact L_whyNot hl hC hN hk1 e1 e2 e3 e4 e5 (WX_whyNot_2 hl hS.cob (X_whyNot_2b hl hS.1 hw hf ht c2 c5) (fun E h1 q => q.1)) (fun h1 hF => by
            obtain ⟨E, -, hF⟩ := hF
            have hS1 := hS.ex hF
            exact ⟨_, _, _, hS1.mob, Q_whyNot_2b hl hS1.mm c1 c4 c5, fun h2 hq => ⟨_, _, (hS1.mod hq).J hV.next, fun q => absurd q (by decide)⟩⟩) (fun h2 thr ov od q => kk 1 6 h2 thr ov od (by decide) (by decide) q)
      · by_cases c5 : 0 ≤ p1 ∧ p1 ≤ 2
        · exact L_whyNot hl hC hN hk1 e1 e2 e3 e4 e5 (WX_whyNot_2 hl hS.cob (X_whyNot_2 hl hS.1 hw hf ht c2) (fun E h1 q => q.1)) (fun h1 hF => by
            obtain ⟨E, -, hF⟩ := hF
            have hS1 := hS.ex hF
            exact ⟨_, _, _, hS1.mob, Q_whyNot_2 hl hS1.mm c1 c4 c5 c2, fun h2 hq => ⟨_, _, (hS1.mod hq).J hV.next, fun q => absurd q (by decide)⟩⟩) (fun h2 thr ov od q => kk 1 6 h2 thr ov od (by decide) (by decide) q)
        · exact L_whyNot hl hC hN hk1 e1 e2 e3 e4 e5 (WX_whyNot_2 hl hS.cob (X_whyNot_2 hl hS.1 hw hf ht c2) (fun E h1 q => q.1)) (fun h1 hF => by
            obtain ⟨E, -, hF⟩ := hF
            have hS1 := hS.ex hF
            exact ⟨_, _, _, hS1.mob, Q_whyNot_2b hl hS1.mm c1 c4 c5, fun h2 hq => ⟨_, _, (hS1.mod hq).J hV.next, fun q => absurd q (by decide)⟩⟩) (fun h2 thr ov od q => kk 1 6 h2 thr ov od (by decide) (by decide) q)
    · exact L_whyNot hl hC hN hk1 e1 e2 e3 e4 e5 (WX_whyNot_1 hl hS.cob (X_whyNot_1b hl hS.1 hw hf c4) (fun E h1 q => q.1)) (fun h1 hF => by
        obtain ⟨E, -, hF⟩ := hF
        have hS1 := hS.ex hF
        exact ⟨_, _, _, hS1.mob, Q_whyNot_1b hl hS1.mm c1 c4, fun h2 hq => ⟨_, _, (hS1.mod hq).J hV.next, fun q => absurd q (by decide)⟩⟩) (fun h2 thr ov od q => kk 1 6 h2 thr ov od (by decide) (by decide) q)
  · exact L_whyNot hl hC hN hk1 e1 e2 e3 e4 e5 (WX_whyNot_1 hl hS.cob (X_whyNot_1 hl hS.1 c1) (fun E h1 q => q.1)) (fun h1 hF => by
      obtain ⟨E, -, hF⟩ := hF
      have hS1 := hS.ex hF
      exact ⟨_, _, _, hS1.mob, Q_whyNot_1 hl hS1.mm c1, fun h2 hq => ⟨_, _, (hS1.mod hq).J hV.next, fun q => absurd q (by decide)⟩⟩) (fun h2 thr ov od q => kk 1 6 h2 thr ov od (by decide) (by decide) q)


set_option maxRecDepth 100000 in
set_option maxHeartbeats 4000000 in
theorem T_ifClosed {l : Launch} {G : tp_G} {Q : tp_Q} {k n : Nat} {h : tp_H} {x C : Nat} {thr0 : Int32} {ov0 : Int64} {od0 : UInt64} (hl : l.stackTraces = false) (hC : 6 * C + 6 ≤ G.2.2.2 4) (hN : G.2.2.2 4 ≤ 3072) (hkk : k + 1 ≤ room_1.cells ∧ n + 6 ≤ room_1.slots) (hJ : tl_J G x C thr0 ov0 od0 h) (kk : ∀ mc ms h2 thr ov od, mc ≤ 1 → ms ≤ 6 → tl_J G x (C + 1) thr ov od h2 → tp_Run l G mL_law room_1 Q (k + mc) (n + ms) h2 1997 [some (.ref (G.2.2.2 3)), some (.ref x), some (.ref (x + 298)), some (.ref (x + 303)), some (.ref (x + 304)), some (.int (nI (6 * C))), none, none, none] []) : tp_Run l G mL_law room_1 Q k n h 1838 [some (.ref (G.2.2.2 3)), some (.ref x), some (.ref (x + 298)), some (.ref (x + 303)), some (.ref (x + 304)), some (.int (nI (6 * C))), none, none, none] [] := by
  obtain ⟨u, π, ρ, us, σ, s, n9, tx, rd, z, hy, pa, R9, nu, du, hs, ov, od, N, P, hS, hV, -, -⟩ := hJ
  have hz := hV.z
  have hv := hV.i
  have hB := hV.B (by omega)
  have h8 := hz.n8
  have h9 := hz.n9
  have hn60 := hV.n60
  have hk0 : k + 0 ≤ room_1.cells ∧ n + 0 ≤ room_1.slots := by omega
  have hk1 : k + 1 ≤ room_1.cells ∧ n + 6 ≤ room_1.slots := hkk
  obtain ⟨p1, e1⟩ : ∃ p, sc G C 1 = p := ⟨_, rfl⟩
  by_cases c1 : 0 ≤ p1 ∧ p1 ≤ 3
  · obtain ⟨w, rfl, hw⟩ := sc_w c1
    exact L_ifClosed hl hC hN hk0 e1 (WL_ifClosed (P := fun h1 => h1 = h) hl hS.cob (X_ifClosed hl hS.1 hz.u8 h8 hz.u9 h9 hw) (fun h1 q => by rw [q]; exact hS.oc)) (fun h1 hF => by
      obtain ⟨hh, rfl, rfl⟩ := hF
      have hS1 := hS.out (Int32.toInt64 (k_closed u w))
      exact ⟨_, _, _, hS1.mob, Q_ifClosed hl hS1.mm (hv.I1 hz.z8 h8 hz.z9 h9) (hv.I2 hz.z8 h8 hB) hw, fun h2 hq => ⟨_, _, (hS1.mod hq).J hV.next, fun _ => (va_up_eq _ _ _).trans (congrArg Int32.toInt64 (hz.closed hv hB hw))⟩⟩) (fun h2 thr ov od q => kk 0 0 h2 thr ov od (by decide) (by decide) q)
  · exact L_ifClosed hl hC hN hk1 e1 (WX_ifClosed_1 hl hS.cob (X_ifClosed_1 hl hS.1 c1) (fun E h1 q => q.1)) (fun h1 hF => by
      obtain ⟨E, -, hF⟩ := hF
      have hS1 := hS.ex hF
      exact ⟨_, _, _, hS1.mob, Q_ifClosed_1 hl hS1.mm c1, fun h2 hq => ⟨_, _, (hS1.mod hq).J hV.next, fun q => absurd q (by decide)⟩⟩) (fun h2 thr ov od q => kk 1 6 h2 thr ov od (by decide) (by decide) q)


set_option maxRecDepth 100000 in
set_option maxHeartbeats 4000000 in
theorem T_heldShare {l : Launch} {G : tp_G} {Q : tp_Q} {k n : Nat} {h : tp_H} {x C : Nat} {thr0 : Int32} {ov0 : Int64} {od0 : UInt64} (hl : l.stackTraces = false) (hC : 6 * C + 6 ≤ G.2.2.2 4) (hN : G.2.2.2 4 ≤ 3072) (hkk : k + 1 ≤ room_1.cells ∧ n + 6 ≤ room_1.slots) (hJ : tl_J G x C thr0 ov0 od0 h) (kk : ∀ mc ms h2 thr ov od, mc ≤ 1 → ms ≤ 6 → tl_J G x (C + 1) thr ov od h2 → tp_Run l G mL_law room_1 Q (k + mc) (n + ms) h2 1997 [some (.ref (G.2.2.2 3)), some (.ref x), some (.ref (x + 298)), some (.ref (x + 303)), some (.ref (x + 304)), some (.int (nI (6 * C))), none, none, none] []) : tp_Run l G mL_law room_1 Q k n h 1894 [some (.ref (G.2.2.2 3)), some (.ref x), some (.ref (x + 298)), some (.ref (x + 303)), some (.ref (x + 304)), some (.int (nI (6 * C))), none, none, none] [] := by
  obtain ⟨u, π, ρ, us, σ, s, n9, tx, rd, z, hy, pa, R9, nu, du, hs, ov, od, N, P, hS, hV, -, -⟩ := hJ
  have hz := hV.z
  have hv := hV.i
  have hB := hV.B (by omega)
  have h8 := hz.n8
  have h9 := hz.n9
  have hn60 := hV.n60
  have hk0 : k + 0 ≤ room_1.cells ∧ n + 0 ≤ room_1.slots := by omega
  have hk1 : k + 1 ≤ room_1.cells ∧ n + 6 ≤ room_1.slots := hkk
  obtain ⟨p1, e1⟩ : ∃ p, sc G C 1 = p := ⟨_, rfl⟩
  obtain ⟨p2, e2⟩ : ∃ p, sc G C 2 = p := ⟨_, rfl⟩
  by_cases c1 : (0 ≤ p1 ∧ p1 ≤ 3) ∧ (0 ≤ p2 ∧ p2 ≤ 3)
  · obtain ⟨w, rfl, hw⟩ := sc_w c1.1
    obtain ⟨c, rfl, hc⟩ := sc_w c1.2
    have hsh := hv.shr hz.z8 h8 hB hw hc
    have hfin := z_shr_fin hsh
    exact L_heldShare hl hC hN hk0 e1 e2 (WL_heldShare (P := fun h1 => h1 = h) hl hS.cob (X_heldShare hl hS.1 hw hc hz.u8 h8 (by rw [hz.share hw hc]; exact hfin)) (fun h1 q => by rw [q]; exact hS.oD)) (fun h1 hF => by
      obtain ⟨hh, rfl, rfl⟩ := hF
      have hS1 := hS.outD (z_share u w c)
      exact ⟨_, _, _, hS1.mob, Q_heldShare hl hS1.mm (hv.I1 hz.z8 h8 hz.z9 h9) (hv.I2 hz.z8 h8 hB) hw hc, fun h2 hq => ⟨_, _, (hS1.mod hq).J hV.next, fun _ => ⟨(va_up_eq _ _ _).trans (hz.share hw hc), hfin.2⟩⟩⟩) (fun h2 thr ov od q => kk 0 0 h2 thr ov od (by decide) (by decide) q)
  · exact L_heldShare hl hC hN hk1 e1 e2 (WX_heldShare_1 hl hS.cob (X_heldShare_1 hl hS.1 c1) (fun E h1 q => q.1)) (fun h1 hF => by
      obtain ⟨E, -, hF⟩ := hF
      have hS1 := hS.ex hF
      exact ⟨_, _, _, hS1.mob, Q_heldShare_1 hl hS1.mm c1, fun h2 hq => ⟨_, _, (hS1.mod hq).J hV.next, fun q => absurd q (by decide)⟩⟩) (fun h2 thr ov od q => kk 1 6 h2 thr ov od (by decide) (by decide) q)


