set_option maxRecDepth 100000 in
set_option maxHeartbeats 4000000 in
theorem T_run_ok {l : Launch} {G : tp_G} {Q : tp_Q} {k n : Nat} {h : tp_H} {x C : Nat} {u z hy tx rd pa : Nat → Int32} {π ρ : Nat → Nat} {us : Nat → Nat → Int32} {σ : Nat → Nat} {s n9 N P : Nat} {thr0 R9 nu du : Int32} {hs : Int64} {ov : Nat → Int64} {od : Nat → UInt64} (hl : l.stackTraces = false) (hC : 6 * C + 6 ≤ G.2.2.2 4) (hN : G.2.2.2 4 ≤ 3072) (hk0 : k + 0 ≤ room_1.cells ∧ n + 0 ≤ room_1.slots) (hS : tl_S G x u π ρ us σ (nI s) (nI n9) tx rd z hy tx pa (nI s) (nI n9) thr0 R9 nu du hs ov od h) (hV : tl_V C u z us hy s n9 tx N P) (hB : 1000000 * (C - n9) < 2 ^ 30) (c1 : p_good tx (pa, 0, nu, 0) n9) (kk : ∀ h2 thr ov od, tl_J G x (C + 1) thr ov od h2 → tp_Run l G mL_law room_1 Q (k + 0) (n + 0) h2 1997 [some (.ref (G.2.2.2 3)), some (.ref x), some (.ref (x + 298)), some (.ref (x + 303)), some (.ref (x + 304)), some (.int (nI (6 * C))), none, none, none] []) : tp_Run l G mL_law room_1 Q k n h 1078 [some (.ref (G.2.2.2 3)), some (.ref x), some (.ref (x + 298)), some (.ref (x + 303)), some (.ref (x + 304)), some (.int (nI (6 * C))), none, none, none] [] := by
  have hz := hV.z
  have hv := hV.i
  have h8 := hz.n8
  have h9 := hz.n9
  have hn60 := hV.n60
  have hnC := hV.nC
  obtain ⟨g1, g2, g3⟩ := id c1
  obtain ⟨ga, gb⟩ := p_rt_all (tx := tx) (s0 := (pa, 0, nu, 0)) n9 0 (by omega)
  rw [Nat.zero_add] at ga gb
  rw [ga] at g2 g3
  obtain ⟨⟨rdx, q1⟩, q2⟩ := p_rows hV.tx (fun j hj => gb j (by omega) hj) ⟨fun _ => 0, Or.inl ⟨rfl, fun _ _ => rfl⟩⟩ rfl n9 (Nat.le_refl _)
  have hw : ∀ R, R ≤ (p_it tx (pa, 0, nu, 0) n9).2.1 → w_row (p_it tx (pa, 0, nu, 0) n9).1 R := fun R hR => by
    by_cases e : R < (p_it tx (pa, 0, nu, 0) n9).2.1
    · exact q2 R e
    · have e2 : R = (p_it tx (pa, 0, nu, 0) n9).2.1 := by omega
      rw [e2]
      exact (rp_full q1 g2 g3).1
  have hJ := (p_J_it (tx := tx) (p_J0 pa nu) n9).2.2
  have hJ4 : (p_it tx (pa, 0, nu, 0) n9).2.1 + 1 ≤ n9 := by
    unfold p_w at hJ
    rw [g2, if_neg (by omega), if_neg (by omega), if_neg g3] at hJ
    omega
  obtain ⟨m1, N2, m2, m3⟩ := c_many (P := P) (pa := (p_it tx (pa, 0, nu, 0) n9).1) ((p_it tx (pa, 0, nu, 0) n9).2.1 + 1) 0 (1000000 * (C - n9)) N u z hz hv (by omega) (fun j _ hj => hw j (by omega))
  have newV : tl_V (C + 1) (r_many (fun u => c_ok u (p_it tx (pa, 0, nu, 0) n9).1) (fun u => c_do u (p_it tx (pa, 0, nu, 0) n9).1) ((p_it tx (pa, 0, nu, 0) n9).2.1 + 1) 0 u).2 (r_many (fun u => m_ok u (p_it tx (pa, 0, nu, 0) n9).1) (fun u => m_do u (p_it tx (pa, 0, nu, 0) n9).1) ((p_it tx (pa, 0, nu, 0) n9).2.1 + 1) 0 z).2 (kx_us us s u N P) (z_saveH hy z s) (z_saveN s) 0 tx N2 P := ⟨⟨⟨m2, m3.mono (by omega)⟩, (hV.s.save hz hv).mono (by omega)⟩, ⟨by omega, by omega⟩, fun i hi => absurd hi (Nat.not_lt_zero i)⟩
  exact L_run hl hC hN hk0 (WL_run hl hS.cob (X_run hl hn60 hV.tx hS.1 c1 rfl hV.s6 hz.u8 h8 hz.u9 h9) (fun h1 q => by
      obtain ⟨σ1, rd1, q⟩ := q
      exact (hS.cls q).oc)) (fun h1 hF => by
    obtain ⟨hh, ⟨σ1, rd1, q⟩, rfl⟩ := hF
    have hS1 := (hS.cls q).out (Int32.toInt64 (nI (r_many (fun u => c_ok u (p_it tx (pa, 0, nu, 0) n9).1) (fun u => c_do u (p_it tx (pa, 0, nu, 0) n9).1) ((p_it tx (pa, 0, nu, 0) n9).2.1 + 1) 0 u).1))
    exact ⟨_, _, _, hS1.mob, Q_run (P := fun i z' => ∃ u' N', zr N' P u' z' ∧ iv (1000000 * (C - n9) + 1000000 * i) N' P z') hl hS1.mm hV.s6 hn60 hw (fun i z' hi q => by
        obtain ⟨u', N', r1, r2⟩ := q
        exact r2.mP r1.z8 r1.n8 (by omega)) (fun i z' q hi hok => by
        obtain ⟨u', N', r1, r2⟩ := q
        obtain ⟨-, r3⟩ := c_step (R := i) r1 r2 (by omega) (hw i hi)
        obtain ⟨N3, r4, r5⟩ := r3 hok
        exact ⟨_, N3, r4, r5.mono (by omega)⟩) ⟨u, N, hz, hv.mono (by omega)⟩ c1, fun h2 hq => ⟨_, _, tl_S.J (n := 0) (hS1.mod hq) newV, fun _ => (va_up_eq _ _ _).trans (congrArg (fun q => Int32.toInt64 (nI q)) m1)⟩⟩) kk


set_option maxRecDepth 100000 in
set_option maxHeartbeats 4000000 in
theorem T_run {l : Launch} {G : tp_G} {Q : tp_Q} {k n : Nat} {h : tp_H} {x C : Nat} {thr0 : Int32} {ov0 : Int64} {od0 : UInt64} (hl : l.stackTraces = false) (hC : 6 * C + 6 ≤ G.2.2.2 4) (hN : G.2.2.2 4 ≤ 3072) (hkk : k + 1 ≤ room_1.cells ∧ n + 6 ≤ room_1.slots) (hJ : tl_J G x C thr0 ov0 od0 h) (kk : ∀ mc ms h2 thr ov od, mc ≤ 1 → ms ≤ 6 → tl_J G x (C + 1) thr ov od h2 → tp_Run l G mL_law room_1 Q (k + mc) (n + ms) h2 1997 [some (.ref (G.2.2.2 3)), some (.ref x), some (.ref (x + 298)), some (.ref (x + 303)), some (.ref (x + 304)), some (.int (nI (6 * C))), none, none, none] []) : tp_Run l G mL_law room_1 Q k n h 1078 [some (.ref (G.2.2.2 3)), some (.ref x), some (.ref (x + 298)), some (.ref (x + 303)), some (.ref (x + 304)), some (.int (nI (6 * C))), none, none, none] [] := by
  obtain ⟨u, π, ρ, us, σ, s, n9, tx, rd, z, hy, pa, R9, nu, du, hs, ov, od, N, P, hS, hV, -, -⟩ := hJ
  have hz := hV.z
  have hv := hV.i
  have hB := hV.B (by omega)
  have h8 := hz.n8
  have h9 := hz.n9
  have hn60 := hV.n60
  have hk0 : k + 0 ≤ room_1.cells ∧ n + 0 ≤ room_1.slots := by omega
  have hk1 : k + 1 ≤ room_1.cells ∧ n + 6 ≤ room_1.slots := hkk
  by_cases c1 : p_good tx (pa, 0, nu, 0) n9
  · exact T_run_ok hl hC hN hk0 hS hV hB c1 (fun h2 thr ov od q => kk 0 0 h2 thr ov od (by decide) (by decide) q)
  · exact L_run hl hC hN hk1 (WX_run_1 hl hS.cob (X_run_1 hl hn60 hV.tx hS.1 c1) (fun E h1 q => q.1)) (fun h1 hF => by
      obtain ⟨E, -, rd1, q⟩ := hF
      have hS1 := hS.cls q
      exact ⟨_, _, _, hS1.mob, Q_run_1 hl hS1.mm hn60 c1, fun h2 hq => ⟨_, _, (hS1.mod hq).J hV.next, fun q => absurd q (by decide)⟩⟩) (fun h2 thr ov od q => kk 1 6 h2 thr ov od (by decide) (by decide) q)


set_option maxRecDepth 100000 in
set_option maxHeartbeats 4000000 in
theorem T_clearBuffer {l : Launch} {G : tp_G} {Q : tp_Q} {k n : Nat} {h : tp_H} {x C : Nat} {thr0 : Int32} {ov0 : Int64} {od0 : UInt64} (hl : l.stackTraces = false) (hC : 6 * C + 6 ≤ G.2.2.2 4) (hN : G.2.2.2 4 ≤ 3072) (hkk : k + 1 ≤ room_1.cells ∧ n + 6 ≤ room_1.slots) (hJ : tl_J G x C thr0 ov0 od0 h) (kk : ∀ mc ms h2 thr ov od, mc ≤ 1 → ms ≤ 6 → tl_J G x (C + 1) thr ov od h2 → tp_Run l G mL_law room_1 Q (k + mc) (n + ms) h2 1997 [some (.ref (G.2.2.2 3)), some (.ref x), some (.ref (x + 298)), some (.ref (x + 303)), some (.ref (x + 304)), some (.int (nI (6 * C))), none, none, none] []) : tp_Run l G mL_law room_1 Q k n h 1052 [some (.ref (G.2.2.2 3)), some (.ref x), some (.ref (x + 298)), some (.ref (x + 303)), some (.ref (x + 304)), some (.int (nI (6 * C))), none, none, none] [] := by
  obtain ⟨u, π, ρ, us, σ, s, n9, tx, rd, z, hy, pa, R9, nu, du, hs, ov, od, N, P, hS, hV, -, -⟩ := hJ
  have hz := hV.z
  have hv := hV.i
  have hB := hV.B (by omega)
  have h8 := hz.n8
  have h9 := hz.n9
  have hn60 := hV.n60
  have hk0 : k + 0 ≤ room_1.cells ∧ n + 0 ≤ room_1.slots := by omega
  have hk1 : k + 1 ≤ room_1.cells ∧ n + 6 ≤ room_1.slots := hkk
  have hn60 := hV.n60
  refine r_aload1 dL_law_1052 ?_
  refine r_sV1 dL_law_1053 v_L_154 (X_clearBuffer hl hS.1) rfl hS.cob rfl rfl rfl (Nat.le_of_ble_eq_true rfl) ⟨(Nat.le_of_ble_eq_true rfl), (Nat.le_of_ble_eq_true rfl)⟩ ⟨(by omega : k ≤ room_1.cells), (by omega : n ≤ room_1.slots)⟩ (fun h1 q => ?_)
  have hS1 := hS.cls q
  refine r_aload2 dL_law_1056 ?_
  refine r_sV1 dL_law_1057 v_L_157 (Q_clearBuffer hl hS1.mm) rfl hS1.mob rfl rfl rfl (Nat.le_of_ble_eq_true rfl) ⟨(Nat.le_of_ble_eq_true rfl), (Nat.le_of_ble_eq_true rfl)⟩ ⟨(by omega : k ≤ room_1.cells), (by omega : n ≤ room_1.slots)⟩ (fun h2 hq => ?_)
  refine r_icmp_eq (tgt := 1997) dL_law_1060 (by decide) (fun c1060 => ?_) (fun c1060 => ?_)
  · exact kk 0 0 _ _ _ _ (by decide) (by decide) (tl_S.J (n := 0) (hS1.mod hq) hV.clr)
  · exact absurd rfl c1060

set_option maxRecDepth 100000 in
set_option maxHeartbeats 4000000 in
theorem T_firstError {l : Launch} {G : tp_G} {Q : tp_Q} {k n : Nat} {h : tp_H} {x C : Nat} {thr0 : Int32} {ov0 : Int64} {od0 : UInt64} (hl : l.stackTraces = false) (hC : 6 * C + 6 ≤ G.2.2.2 4) (hN : G.2.2.2 4 ≤ 3072) (hkk : k + 1 ≤ room_1.cells ∧ n + 6 ≤ room_1.slots) (hJ : tl_J G x C thr0 ov0 od0 h) (kk : ∀ mc ms h2 thr ov od, mc ≤ 1 → ms ≤ 6 → tl_J G x (C + 1) thr ov od h2 → tp_Run l G mL_law room_1 Q (k + mc) (n + ms) h2 1997 [some (.ref (G.2.2.2 3)), some (.ref x), some (.ref (x + 298)), some (.ref (x + 303)), some (.ref (x + 304)), some (.int (nI (6 * C))), none, none, none] []) : tp_Run l G mL_law room_1 Q k n h 1065 [some (.ref (G.2.2.2 3)), some (.ref x), some (.ref (x + 298)), some (.ref (x + 303)), some (.ref (x + 304)), some (.int (nI (6 * C))), none, none, none] [] := by
  obtain ⟨u, π, ρ, us, σ, s, n9, tx, rd, z, hy, pa, R9, nu, du, hs, ov, od, N, P, hS, hV, -, -⟩ := hJ
  have hz := hV.z
  have hv := hV.i
  have hB := hV.B (by omega)
  have h8 := hz.n8
  have h9 := hz.n9
  have hn60 := hV.n60
  have hk0 : k + 0 ≤ room_1.cells ∧ n + 0 ≤ room_1.slots := by omega
  have hk1 : k + 1 ≤ room_1.cells ∧ n + 6 ≤ room_1.slots := hkk
  have hn60 := hV.n60
  refine r_aload1 dL_law_1065 ?_
  refine r_sV1 dL_law_1066 v_L_158 (X_firstError hl hn60 hV.tx hS.1 pa nu) rfl hS.cob rfl rfl rfl (Nat.le_of_ble_eq_true rfl) ⟨(Nat.le_of_ble_eq_true rfl), (Nat.le_of_ble_eq_true rfl)⟩ ⟨(by omega : k ≤ room_1.cells), (by omega : n ≤ room_1.slots)⟩ (fun h1 q => ?_)
  obtain ⟨rd1, q, -⟩ := q
  have hS1 := hS.cls q
  refine r_aload2 dL_law_1069 ?_
  refine r_sV1 dL_law_1070 v_L_161 (Q_firstError hl hS1.mm hn60) rfl hS1.mob rfl rfl rfl (Nat.le_of_ble_eq_true rfl) ⟨(Nat.le_of_ble_eq_true rfl), (Nat.le_of_ble_eq_true rfl)⟩ ⟨(by omega : k ≤ room_1.cells), (by omega : n ≤ room_1.slots)⟩ (fun h2 hq => ?_)
  refine r_icmp_eq (tgt := 1997) dL_law_1073 (by decide) (fun c1073 => ?_) (fun c1073 => ?_)
  · exact kk 0 0 _ _ _ _ (by decide) (by decide) ((hS1.mod hq).J hV.next)
  · exact absurd rfl c1073

set_option maxRecDepth 100000 in
set_option maxHeartbeats 4000000 in
theorem T_digest {l : Launch} {G : tp_G} {Q : tp_Q} {k n : Nat} {h : tp_H} {x C : Nat} {thr0 : Int32} {ov0 : Int64} {od0 : UInt64} (hl : l.stackTraces = false) (hC : 6 * C + 6 ≤ G.2.2.2 4) (hN : G.2.2.2 4 ≤ 3072) (hkk : k + 1 ≤ room_1.cells ∧ n + 6 ≤ room_1.slots) (hJ : tl_J G x C thr0 ov0 od0 h) (kk : ∀ mc ms h2 thr ov od, mc ≤ 1 → ms ≤ 6 → tl_J G x (C + 1) thr ov od h2 → tp_Run l G mL_law room_1 Q (k + mc) (n + ms) h2 1997 [some (.ref (G.2.2.2 3)), some (.ref x), some (.ref (x + 298)), some (.ref (x + 303)), some (.ref (x + 304)), some (.int (nI (6 * C))), none, none, none] []) : tp_Run l G mL_law room_1 Q k n h 1983 [some (.ref (G.2.2.2 3)), some (.ref x), some (.ref (x + 298)), some (.ref (x + 303)), some (.ref (x + 304)), some (.int (nI (6 * C))), none, none, none] [] := by
  obtain ⟨u, π, ρ, us, σ, s, n9, tx, rd, z, hy, pa, R9, nu, du, hs, ov, od, N, P, hS, hV, -, -⟩ := hJ
  have hz := hV.z
  have hv := hV.i
  have hB := hV.B (by omega)
  have h8 := hz.n8
  have h9 := hz.n9
  have hn60 := hV.n60
  have hk0 : k + 0 ≤ room_1.cells ∧ n + 0 ≤ room_1.slots := by omega
  have hk1 : k + 1 ≤ room_1.cells ∧ n + 6 ≤ room_1.slots := hkk
  have hn60 := hV.n60
  refine r_aload1 dL_law_1983 ?_
  refine r_pV dL_law_1984 v_L_204 (X_digest hl hS.1 (hz.I1 hv) (hz.I2 hv hB) rfl hn60) rfl hS.cob rfl rfl rfl (Nat.le_of_ble_eq_true rfl) ⟨(Nat.le_of_ble_eq_true rfl), (Nat.le_of_ble_eq_true rfl)⟩ ⟨(by omega : k ≤ room_1.cells), (by omega : n ≤ room_1.slots)⟩ ?_
  refine r_aload2 dL_law_1987 ?_
  refine r_sV1 dL_law_1988 v_L_208 (M_digest hl hS.mm hn60 (hv.I1 hz.z8 h8 hz.z9 h9) (hv.I2 hz.z8 h8 hB)) rfl hS.mob rfl rfl rfl (Nat.le_of_ble_eq_true rfl) ⟨(Nat.le_of_ble_eq_true rfl), (Nat.le_of_ble_eq_true rfl)⟩ ⟨(by omega : k ≤ room_1.cells), (by omega : n ≤ room_1.slots)⟩ (fun h2 hq => ?_)
  rw [hz.digest hv hB]
  refine r_lcmp dL_law_1991 ?_
  rw [lg_cmp_self]
  refine r_if_eq (tgt := 1997) dL_law_1992 (by decide) (fun c1992 => ?_) (fun c1992 => ?_)
  · exact kk 0 0 _ _ _ _ (by decide) (by decide) ((hS.mod hq).J hV.next)
  · exact absurd rfl c1992

