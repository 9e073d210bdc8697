def p_good (tx : Nat → Int32) (s0 : p_S) (n : Nat) : Prop := (p_rt tx s0 n 0).1 = n ∧ (p_rt tx s0 n 0).2.2.2.2 = 5 ∧ ¬ (p_rt tx s0 n 0).2.2.2.1 = -1
theorem p_rt_le (tx : Nat → Int32) (s0 : p_S) : ∀ d k, (p_rt tx s0 d k).1 ≤ k + d
  | 0, k => Nat.le_refl _
  | d + 1, k => by
    unfold p_rt
    split
    · have := p_rt_le tx s0 d (k + 1)
      omega
    · show k ≤ _
      omega
theorem p_rt_all {tx : Nat → Int32} {s0 : p_S} : ∀ d k, (p_rt tx s0 d k).1 = k + d → (p_rt tx s0 d k).2 = p_it tx s0 (k + d) ∧ ∀ j, k ≤ j → j < k + d → p_ok (p_it tx s0 j) (tx j) = true
  | 0, k, _ => ⟨rfl, fun j h1 h2 => absurd h2 (by omega)⟩
  | d + 1, k, h => by
    by_cases c : p_ok (p_it tx s0 k) (tx k) = true
    · have e : p_rt tx s0 (d + 1) k = p_rt tx s0 d (k + 1) := if_pos c
      rw [e] at h ⊢
      obtain ⟨h1, h2⟩ := p_rt_all (tx := tx) (s0 := s0) d (k + 1) (by omega)
      rw [show k + (d + 1) = k + 1 + d by omega]
      refine ⟨h1, fun j j1 j2 => ?_⟩
      by_cases ej : j = k
      · rw [ej]; exact c
      · exact h2 j (by omega) j2
    · have e : p_rt tx s0 (d + 1) k = (k, p_it tx s0 (k + 1)) := if_neg c
      rw [e] at h
      exact absurd (show k = k + (d + 1) from h) (by omega)
theorem rp_whole {s : p_S} {rd : Nat → Int32} (hR : rp_R s rd) : 0 < rd 4 ↔ (s.2.2.2 = 5 ∧ ¬ s.2.2.1 = -1) := by
  rcases hR with ⟨hD0, hz⟩ | ⟨hD1, hD5, hs, h0, m, h5, hm3, hm4, hq, hz, hlow, hhigh⟩
  · rw [hz 4 (by omega)]
    exact ⟨fun z => absurd z (by decide), fun z => absurd z.1 (by omega)⟩
  · by_cases h : s.2.2.2 = 5
    · obtain ⟨-, ⟨z1, z2⟩ | ⟨v, v1, v2, v3, v4, -⟩⟩ := hhigh h
      · rw [z2]
        exact ⟨fun z => absurd z (by decide), fun z => absurd z1 z.2⟩
      · rw [v4, v3, show (0 : Int32) = nI 0 from rfl, tp_lt (by omega) (by omega)]
        exact ⟨fun _ => ⟨h, rp_n1 (by omega)⟩, fun _ => v1⟩
    · obtain ⟨-, -, z⟩ := hlow (by omega)
      rw [z]
      exact ⟨fun z => absurd z (by decide), fun z => absurd z.1 h⟩
set_option maxRecDepth 100000 in
set_option maxHeartbeats 4000000 in
theorem X_run {l : Launch} {G : tp_G} {x : Nat} {h0 h : tp_H} {u : Nat → Int32} {π ρ : Nat → Nat} {us : Nat → Nat → Int32} {σ : Nat → Nat} {st : Int32} {tx rd : Nat → Int32} {n : Nat} (hl : l.stackTraces = false) (hn : n ≤ 60) (htx : ∀ i, i < n → ∃ t, t < 128 ∧ tx i = nI t) (hT0 : kx_S G x h0 u π ρ us σ st (nI n) tx rd h) {pa : Nat → Int32} {nu : Int32} (hg : p_good tx (pa, 0, nu, 0) n) {s N P : Nat} (hst : st = nI s) (hs6 : s ≤ 6) (hu8 : u 8 = nI N) (hN : N ≤ 8) (hu9 : u 9 = nI P) (hP9 : P ≤ 12) : tp_Met l G mX5_run 0 0 [.ref x] h (tp_PS (some (.int (nI (r_many (fun u => c_ok u (p_it tx (pa, 0, nu, 0) n).1) (fun u => c_do u (p_it tx (pa, 0, nu, 0) n).1) ((p_it tx (pa, 0, nu, 0) n).2.1 + 1) 0 u).1))) (fun h2 => ∃ σ1 rd', kx_S G x h (r_many (fun u => c_ok u (p_it tx (pa, 0, nu, 0) n).1) (fun u => c_do u (p_it tx (pa, 0, nu, 0) n).1) ((p_it tx (pa, 0, nu, 0) n).2.1 + 1) 0 u).2 π ρ (kx_us us s u N P) σ1 (nI (z_saveN s)) 0 tx rd' h2)) tp_NX := by
  have hT := hT0.self
  obtain ⟨g1, g2, g3⟩ := hg
  obtain ⟨ga, gb⟩ := p_rt_all (tx := tx) (s0 := (pa, 0, nu, 0)) n 0 (by omega)
  rw [Nat.zero_add] at ga gb
  rw [ga] at g2 g3
  refine tp_start (L0 := [some (.ref x), none]) (by decide) rfl hl (Nat.le_of_ble_eq_true rfl) rfl ?_
  refine r_aload0 dX5_run_0 ?_
  refine r_sV1 dX5_run_1 v_X5_205 (X_firstError hl hn htx hT pa nu) rfl (hT.ob) rfl rfl rfl (Nat.le_of_ble_eq_true rfl) ⟨(Nat.le_of_ble_eq_true rfl), (Nat.le_of_ble_eq_true rfl)⟩ ⟨(Nat.le_of_ble_eq_true rfl), (Nat.le_of_ble_eq_true rfl)⟩ (fun h1 hP => ?_)
  obtain ⟨rd1, hP, hR1⟩ := hP
  have hT := hT.trans hP
  refine r_aload0 dX5_run_4 ?_
  refine r_getf dX5_run_5 f_X5_193 (hT.ob) rfl ?_
  refine r_icmp_lt (tgt := 21) dX5_run_8 (by decide) (fun c8 => ?_) (fun c8 => ?_)
  · rw [g1, tp_lt (by omega) (by omega)] at c8; omega
  · refine r_aload0 dX5_run_11 ?_
    refine r_getf dX5_run_12 f_X5_27 (hT.ob) rfl ?_
    refine r_pV dX5_run_15 v_X5_208 (R_isOrderWhole hl hT.rr) rfl (hT.re) rfl rfl rfl (Nat.le_of_ble_eq_true rfl) ⟨(Nat.le_of_ble_eq_true rfl), (Nat.le_of_ble_eq_true rfl)⟩ ⟨(Nat.le_of_ble_eq_true rfl), (Nat.le_of_ble_eq_true rfl)⟩ ?_
    refine r_if_ne (tgt := 31) dX5_run_18 (by decide) (fun c18 => ?_) (fun c18 => ?_)
    · refine r_aload0 dX5_run_31 ?_
      refine r_sV0 dX5_run_32 v_X5_50 (X_saveState hl hT hst hs6 hu8 hN hu9 hP9) rfl (hT.ob) rfl rfl rfl (Nat.le_of_ble_eq_true rfl) ⟨(Nat.le_of_ble_eq_true rfl), (Nat.le_of_ble_eq_true rfl)⟩ ⟨(Nat.le_of_ble_eq_true rfl), (Nat.le_of_ble_eq_true rfl)⟩ (fun h1 hP => ?_)
      obtain ⟨σ1, hP⟩ := hP
      have hT := hT.trans hP
      refine r_aload0 dX5_run_35 ?_
      refine r_sV1 dX5_run_36 v_X5_214 (X_carryOutRow (pa := pa) (nu := nu) hl hn htx (fun j hj => gb j (by omega) hj) g2 g3 hT hu8 hN) rfl (hT.ob) rfl rfl rfl (Nat.le_of_ble_eq_true rfl) ⟨(Nat.le_of_ble_eq_true rfl), (Nat.le_of_ble_eq_true rfl)⟩ ⟨(Nat.le_of_ble_eq_true rfl), (Nat.le_of_ble_eq_true rfl)⟩ (fun h1 hP => ?_)
      obtain ⟨rd2, hP⟩ := hP
      have hT := hT.trans hP
      refine r_istore1 dX5_run_39 (Nat.le_of_ble_eq_true rfl) rfl ?_
      refine r_aload0 dX5_run_40 ?_
      refine r_iconst (v := 0) dX5_run_41 (by decide) ?_
      refine kx_put_bufferLength dX5_run_42 f_X5_193 hT (fun h1 hT => ?_)
      refine r_iload1 dX5_run_45 ?_
      exact r_iret dX5_run_46 rfl ⟨(Nat.le_of_ble_eq_true rfl), (Nat.le_of_ble_eq_true rfl)⟩ ⟨rfl, σ1, rd2, hT⟩
    · exact absurd ((rp_whole (by rw [← ga]; exact hR1 g1)).mpr ⟨g2, g3⟩) (tp_b_0.mp (by first | exact c18 | exact Classical.not_not.mp c18))

set_option maxRecDepth 100000 in
set_option maxHeartbeats 4000000 in
theorem X_run_1 {l : Launch} {G : tp_G} {x : Nat} {h0 h : tp_H} {u : Nat → Int32} {π ρ : Nat → Nat} {us : Nat → Nat → Int32} {σ : Nat → Nat} {st : Int32} {tx rd : Nat → Int32} {n : Nat} (hl : l.stackTraces = false) (hn : n ≤ 60) (htx : ∀ i, i < n → ∃ t, t < 128 ∧ tx i = nI t) (hT0 : kx_S G x h0 u π ρ us σ st (nI n) tx rd h) {pa : Nat → Int32} {nu : Int32} (hg : ¬ p_good tx (pa, 0, nu, 0) n) : tp_Met l G mX5_run 1 6 [.ref x] h ((fun _ _ => False)) (fun E h1 => E = "java/lang/IllegalArgumentException" ∧ ∃ rd', kx_S G x h u π ρ us σ st (nI n) tx rd' h1) := by
  have hT := hT0.self
  refine tp_start (L0 := [some (.ref x), none]) (by decide) rfl hl (Nat.le_of_ble_eq_true rfl) rfl ?_
  refine r_aload0 dX5_run_0 ?_
  refine r_sV1 dX5_run_1 v_X5_205 (X_firstError hl hn htx hT pa nu) rfl (hT.ob) rfl rfl rfl (Nat.le_of_ble_eq_true rfl) ⟨(Nat.le_of_ble_eq_true rfl), (Nat.le_of_ble_eq_true rfl)⟩ ⟨(Nat.le_of_ble_eq_true rfl), (Nat.le_of_ble_eq_true rfl)⟩ (fun h1 hP => ?_)
  obtain ⟨rd1, hP, hR1⟩ := hP
  have hT := hT.trans hP
  refine r_aload0 dX5_run_4 ?_
  refine r_getf dX5_run_5 f_X5_193 (hT.ob) rfl ?_
  refine r_icmp_lt (tgt := 21) dX5_run_8 (by decide) (fun c8 => ?_) (fun c8 => ?_)
  · exact r_throwS (is := 212) (text := "not a complete row of orders") xl_IllegalArgumentException rfl (by decide) rfl (Nat.le_of_ble_eq_true rfl) (Nat.le_of_ble_eq_true rfl) ⟨(Nat.le_of_ble_eq_true rfl), (Nat.le_of_ble_eq_true rfl)⟩ ⟨(Nat.le_of_ble_eq_true rfl), (Nat.le_of_ble_eq_true rfl)⟩ dX5_run_21 dX5_run_24 dX5_run_25 dX5_run_27 dX5_run_30 (fun n' hn => ⟨rfl, rd1, hT⟩)
  · have e1 : (p_rt tx (pa, 0, nu, 0) n 0).1 = n := by
      have hle := p_rt_le tx (pa, 0, nu, 0) n 0
      rw [tp_lt (by omega) (by omega)] at c8
      omega
    refine r_aload0 dX5_run_11 ?_
    refine r_getf dX5_run_12 f_X5_27 (hT.ob) rfl ?_
    refine r_pV dX5_run_15 v_X5_208 (R_isOrderWhole hl hT.rr) rfl (hT.re) rfl rfl rfl (Nat.le_of_ble_eq_true rfl) ⟨(Nat.le_of_ble_eq_true rfl), (Nat.le_of_ble_eq_true rfl)⟩ ⟨(Nat.le_of_ble_eq_true rfl), (Nat.le_of_ble_eq_true rfl)⟩ ?_
    refine r_if_ne (tgt := 31) dX5_run_18 (by decide) (fun c18 => ?_) (fun c18 => ?_)
    · refine absurd ⟨e1, ?_⟩ hg
      have hw := (rp_whole (hR1 e1)).mp (tp_b_n c18)
      exact hw
    · exact r_throwS (is := 212) (text := "not a complete row of orders") xl_IllegalArgumentException rfl (by decide) rfl (Nat.le_of_ble_eq_true rfl) (Nat.le_of_ble_eq_true rfl) ⟨(Nat.le_of_ble_eq_true rfl), (Nat.le_of_ble_eq_true rfl)⟩ ⟨(Nat.le_of_ble_eq_true rfl), (Nat.le_of_ble_eq_true rfl)⟩ dX5_run_21 dX5_run_24 dX5_run_25 dX5_run_27 dX5_run_30 (fun n' hn => ⟨rfl, rd1, hT⟩)

