set_option maxRecDepth 100000 in
set_option maxHeartbeats 4000000 in
theorem X_dispute {l : Launch} {G : tp_G} {x : Nat} {h0 h : tp_H} {u : Nat → Int32} {π ρ : Nat → Nat} {us : Nat → Nat → Int32} {σ : Nat → Nat} {st len : Int32} {tx rd : Nat → Int32} (hl : l.stackTraces = false) (hT0 : kx_S G x h0 u π ρ us σ st len tx rd h) {s N P : Nat} (hst : st = nI s) (hs6 : s ≤ 6) (hu8 : u 8 = nI N) (hN : N ≤ 8) (hu9 : u 9 = nI P) (hP9 : P ≤ 12) {j w c : Nat} (hj : j < P) (hw : w < 4) (hc : c < 4) (hw0 : u (136 + 5 * j) = nI w) (hc0 : u (136 + 5 * j + 1) = nI c) (hm : u (136 + 5 * j + 4) = 0 ∧ u 4 - u (136 + 5 * j + 3) ≤ 30) : tp_Met l G mX5_dispute 0 0 [.ref x, .int (nI j)] h (tp_PS (some (.int (z_in (va_up u (136 + 5 * j + 4) 1) w c (u (136 + 5 * j + 2)) (z_at w c)))) (fun h1 => ∃ σ1, kx_S G x h (z_in (va_up u (136 + 5 * j + 4) 1) w c (u (136 + 5 * j + 2))) π ρ (kx_us us s u N P) σ1 (nI (z_saveN s)) len tx rd h1)) tp_NX := by
  have hT := hT0.self
  have hB := hT.bk
  refine tp_start (L0 := [some (.ref x), some (.int (nI j)), none, none]) (by decide) rfl hl (Nat.le_of_ble_eq_true rfl) rfl ?_
  refine r_aload0 dX5_dispute_0 ?_
  refine r_iload1 dX5_dispute_1 ?_
  refine r_pV dX5_dispute_2 v_X5_138 (X_paymentAt hl hT hu9 hP9 hj) rfl (hT.ob) rfl rfl rfl (Nat.le_of_ble_eq_true rfl) ⟨(Nat.le_of_ble_eq_true rfl), (Nat.le_of_ble_eq_true rfl)⟩ ⟨(Nat.le_of_ble_eq_true rfl), (Nat.le_of_ble_eq_true rfl)⟩ ?_
  refine r_astore2 dX5_dispute_5 (Nat.le_of_ble_eq_true rfl) rfl ?_
  refine r_aload0 dX5_dispute_6 ?_
  refine r_getf dX5_dispute_7 f_X5_10 (hT.ob) rfl ?_
  refine r_aload2 dX5_dispute_10 ?_
  refine r_pV dX5_dispute_11 v_X5_142 (K_mayDispute hl hB (j := j) (by omega)) rfl (hB.ob) rfl rfl rfl (Nat.le_of_ble_eq_true rfl) ⟨(Nat.le_of_ble_eq_true rfl), (Nat.le_of_ble_eq_true rfl)⟩ ⟨(Nat.le_of_ble_eq_true rfl), (Nat.le_of_ble_eq_true rfl)⟩ ?_
  refine r_if_ne (tgt := 27) dX5_dispute_14 (by decide) (fun c14 => ?_) (fun c14 => ?_)
  · refine r_aload0 dX5_dispute_27 ?_
    refine r_sV0 dX5_dispute_28 v_X5_50 (X_saveState hl hT hst hs6 hu8 hN hu9 hP9) rfl (hT.ob) rfl rfl rfl (Nat.le_of_ble_eq_true rfl) ⟨(Nat.le_of_ble_eq_true rfl), (Nat.le_of_ble_eq_true rfl)⟩ ⟨(Nat.le_of_ble_eq_true rfl), (Nat.le_of_ble_eq_true rfl)⟩ (fun h1 hP => ?_)
    obtain ⟨σ1, hP⟩ := hP
    have hT := hT.trans hP
    have hB := hT.bk
    refine r_aload0 dX5_dispute_31 ?_
    refine r_aload2 dX5_dispute_32 ?_
    refine r_getf dX5_dispute_33 f_X5_148 (hB.pa (j := j) (by omega)) rfl ?_
    refine r_aload2 dX5_dispute_36 ?_
    refine r_getf dX5_dispute_37 f_X5_151 (hB.pa (j := j) (by omega)) rfl ?_
    rw [hw0, hc0]
    refine r_pV dX5_dispute_40 v_X5_31 (X_purseAt hl hT hw hc) rfl (hT.ob) rfl rfl rfl (Nat.le_of_ble_eq_true rfl) ⟨(Nat.le_of_ble_eq_true rfl), (Nat.le_of_ble_eq_true rfl)⟩ ⟨(Nat.le_of_ble_eq_true rfl), (Nat.le_of_ble_eq_true rfl)⟩ ?_
    refine r_astore3 dX5_dispute_43 (Nat.le_of_ble_eq_true rfl) rfl ?_
    refine r_aload2 dX5_dispute_44 ?_
    refine r_iconst (v := 1) dX5_dispute_45 (by decide) ?_
    refine kb_put_p4 dX5_dispute_46 f_X5_152 hB (by omega) (fun h1 hB => ?_)
    have hT := hT.bkTo hB
    have hB := hB.self
    refine r_aload0 dX5_dispute_49 ?_
    refine r_getf dX5_dispute_50 f_X5_10 (hT.ob) rfl ?_
    refine r_aload3 dX5_dispute_53 ?_
    refine r_aload2 dX5_dispute_54 ?_
    refine r_getf dX5_dispute_55 f_X5_155 (hB.pa (j := j) (by omega)) rfl ?_
    rw [va_up_ne' _ _ (by omega)]
    refine r_sV0 dX5_dispute_58 v_X5_158 (K_takeIn hl hB hw hc) rfl (hB.ob) rfl rfl rfl (Nat.le_of_ble_eq_true rfl) ⟨(Nat.le_of_ble_eq_true rfl), (Nat.le_of_ble_eq_true rfl)⟩ ⟨(Nat.le_of_ble_eq_true rfl), (Nat.le_of_ble_eq_true rfl)⟩ (fun h1 hP => ?_)
    have hT := hT.bkTo hP
    have hB := hP.self
    refine r_aload3 dX5_dispute_61 ?_
    refine r_getf dX5_dispute_62 f_X5_57 (hB.pu hw hc) rfl ?_
    exact r_iret dX5_dispute_65 rfl ⟨(Nat.le_of_ble_eq_true rfl), (Nat.le_of_ble_eq_true rfl)⟩ ⟨rfl, _, hT⟩
  · first | exact absurd hm (tp_b_0.mp c14) | exact absurd hm (tp_b_0.mp (Classical.not_not.mp c14)) | exact absurd (tp_b_n c14) hm

set_option maxRecDepth 100000 in
set_option maxHeartbeats 4000000 in
theorem X_dispute_1 {l : Launch} {G : tp_G} {x : Nat} {h0 h : tp_H} {u : Nat → Int32} {π ρ : Nat → Nat} {us : Nat → Nat → Int32} {σ : Nat → Nat} {st len : Int32} {tx rd : Nat → Int32} (hl : l.stackTraces = false) (hT0 : kx_S G x h0 u π ρ us σ st len tx rd h) {v : Int32} {P : Nat} (hu9 : u 9 = nI P) (hP9 : P ≤ 12) (hbad : ¬ (0 ≤ v ∧ v ≤ u 9 - 1)) : tp_Met l G mX5_dispute 1 6 [.ref x, .int v] h ((fun _ _ => False)) (kx_X "java/lang/IndexOutOfBoundsException" h) := by
  have hT := hT0.self
  have hB := hT.bk
  refine tp_start (L0 := [some (.ref x), some (.int v), none, none]) (by decide) rfl hl (Nat.le_of_ble_eq_true rfl) rfl ?_
  refine r_aload0 dX5_dispute_0 ?_
  refine r_iload1 dX5_dispute_1 ?_
  exact r_xV dX5_dispute_2 v_X5_138 (X_paymentAt_x hl hT hu9 hP9 hbad) rfl (hT.ob) rfl rfl rfl (Nat.le_of_ble_eq_true rfl) ⟨(Nat.le_of_ble_eq_true rfl), (Nat.le_of_ble_eq_true rfl)⟩ ⟨(Nat.le_of_ble_eq_true rfl), (Nat.le_of_ble_eq_true rfl)⟩ rfl ⟨(Nat.le_of_ble_eq_true rfl), (Nat.le_of_ble_eq_true rfl)⟩ rfl

set_option maxRecDepth 100000 in
set_option maxHeartbeats 4000000 in
theorem X_dispute_2 {l : Launch} {G : tp_G} {x : Nat} {h0 h : tp_H} {u : Nat → Int32} {π ρ : Nat → Nat} {us : Nat → Nat → Int32} {σ : Nat → Nat} {st len : Int32} {tx rd : Nat → Int32} (hl : l.stackTraces = false) (hT0 : kx_S G x h0 u π ρ us σ st len tx rd h) {P j : Nat} (hu9 : u 9 = nI P) (hP9 : P ≤ 12) (hj : j < P) (hm : ¬ (u (136 + 5 * j + 4) = 0 ∧ u 4 - u (136 + 5 * j + 3) ≤ 30)) : tp_Met l G mX5_dispute 1 6 [.ref x, .int (nI j)] h ((fun _ _ => False)) (kx_X "java/lang/IllegalStateException" h) := by
  have hT := hT0.self
  have hB := hT.bk
  refine tp_start (L0 := [some (.ref x), some (.int (nI j)), none, none]) (by decide) rfl hl (Nat.le_of_ble_eq_true rfl) rfl ?_
  refine r_aload0 dX5_dispute_0 ?_
  refine r_iload1 dX5_dispute_1 ?_
  refine r_pV dX5_dispute_2 v_X5_138 (X_paymentAt hl hT hu9 hP9 hj) rfl (hT.ob) rfl rfl rfl (Nat.le_of_ble_eq_true rfl) ⟨(Nat.le_of_ble_eq_true rfl), (Nat.le_of_ble_eq_true rfl)⟩ ⟨(Nat.le_of_ble_eq_true rfl), (Nat.le_of_ble_eq_true rfl)⟩ ?_
  refine r_astore2 dX5_dispute_5 (Nat.le_of_ble_eq_true rfl) rfl ?_
  refine r_aload0 dX5_dispute_6 ?_
  refine r_getf dX5_dispute_7 f_X5_10 (hT.ob) rfl ?_
  refine r_aload2 dX5_dispute_10 ?_
  refine r_pV dX5_dispute_11 v_X5_142 (K_mayDispute hl hB (j := j) (by omega)) rfl (hB.ob) rfl rfl rfl (Nat.le_of_ble_eq_true rfl) ⟨(Nat.le_of_ble_eq_true rfl), (Nat.le_of_ble_eq_true rfl)⟩ ⟨(Nat.le_of_ble_eq_true rfl), (Nat.le_of_ble_eq_true rfl)⟩ ?_
  refine r_if_ne (tgt := 27) dX5_dispute_14 (by decide) (fun c14 => ?_) (fun c14 => ?_)
  · first | exact absurd hm (tp_b_0.mp c14) | exact absurd hm (tp_b_0.mp (Classical.not_not.mp c14)) | exact absurd (tp_b_n c14) hm
  · exact r_throwS (is := 146) (text := "not plain, or too old") xl_IllegalStateException rfl (by decide) rfl (Nat.le_of_ble_eq_true rfl) (Nat.le_of_ble_eq_true rfl) ⟨(Nat.le_of_ble_eq_true rfl), (Nat.le_of_ble_eq_true rfl)⟩ ⟨(Nat.le_of_ble_eq_true rfl), (Nat.le_of_ble_eq_true rfl)⟩ dX5_dispute_17 dX5_dispute_20 dX5_dispute_21 dX5_dispute_23 dX5_dispute_26 (fun n' hn => ⟨rfl, rfl⟩)

set_option maxRecDepth 100000 in
set_option maxHeartbeats 4000000 in
theorem X_decide_w {l : Launch} {G : tp_G} {x : Nat} {h0 h : tp_H} {u : Nat → Int32} {π ρ : Nat → Nat} {us : Nat → Nat → Int32} {σ : Nat → Nat} {st len : Int32} {tx rd : Nat → Int32} (hl : l.stackTraces = false) (hT0 : kx_S G x h0 u π ρ us σ st len tx rd h) {s N P : Nat} (hst : st = nI s) (hs6 : s ≤ 6) (hu8 : u 8 = nI N) (hN : N ≤ 8) (hu9 : u 9 = nI P) (hP9 : P ≤ 12) {j : Nat} {b : Int32} (hj : j < P) (hm : u (136 + 5 * j + 4) = 1) (hb : ¬ b = 0) : tp_Met l G mX5_decide 0 0 [.ref x, .int (nI j), .int b] h (tp_PS (some (.int 0)) (fun h1 => ∃ σ1, kx_S G x h (va_up u (136 + 5 * j + 4) 2) π ρ (kx_us us s u N P) σ1 (nI (z_saveN s)) len tx rd h1)) tp_NX := by
  have hT := hT0.self
  have hB := hT.bk
  refine tp_start (L0 := [some (.ref x), some (.int (nI j)), some (.int b), none]) (by decide) rfl hl (Nat.le_of_ble_eq_true rfl) rfl ?_
  refine r_aload0 dX5_decide_0 ?_
  refine r_iload1 dX5_decide_1 ?_
  refine r_pV dX5_decide_2 v_X5_138 (X_paymentAt hl hT hu9 hP9 hj) rfl (hT.ob) rfl rfl rfl (Nat.le_of_ble_eq_true rfl) ⟨(Nat.le_of_ble_eq_true rfl), (Nat.le_of_ble_eq_true rfl)⟩ ⟨(Nat.le_of_ble_eq_true rfl), (Nat.le_of_ble_eq_true rfl)⟩ ?_
  refine r_astore3 dX5_decide_5 (Nat.le_of_ble_eq_true rfl) rfl ?_
  refine r_aload3 dX5_decide_6 ?_
  refine r_getf dX5_decide_7 f_X5_152 (hB.pa (j := j) (by omega)) rfl ?_
  refine r_iconst (v := 1) dX5_decide_10 (by decide) ?_
  refine r_icmp_eq (tgt := 24) dX5_decide_11 (by decide) (fun c11 => ?_) (fun c11 => ?_)
  · refine r_aload0 dX5_decide_24 ?_
    refine r_sV0 dX5_decide_25 v_X5_50 (X_saveState hl hT hst hs6 hu8 hN hu9 hP9) rfl (hT.ob) rfl rfl rfl (Nat.le_of_ble_eq_true rfl) ⟨(Nat.le_of_ble_eq_true rfl), (Nat.le_of_ble_eq_true rfl)⟩ ⟨(Nat.le_of_ble_eq_true rfl), (Nat.le_of_ble_eq_true rfl)⟩ (fun h1 hP => ?_)
    obtain ⟨σ1, hP⟩ := hP
    have hT := hT.trans hP
    have hB := hT.bk
    refine r_iload2 dX5_decide_28 ?_
    refine r_if_eq (tgt := 39) dX5_decide_29 (by decide) (fun c29 => ?_) (fun c29 => ?_)
    · first | exact absurd c29 hb | exact absurd hb c29
    · refine r_aload3 dX5_decide_32 ?_
      refine r_iconst (v := 2) dX5_decide_33 (by decide) ?_
      refine kb_put_p4 dX5_decide_34 f_X5_152 hB (by omega) (fun h1 hB => ?_)
      have hT := hT.bkTo hB
      have hB := hB.self
      refine r_iconst (v := 0) dX5_decide_37 (by decide) ?_
      exact r_iret dX5_decide_38 rfl ⟨(Nat.le_of_ble_eq_true rfl), (Nat.le_of_ble_eq_true rfl)⟩ ⟨rfl, _, hT⟩
  · first | exact absurd hm c11 | exact absurd (Classical.not_not.mp c11) hm | exact absurd c11 hm

set_option maxRecDepth 100000 in
set_option maxHeartbeats 4000000 in
theorem X_decide_l {l : Launch} {G : tp_G} {x : Nat} {h0 h : tp_H} {u : Nat → Int32} {π ρ : Nat → Nat} {us : Nat → Nat → Int32} {σ : Nat → Nat} {st len : Int32} {tx rd : Nat → Int32} (hl : l.stackTraces = false) (hT0 : kx_S G x h0 u π ρ us σ st len tx rd h) {s N P : Nat} (hst : st = nI s) (hs6 : s ≤ 6) (hu8 : u 8 = nI N) (hN : N ≤ 8) (hu9 : u 9 = nI P) (hP9 : P ≤ 12) {j w c : Nat} (hj : j < P) (hw : w < 4) (hc : c < 4) (hw0 : u (136 + 5 * j) = nI w) (hc0 : u (136 + 5 * j + 1) = nI c) (hm : u (136 + 5 * j + 4) = 1) : tp_Met l G mX5_decide 0 0 [.ref x, .int (nI j), .int 0] h (tp_PS (some (.int (u (136 + 5 * j + 2) - z_taken (va_up u (136 + 5 * j + 4) 3) w c (u (136 + 5 * j + 2))))) (fun h1 => ∃ σ1, kx_S G x h (z_back (va_up u (136 + 5 * j + 4) 3) w c (u (136 + 5 * j + 2))) π ρ (kx_us us s u N P) σ1 (nI (z_saveN s)) len tx rd h1)) tp_NX := by
  have hT := hT0.self
  have hB := hT.bk
  refine tp_start (L0 := [some (.ref x), some (.int (nI j)), some (.int 0), none]) (by decide) rfl hl (Nat.le_of_ble_eq_true rfl) rfl ?_
  refine r_aload0 dX5_decide_0 ?_
  refine r_iload1 dX5_decide_1 ?_
  refine r_pV dX5_decide_2 v_X5_138 (X_paymentAt hl hT hu9 hP9 hj) rfl (hT.ob) rfl rfl rfl (Nat.le_of_ble_eq_true rfl) ⟨(Nat.le_of_ble_eq_true rfl), (Nat.le_of_ble_eq_true rfl)⟩ ⟨(Nat.le_of_ble_eq_true rfl), (Nat.le_of_ble_eq_true rfl)⟩ ?_
  refine r_astore3 dX5_decide_5 (Nat.le_of_ble_eq_true rfl) rfl ?_
  refine r_aload3 dX5_decide_6 ?_
  refine r_getf dX5_decide_7 f_X5_152 (hB.pa (j := j) (by omega)) rfl ?_
  refine r_iconst (v := 1) dX5_decide_10 (by decide) ?_
  refine r_icmp_eq (tgt := 24) dX5_decide_11 (by decide) (fun c11 => ?_) (fun c11 => ?_)
  · refine r_aload0 dX5_decide_24 ?_
    refine r_sV0 dX5_decide_25 v_X5_50 (X_saveState hl hT hst hs6 hu8 hN hu9 hP9) rfl (hT.ob) rfl rfl rfl (Nat.le_of_ble_eq_true rfl) ⟨(Nat.le_of_ble_eq_true rfl), (Nat.le_of_ble_eq_true rfl)⟩ ⟨(Nat.le_of_ble_eq_true rfl), (Nat.le_of_ble_eq_true rfl)⟩ (fun h1 hP => ?_)
    obtain ⟨σ1, hP⟩ := hP
    have hT := hT.trans hP
    have hB := hT.bk
    refine r_iload2 dX5_decide_28 ?_
    refine r_if_eq (tgt := 39) dX5_decide_29 (by decide) (fun c29 => ?_) (fun c29 => ?_)
    · refine r_aload3 dX5_decide_39 ?_
      refine r_iconst (v := 3) dX5_decide_40 (by decide) ?_
      refine kb_put_p4 dX5_decide_41 f_X5_152 hB (by omega) (fun h1 hB => ?_)
      have hT := hT.bkTo hB
      have hB := hB.self
      refine r_aload0 dX5_decide_44 ?_
      refine r_getf dX5_decide_45 f_X5_10 (hT.ob) rfl ?_
      refine r_aload0 dX5_decide_48 ?_
      refine r_aload3 dX5_decide_49 ?_
      refine r_getf dX5_decide_50 f_X5_148 (hB.pa (j := j) (by omega)) rfl ?_
      refine r_aload3 dX5_decide_53 ?_
      refine r_getf dX5_decide_54 f_X5_151 (hB.pa (j := j) (by omega)) rfl ?_
      rw [va_up_ne' _ _ (by omega), va_up_ne' _ _ (by omega), hw0, hc0]
      refine r_pV dX5_decide_57 v_X5_31 (X_purseAt hl hT hw hc) rfl (hT.ob) rfl rfl rfl (Nat.le_of_ble_eq_true rfl) ⟨(Nat.le_of_ble_eq_true rfl), (Nat.le_of_ble_eq_true rfl)⟩ ⟨(Nat.le_of_ble_eq_true rfl), (Nat.le_of_ble_eq_true rfl)⟩ ?_
      refine r_aload3 dX5_decide_60 ?_
      refine r_getf dX5_decide_61 f_X5_155 (hB.pa (j := j) (by omega)) rfl ?_
      rw [va_up_ne' _ _ (by omega)]
      refine r_sV1 dX5_decide_64 v_X5_163 (K_takeBack hl hB hw hc ((va_up_ne' _ _ (by omega)).trans hu8) hN) rfl (hB.ob) rfl rfl rfl (Nat.le_of_ble_eq_true rfl) ⟨(Nat.le_of_ble_eq_true rfl), (Nat.le_of_ble_eq_true rfl)⟩ ⟨(Nat.le_of_ble_eq_true rfl), (Nat.le_of_ble_eq_true rfl)⟩ (fun h1 hP => ?_)
      have hT := hT.bkTo hP
      have hB := hP.self
      exact r_iret dX5_decide_67 rfl ⟨(Nat.le_of_ble_eq_true rfl), (Nat.le_of_ble_eq_true rfl)⟩ ⟨rfl, _, hT⟩
    · first | exact absurd rfl c29 | exact absurd c29 (by decide)
  · first | exact absurd hm c11 | exact absurd (Classical.not_not.mp c11) hm | exact absurd c11 hm

set_option maxRecDepth 100000 in
set_option maxHeartbeats 4000000 in
theorem X_decide_1 {l : Launch} {G : tp_G} {x : Nat} {h0 h : tp_H} {u : Nat → Int32} {π ρ : Nat → Nat} {us : Nat → Nat → Int32} {σ : Nat → Nat} {st len : Int32} {tx rd : Nat → Int32} (hl : l.stackTraces = false) (hT0 : kx_S G x h0 u π ρ us σ st len tx rd h) {v b : Int32} {P : Nat} (hu9 : u 9 = nI P) (hP9 : P ≤ 12) (hbad : ¬ (0 ≤ v ∧ v ≤ u 9 - 1)) : tp_Met l G mX5_decide 1 6 [.ref x, .int v, .int b] h ((fun _ _ => False)) (kx_X "java/lang/IndexOutOfBoundsException" h) := by
  have hT := hT0.self
  have hB := hT.bk
  refine tp_start (L0 := [some (.ref x), some (.int v), some (.int b), none]) (by decide) rfl hl (Nat.le_of_ble_eq_true rfl) rfl ?_
  refine r_aload0 dX5_decide_0 ?_
  refine r_iload1 dX5_decide_1 ?_
  exact r_xV dX5_decide_2 v_X5_138 (X_paymentAt_x hl hT hu9 hP9 hbad) rfl (hT.ob) rfl rfl rfl (Nat.le_of_ble_eq_true rfl) ⟨(Nat.le_of_ble_eq_true rfl), (Nat.le_of_ble_eq_true rfl)⟩ ⟨(Nat.le_of_ble_eq_true rfl), (Nat.le_of_ble_eq_true rfl)⟩ rfl ⟨(Nat.le_of_ble_eq_true rfl), (Nat.le_of_ble_eq_true rfl)⟩ rfl

set_option maxRecDepth 100000 in
set_option maxHeartbeats 4000000 in
theorem X_decide_2 {l : Launch} {G : tp_G} {x : Nat} {h0 h : tp_H} {u : Nat → Int32} {π ρ : Nat → Nat} {us : Nat → Nat → Int32} {σ : Nat → Nat} {st len : Int32} {tx rd : Nat → Int32} (hl : l.stackTraces = false) (hT0 : kx_S G x h0 u π ρ us σ st len tx rd h) {P j : Nat} {b : Int32} (hu9 : u 9 = nI P) (hP9 : P ≤ 12) (hj : j < P) (hm : ¬ u (136 + 5 * j + 4) = 1) : tp_Met l G mX5_decide 1 6 [.ref x, .int (nI j), .int b] h ((fun _ _ => False)) (kx_X "java/lang/IllegalStateException" h) := by
  have hT := hT0.self
  have hB := hT.bk
  refine tp_start (L0 := [some (.ref x), some (.int (nI j)), some (.int b), none]) (by decide) rfl hl (Nat.le_of_ble_eq_true rfl) rfl ?_
  refine r_aload0 dX5_decide_0 ?_
  refine r_iload1 dX5_decide_1 ?_
  refine r_pV dX5_decide_2 v_X5_138 (X_paymentAt hl hT hu9 hP9 hj) rfl (hT.ob) rfl rfl rfl (Nat.le_of_ble_eq_true rfl) ⟨(Nat.le_of_ble_eq_true rfl), (Nat.le_of_ble_eq_true rfl)⟩ ⟨(Nat.le_of_ble_eq_true rfl), (Nat.le_of_ble_eq_true rfl)⟩ ?_
  refine r_astore3 dX5_decide_5 (Nat.le_of_ble_eq_true rfl) rfl ?_
  refine r_aload3 dX5_decide_6 ?_
  refine r_getf dX5_decide_7 f_X5_152 (hB.pa (j := j) (by omega)) rfl ?_
  refine r_iconst (v := 1) dX5_decide_10 (by decide) ?_
  refine r_icmp_eq (tgt := 24) dX5_decide_11 (by decide) (fun c11 => ?_) (fun c11 => ?_)
  · first | exact absurd hm c11 | exact absurd (Classical.not_not.mp c11) hm | exact absurd c11 hm
  · exact r_throwS (is := 161) (text := "not disputed") xl_IllegalStateException rfl (by decide) rfl (Nat.le_of_ble_eq_true rfl) (Nat.le_of_ble_eq_true rfl) ⟨(Nat.le_of_ble_eq_true rfl), (Nat.le_of_ble_eq_true rfl)⟩ ⟨(Nat.le_of_ble_eq_true rfl), (Nat.le_of_ble_eq_true rfl)⟩ dX5_decide_14 dX5_decide_17 dX5_decide_18 dX5_decide_20 dX5_decide_23 (fun n' hn => ⟨rfl, rfl⟩)

def k_close1 (u : Nat → Int32) (w c : Nat) : Nat → Int32 := va_up (if 0 < u (z_at w c) then k_conv u w c 0 (u (z_at w c)) else u) (z_at w c + 3) (-1)
def k_closeT (u : Nat → Int32) (w : Nat) : Nat → Nat → Int32
  | 0 => u
  | i + 1 => k_close1 (k_closeT u w i) w (i + 1)
set_option maxRecDepth 100000 in
set_option maxHeartbeats 4000000 in
theorem X_close_lp  {l : Launch} {G : tp_G} {x : Nat} {h9 : tp_H} {u : Nat → Int32} {π ρ : Nat → Nat} {us : Nat → Nat → Int32} {σ : Nat → Nat} {st len : Int32} {tx rd : Nat → Int32} (hl : l.stackTraces = false) {w : Nat} (hw : w < 4) {Q : tp_Q} : ∀ d (c : Nat) (a4 : Option Value) (h1 : tp_H), c + d = 3 → kx_S G x h9 (k_closeT u w c) π ρ us σ st len tx rd h1 → (∀ h1, kx_S G x h9 (k_closeT u w 3) π ρ us σ st len tx rd h1 → tp_Run l G mX5_close (tp_rm mX5_close 0 0) Q 0 0 h1 83 [some (.ref x), some (.int (nI w)), some (.ref (kp (x + 1) w 0)), none, none] []) → tp_Run l G mX5_close (tp_rm mX5_close 0 0) Q 0 0 h1 34 [some (.ref x), some (.int (nI w)), some (.ref (kp (x + 1) w 0)), some (.int (nI (c + 1))), a4] [] := by
  intro d
  induction d with
  | zero =>
    intro c a4 h1 hd hT kk
    have hB := hT.bk
    refine r_iload3 dX5_close_34 ?_
    refine r_iconst (v := 4) dX5_close_35 (by decide) ?_
    refine r_icmp_ge (tgt := 83) dX5_close_36 (by decide) (fun c36 => ?_) (fun c36 => ?_)
    · rw [show c = 3 by omega] at hT
      exact r_fg3 (r_fg4 (kk h1 hT))
    · rw [show (4 : Int32) = nI 4 from rfl, tp_le (by omega) (by omega)] at c36; omega
  | succ d ih =>
    intro c a4 h1 hd hT kk
    have hB := hT.bk
    refine r_iload3 dX5_close_34 ?_
    refine r_iconst (v := 4) dX5_close_35 (by decide) ?_
    refine r_icmp_ge (tgt := 83) dX5_close_36 (by decide) (fun c36 => ?_) (fun c36 => ?_)
    · rw [show (4 : Int32) = nI 4 from rfl, tp_le (by omega) (by omega)] at c36; omega
    · refine r_aload0 dX5_close_39 ?_
      refine r_iload1 dX5_close_40 ?_
      refine r_iload3 dX5_close_41 ?_
      refine r_pV dX5_close_42 v_X5_31 (X_purseAt hl hT hw (c := c + 1) (by omega)) rfl (hT.ob) rfl rfl rfl (Nat.le_of_ble_eq_true rfl) ⟨(Nat.le_of_ble_eq_true rfl), (Nat.le_of_ble_eq_true rfl)⟩ ⟨(Nat.le_of_ble_eq_true rfl), (Nat.le_of_ble_eq_true rfl)⟩ ?_
      refine r_astore4 dX5_close_45 (Nat.le_of_ble_eq_true rfl) rfl ?_
      refine r_aload4 dX5_close_47 ?_
      refine r_getf dX5_close_49 f_X5_57 (hB.pu (c := c + 1) hw (by omega)) rfl ?_
      refine r_if_le (tgt := 71) dX5_close_52 (by decide) (fun c52 => ?_) (fun c52 => ?_)
      · have e52 : (if 0 < k_closeT u w c (z_at w (c + 1)) then k_conv (k_closeT u w c) w (c + 1) 0 (k_closeT u w c (z_at w (c + 1))) else k_closeT u w c) = k_closeT u w c := if_neg (Int32.not_lt.mpr c52)
        refine r_aload4 dX5_close_71 ?_
        refine r_iconst (v := (-1)) dX5_close_73 (by decide) ?_
        refine kb_put_lockEnd dX5_close_74 f_X5_91 hB hw (c := c + 1) (by omega) (fun h1 hB => ?_)
        have hT := hT.bkTo hB
        have hB := hB.self
        have hT := hT.cu (u' := k_closeT u w (c + 1)) (by show _ = k_close1 (k_closeT u w c) w (c + 1); unfold k_close1; rw [e52])
        refine r_iinc3 (v := nI ((c + 1) + 1)) dX5_close_77 (Nat.le_of_ble_eq_true rfl) rfl (tp_inc (c + 1)) ?_
        exact r_goto (tgt := 34) dX5_close_80 (by decide) (ih (c + 1) _ h1 (by omega) hT kk)
      · have e52 : (if 0 < k_closeT u w c (z_at w (c + 1)) then k_conv (k_closeT u w c) w (c + 1) 0 (k_closeT u w c (z_at w (c + 1))) else k_closeT u w c) = k_conv (k_closeT u w c) w (c + 1) 0 (k_closeT u w c (z_at w (c + 1))) := if_pos (Int32.not_le.mp c52)
        refine r_aload0 dX5_close_55 ?_
        refine r_getf dX5_close_56 f_X5_10 (hT.ob) rfl ?_
        refine r_aload4 dX5_close_59 ?_
        refine r_aload2 dX5_close_61 ?_
        refine r_aload4 dX5_close_62 ?_
        refine r_getf dX5_close_64 f_X5_57 (hB.pu (c := c + 1) hw (by omega)) rfl ?_
        refine r_sV1 dX5_close_67 v_X5_100 (K_convert hl hB hw (f := c + 1) (t := 0) (by omega) (by omega)) rfl (hB.ob) rfl rfl rfl (Nat.le_of_ble_eq_true rfl) ⟨(Nat.le_of_ble_eq_true rfl), (Nat.le_of_ble_eq_true rfl)⟩ ⟨(Nat.le_of_ble_eq_true rfl), (Nat.le_of_ble_eq_true rfl)⟩ (fun h1 hP => ?_)
        have hT := hT.bkTo hP
        have hB := hP.self
        refine r_pop dX5_close_70 rfl ?_
        refine r_aload4 dX5_close_71 ?_
        refine r_iconst (v := (-1)) dX5_close_73 (by decide) ?_
        refine kb_put_lockEnd dX5_close_74 f_X5_91 hB hw (c := c + 1) (by omega) (fun h1 hB => ?_)
        have hT := hT.bkTo hB
        have hB := hB.self
        have hT := hT.cu (u' := k_closeT u w (c + 1)) (by show _ = k_close1 (k_closeT u w c) w (c + 1); unfold k_close1; rw [e52])
        refine r_iinc3 (v := nI ((c + 1) + 1)) dX5_close_77 (Nat.le_of_ble_eq_true rfl) rfl (tp_inc (c + 1)) ?_
        exact r_goto (tgt := 34) dX5_close_80 (by decide) (ih (c + 1) _ h1 (by omega) hT kk)

set_option maxRecDepth 100000 in
set_option maxHeartbeats 4000000 in
theorem X_close {l : Launch} {G : tp_G} {x : Nat} {h0 h : tp_H} {u : Nat → Int32} {π ρ : Nat → Nat} {us : Nat → Nat → Int32} {σ : Nat → Nat} {st len : Int32} {tx rd : Nat → Int32} (hl : l.stackTraces = false) (hT0 : kx_S G x h0 u π ρ us σ st len tx rd h) {s N P : Nat} (hst : st = nI s) (hs6 : s ≤ 6) (hu8 : u 8 = nI N) (hN : N ≤ 8) (hu9 : u 9 = nI P) (hP9 : P ≤ 12) {w : Nat} (hw : w < 4) (hm : z_whyClose u w = 0) : tp_Met l G mX5_close 0 0 [.ref x, .int (nI w)] h (tp_PS (some (.int (k_closeT u w 3 (z_at w 0)))) (fun h1 => ∃ σ1, kx_S G x h (k_payout (k_closeT u w 3) w) π ρ (kx_us us s u N P) σ1 (nI (z_saveN s)) len tx rd h1)) tp_NX := by
  have hT := hT0.self
  have hB := hT.bk
  refine tp_start (L0 := [some (.ref x), some (.int (nI w)), none, none, none]) (by decide) rfl hl (Nat.le_of_ble_eq_true rfl) rfl ?_
  refine r_aload0 dX5_close_0 ?_
  refine r_iload1 dX5_close_1 ?_
  refine r_iconst (v := 0) dX5_close_2 (by decide) ?_
  refine r_pV dX5_close_3 v_X5_31 (X_purseAt hl hT hw (c := 0) (by omega)) rfl (hT.ob) rfl rfl rfl (Nat.le_of_ble_eq_true rfl) ⟨(Nat.le_of_ble_eq_true rfl), (Nat.le_of_ble_eq_true rfl)⟩ ⟨(Nat.le_of_ble_eq_true rfl), (Nat.le_of_ble_eq_true rfl)⟩ ?_
  refine r_astore2 dX5_close_6 (Nat.le_of_ble_eq_true rfl) rfl ?_
  refine r_aload0 dX5_close_7 ?_
  refine r_getf dX5_close_8 f_X5_10 (hT.ob) rfl ?_
  refine r_iload1 dX5_close_11 ?_
  refine r_pV dX5_close_12 v_X5_166 (K_closingReason hl hB hw hu8 hN hu9 hP9) rfl (hB.ob) rfl rfl rfl (Nat.le_of_ble_eq_true rfl) ⟨(Nat.le_of_ble_eq_true rfl), (Nat.le_of_ble_eq_true rfl)⟩ ⟨(Nat.le_of_ble_eq_true rfl), (Nat.le_of_ble_eq_true rfl)⟩ ?_
  refine r_if_eq (tgt := 28) dX5_close_15 (by decide) (fun c15 => ?_) (fun c15 => ?_)
  · refine r_aload0 dX5_close_28 ?_
    refine r_sV0 dX5_close_29 v_X5_50 (X_saveState hl hT hst hs6 hu8 hN hu9 hP9) rfl (hT.ob) rfl rfl rfl (Nat.le_of_ble_eq_true rfl) ⟨(Nat.le_of_ble_eq_true rfl), (Nat.le_of_ble_eq_true rfl)⟩ ⟨(Nat.le_of_ble_eq_true rfl), (Nat.le_of_ble_eq_true rfl)⟩ (fun h1 hP => ?_)
    obtain ⟨σ1, hP⟩ := hP
    have hT := hT.trans hP
    have hB := hT.bk
    refine r_iconst (v := 1) dX5_close_32 (by decide) ?_
    refine r_istore3 dX5_close_33 (Nat.le_of_ble_eq_true rfl) rfl ?_
    refine X_close_lp hl hw 3 0 none h1 (by omega) hT (fun h1 hT => ?_)
    have hB := hT.bk
    refine r_aload0 dX5_close_83 ?_
    refine r_getf dX5_close_84 f_X5_10 (hT.ob) rfl ?_
    refine r_aload2 dX5_close_87 ?_
    refine r_sV1 dX5_close_88 v_X5_172 (K_payOut hl hB hw) rfl (hB.ob) rfl rfl rfl (Nat.le_of_ble_eq_true rfl) ⟨(Nat.le_of_ble_eq_true rfl), (Nat.le_of_ble_eq_true rfl)⟩ ⟨(Nat.le_of_ble_eq_true rfl), (Nat.le_of_ble_eq_true rfl)⟩ (fun h1 hP => ?_)
    have hT := hT.bkTo hP
    have hB := hP.self
    exact r_iret dX5_close_91 rfl ⟨(Nat.le_of_ble_eq_true rfl), (Nat.le_of_ble_eq_true rfl)⟩ ⟨rfl, _, hT⟩
  · exact absurd hm c15

set_option maxRecDepth 100000 in
set_option maxHeartbeats 4000000 in
theorem X_close_1 {l : Launch} {G : tp_G} {x : Nat} {h0 h : tp_H} {u : Nat → Int32} {π ρ : Nat → Nat} {us : Nat → Nat → Int32} {σ : Nat → Nat} {st len : Int32} {tx rd : Nat → Int32} (hl : l.stackTraces = false) (hT0 : kx_S G x h0 u π ρ us σ st len tx rd h) {w : Int32} (hbad : ¬ (0 ≤ w ∧ w ≤ 3)) : tp_Met l G mX5_close 1 6 [.ref x, .int w] h ((fun _ _ => False)) (kx_X "java/lang/IndexOutOfBoundsException" h) := by
  have hT := hT0.self
  have hB := hT.bk
  refine tp_start (L0 := [some (.ref x), some (.int w), none, none, none]) (by decide) rfl hl (Nat.le_of_ble_eq_true rfl) rfl ?_
  refine r_aload0 dX5_close_0 ?_
  refine r_iload1 dX5_close_1 ?_
  refine r_iconst (v := 0) dX5_close_2 (by decide) ?_
  exact r_xV dX5_close_3 v_X5_31 (X_purseAt_x hl hT (fun q => hbad q.1)) rfl (hT.ob) rfl rfl rfl (Nat.le_of_ble_eq_true rfl) ⟨(Nat.le_of_ble_eq_true rfl), (Nat.le_of_ble_eq_true rfl)⟩ ⟨(Nat.le_of_ble_eq_true rfl), (Nat.le_of_ble_eq_true rfl)⟩ rfl ⟨(Nat.le_of_ble_eq_true rfl), (Nat.le_of_ble_eq_true rfl)⟩ rfl

set_option maxRecDepth 100000 in
set_option maxHeartbeats 4000000 in
theorem X_close_2 {l : Launch} {G : tp_G} {x : Nat} {h0 h : tp_H} {u : Nat → Int32} {π ρ : Nat → Nat} {us : Nat → Nat → Int32} {σ : Nat → Nat} {st len : Int32} {tx rd : Nat → Int32} (hl : l.stackTraces = false) (hT0 : kx_S G x h0 u π ρ us σ st len tx rd h) {N P w : Nat} (hu8 : u 8 = nI N) (hN : N ≤ 8) (hu9 : u 9 = nI P) (hP9 : P ≤ 12) (hw : w < 4) (hm : ¬ z_whyClose u w = 0) : tp_Met l G mX5_close 1 6 [.ref x, .int (nI w)] h ((fun _ _ => False)) (kx_X "java/lang/IllegalStateException" h) := by
  have hT := hT0.self
  have hB := hT.bk
  refine tp_start (L0 := [some (.ref x), some (.int (nI w)), none, none, none]) (by decide) rfl hl (Nat.le_of_ble_eq_true rfl) rfl ?_
  refine r_aload0 dX5_close_0 ?_
  refine r_iload1 dX5_close_1 ?_
  refine r_iconst (v := 0) dX5_close_2 (by decide) ?_
  refine r_pV dX5_close_3 v_X5_31 (X_purseAt hl hT hw (c := 0) (by omega)) rfl (hT.ob) rfl rfl rfl (Nat.le_of_ble_eq_true rfl) ⟨(Nat.le_of_ble_eq_true rfl), (Nat.le_of_ble_eq_true rfl)⟩ ⟨(Nat.le_of_ble_eq_true rfl), (Nat.le_of_ble_eq_true rfl)⟩ ?_
  refine r_astore2 dX5_close_6 (Nat.le_of_ble_eq_true rfl) rfl ?_
  refine r_aload0 dX5_close_7 ?_
  refine r_getf dX5_close_8 f_X5_10 (hT.ob) rfl ?_
  refine r_iload1 dX5_close_11 ?_
  refine r_pV dX5_close_12 v_X5_166 (K_closingReason hl hB hw hu8 hN hu9 hP9) rfl (hB.ob) rfl rfl rfl (Nat.le_of_ble_eq_true rfl) ⟨(Nat.le_of_ble_eq_true rfl), (Nat.le_of_ble_eq_true rfl)⟩ ⟨(Nat.le_of_ble_eq_true rfl), (Nat.le_of_ble_eq_true rfl)⟩ ?_
  refine r_if_eq (tgt := 28) dX5_close_15 (by decide) (fun c15 => ?_) (fun c15 => ?_)
  · exact absurd c15 hm
  · exact r_throwS (is := 170) (text := "the closing is refused") xl_IllegalStateException rfl (by decide) rfl (Nat.le_of_ble_eq_true rfl) (Nat.le_of_ble_eq_true rfl) ⟨(Nat.le_of_ble_eq_true rfl), (Nat.le_of_ble_eq_true rfl)⟩ ⟨(Nat.le_of_ble_eq_true rfl), (Nat.le_of_ble_eq_true rfl)⟩ dX5_close_18 dX5_close_21 dX5_close_22 dX5_close_24 dX5_close_27 (fun n' hn => ⟨rfl, rfl⟩)

set_option maxRecDepth 100000 in
set_option maxHeartbeats 4000000 in
theorem X_pass {l : Launch} {G : tp_G} {x : Nat} {h0 h : tp_H} {u : Nat → Int32} {π ρ : Nat → Nat} {us : Nat → Nat → Int32} {σ : Nat → Nat} {st len : Int32} {tx rd : Nat → Int32} (hl : l.stackTraces = false) (hT0 : kx_S G x h0 u π ρ us σ st len tx rd h) {s N P : Nat} (hst : st = nI s) (hs6 : s ≤ 6) (hu8 : u 8 = nI N) (hN : N ≤ 8) (hu9 : u 9 = nI P) (hP9 : P ≤ 12) {d : Int32} (hd : 1 ≤ d ∧ d ≤ 60) (hm : u 4 + d ≤ 5000) : tp_Met l G mX5_pass 0 0 [.ref x, .int d] h (tp_PS (some (.int (k_sweep N (va_up u 4 (u 4 + d)) 0).2)) (fun h1 => ∃ σ1 π1 ρ1, kx_S G x h (k_sweep N (va_up u 4 (u 4 + d)) 0).1 π1 ρ1 (kx_us us s u N P) σ1 (nI (z_saveN s)) len tx rd h1)) tp_NX := by
  have hT := hT0.self
  have hB := hT.bk
  refine tp_start (L0 := [some (.ref x), some (.int d)]) (by decide) rfl hl (Nat.le_of_ble_eq_true rfl) rfl ?_
  refine r_iload1 dX5_pass_0 ?_
  refine r_iconst (v := 1) dX5_pass_1 (by decide) ?_
  refine r_icmp_lt (tgt := 11) dX5_pass_2 (by decide) (fun c2 => ?_) (fun c2 => ?_)
  · exact absurd c2 (Int32.not_lt.mpr hd.1)
  · refine r_iload1 dX5_pass_5 ?_
    refine r_bipush (v := 60) dX5_pass_6 (by decide) ?_
    refine r_icmp_le (tgt := 21) dX5_pass_8 (by decide) (fun c8 => ?_) (fun c8 => ?_)
    · refine r_aload0 dX5_pass_21 ?_
      refine r_getf dX5_pass_22 f_X5_10 (hT.ob) rfl ?_
      refine r_getf dX5_pass_25 f_X5_85 (hB.ob) rfl ?_
      refine r_iload1 dX5_pass_28 ?_
      refine r_iadd dX5_pass_29 ?_
      refine r_sipush (v := 5000) dX5_pass_30 (by decide) ?_
      refine r_icmp_le (tgt := 46) dX5_pass_33 (by decide) (fun c33 => ?_) (fun c33 => ?_)
      · refine r_aload0 dX5_pass_46 ?_
        refine r_sV0 dX5_pass_47 v_X5_50 (X_saveState hl hT hst hs6 hu8 hN hu9 hP9) rfl (hT.ob) rfl rfl rfl (Nat.le_of_ble_eq_true rfl) ⟨(Nat.le_of_ble_eq_true rfl), (Nat.le_of_ble_eq_true rfl)⟩ ⟨(Nat.le_of_ble_eq_true rfl), (Nat.le_of_ble_eq_true rfl)⟩ (fun h1 hP => ?_)
        obtain ⟨σ1, hP⟩ := hP
        have hT := hT.trans hP
        have hB := hT.bk
        refine r_aload0 dX5_pass_50 ?_
        refine r_getf dX5_pass_51 f_X5_10 (hT.ob) rfl ?_
        refine r_dup dX5_pass_54 rfl ?_
        refine r_getf dX5_pass_55 f_X5_85 (hB.ob) rfl ?_
        refine r_iload1 dX5_pass_58 ?_
        refine r_iadd dX5_pass_59 ?_
        refine kb_put_day dX5_pass_60 f_X5_85 hB (fun h1 hB => ?_)
        have hT := hT.bkTo hB
        have hB := hB.self
        refine r_aload0 dX5_pass_63 ?_
        refine r_getf dX5_pass_64 f_X5_10 (hT.ob) rfl ?_
        refine r_sV1 dX5_pass_67 v_X5_180 (K_dropOldHolds hl hB ((va_up_ne' _ _ (by omega)).trans hu8) hN) rfl (hB.ob) rfl rfl rfl (Nat.le_of_ble_eq_true rfl) ⟨(Nat.le_of_ble_eq_true rfl), (Nat.le_of_ble_eq_true rfl)⟩ ⟨(Nat.le_of_ble_eq_true rfl), (Nat.le_of_ble_eq_true rfl)⟩ (fun h1 hP => ?_)
        obtain ⟨π1, ρ1, hP⟩ := hP
        have hT := hT.bkTo hP
        exact r_iret dX5_pass_70 rfl ⟨(Nat.le_of_ble_eq_true rfl), (Nat.le_of_ble_eq_true rfl)⟩ ⟨rfl, _, _, _, hT⟩
      · exact absurd hm c33
    · exact absurd hd.2 c8

set_option maxRecDepth 100000 in
set_option maxHeartbeats 4000000 in
theorem X_pass_1 {l : Launch} {G : tp_G} {x : Nat} {h0 h : tp_H} {u : Nat → Int32} {π ρ : Nat → Nat} {us : Nat → Nat → Int32} {σ : Nat → Nat} {st len : Int32} {tx rd : Nat → Int32} (hl : l.stackTraces = false) (hT0 : kx_S G x h0 u π ρ us σ st len tx rd h) {d : Int32} (hbad : ¬ (1 ≤ d ∧ d ≤ 60)) : tp_Met l G mX5_pass 1 6 [.ref x, .int d] h ((fun _ _ => False)) (kx_X "java/lang/IllegalArgumentException" h) := by
  have hT := hT0.self
  have hB := hT.bk
  refine tp_start (L0 := [some (.ref x), some (.int d)]) (by decide) rfl hl (Nat.le_of_ble_eq_true rfl) rfl ?_
  refine r_iload1 dX5_pass_0 ?_
  refine r_iconst (v := 1) dX5_pass_1 (by decide) ?_
  refine r_icmp_lt (tgt := 11) dX5_pass_2 (by decide) (fun c2 => ?_) (fun c2 => ?_)
  · exact r_throwS (is := 176) (text := "days out of range") xl_IllegalArgumentException rfl (by decide) rfl (Nat.le_of_ble_eq_true rfl) (Nat.le_of_ble_eq_true rfl) ⟨(Nat.le_of_ble_eq_true rfl), (Nat.le_of_ble_eq_true rfl)⟩ ⟨(Nat.le_of_ble_eq_true rfl), (Nat.le_of_ble_eq_true rfl)⟩ dX5_pass_11 dX5_pass_14 dX5_pass_15 dX5_pass_17 dX5_pass_20 (fun n' hn => ⟨rfl, rfl⟩)
  · refine r_iload1 dX5_pass_5 ?_
    refine r_bipush (v := 60) dX5_pass_6 (by decide) ?_
    refine r_icmp_le (tgt := 21) dX5_pass_8 (by decide) (fun c8 => ?_) (fun c8 => ?_)
    · exact absurd ⟨Int32.not_lt.mp c2, c8⟩ hbad
    · exact r_throwS (is := 176) (text := "days out of range") xl_IllegalArgumentException rfl (by decide) rfl (Nat.le_of_ble_eq_true rfl) (Nat.le_of_ble_eq_true rfl) ⟨(Nat.le_of_ble_eq_true rfl), (Nat.le_of_ble_eq_true rfl)⟩ ⟨(Nat.le_of_ble_eq_true rfl), (Nat.le_of_ble_eq_true rfl)⟩ dX5_pass_11 dX5_pass_14 dX5_pass_15 dX5_pass_17 dX5_pass_20 (fun n' hn => ⟨rfl, rfl⟩)

set_option maxRecDepth 100000 in
set_option maxHeartbeats 4000000 in
theorem X_pass_2 {l : Launch} {G : tp_G} {x : Nat} {h0 h : tp_H} {u : Nat → Int32} {π ρ : Nat → Nat} {us : Nat → Nat → Int32} {σ : Nat → Nat} {st len : Int32} {tx rd : Nat → Int32} (hl : l.stackTraces = false) (hT0 : kx_S G x h0 u π ρ us σ st len tx rd h) {d : Int32} (hd : 1 ≤ d ∧ d ≤ 60) (hm : ¬ u 4 + d ≤ 5000) : tp_Met l G mX5_pass 1 6 [.ref x, .int d] h ((fun _ _ => False)) (kx_X "java/lang/IllegalStateException" h) := by
  have hT := hT0.self
  have hB := hT.bk
  refine tp_start (L0 := [some (.ref x), some (.int d)]) (by decide) rfl hl (Nat.le_of_ble_eq_true rfl) rfl ?_
  refine r_iload1 dX5_pass_0 ?_
  refine r_iconst (v := 1) dX5_pass_1 (by decide) ?_
  refine r_icmp_lt (tgt := 11) dX5_pass_2 (by decide) (fun c2 => ?_) (fun c2 => ?_)
  · exact absurd c2 (Int32.not_lt.mpr hd.1)
  · refine r_iload1 dX5_pass_5 ?_
    refine r_bipush (v := 60) dX5_pass_6 (by decide) ?_
    refine r_icmp_le (tgt := 21) dX5_pass_8 (by decide) (fun c8 => ?_) (fun c8 => ?_)
    · refine r_aload0 dX5_pass_21 ?_
      refine r_getf dX5_pass_22 f_X5_10 (hT.ob) rfl ?_
      refine r_getf dX5_pass_25 f_X5_85 (hB.ob) rfl ?_
      refine r_iload1 dX5_pass_28 ?_
      refine r_iadd dX5_pass_29 ?_
      refine r_sipush (v := 5000) dX5_pass_30 (by decide) ?_
      refine r_icmp_le (tgt := 46) dX5_pass_33 (by decide) (fun c33 => ?_) (fun c33 => ?_)
      · exact absurd c33 hm
      · exact r_throwS (is := 178) (text := "the day would be too late") xl_IllegalStateException rfl (by decide) rfl (Nat.le_of_ble_eq_true rfl) (Nat.le_of_ble_eq_true rfl) ⟨(Nat.le_of_ble_eq_true rfl), (Nat.le_of_ble_eq_true rfl)⟩ ⟨(Nat.le_of_ble_eq_true rfl), (Nat.le_of_ble_eq_true rfl)⟩ dX5_pass_36 dX5_pass_39 dX5_pass_40 dX5_pass_42 dX5_pass_45 (fun n' hn => ⟨rfl, rfl⟩)
    · exact absurd hd.2 c8

set_option maxRecDepth 100000 in
set_option maxHeartbeats 4000000 in
theorem X_set {l : Launch} {G : tp_G} {x : Nat} {h0 h : tp_H} {u : Nat → Int32} {π ρ : Nat → Nat} {us : Nat → Nat → Int32} {σ : Nat → Nat} {st len : Int32} {tx rd : Nat → Int32} (hl : l.stackTraces = false) (hT0 : kx_S G x h0 u π ρ us σ st len tx rd h) {s N P : Nat} (hst : st = nI s) (hs6 : s ≤ 6) (hu8 : u 8 = nI N) (hN : N ≤ 8) (hu9 : u 9 = nI P) (hP9 : P ≤ 12) {j : Nat} {v : Int32} (hj : j < 4) (hv : 0 ≤ v ∧ v ≤ tp_st 2 j) : tp_Met l G mX5_set 0 0 [.ref x, .int (nI j), .int v] h (tp_PS (some (.int (u j))) (fun h1 => ∃ σ1, kx_S G x h (va_up u j v) π ρ (kx_us us s u N P) σ1 (nI (z_saveN s)) len tx rd h1)) tp_NX := by
  have hT := hT0.self
  have hB := hT.bk
  refine tp_start (L0 := [some (.ref x), some (.int (nI j)), some (.int v), none]) (by decide) rfl hl (Nat.le_of_ble_eq_true rfl) rfl ?_
  refine r_iload1 dX5_set_0 ?_
  refine r_if_lt (tgt := 9) dX5_set_1 (by decide) (fun c1 => ?_) (fun c1 => ?_)
  · exact absurd c1 (nI_pos (by omega))
  · refine r_iload1 dX5_set_4 ?_
    refine r_iconst (v := 4) dX5_set_5 (by decide) ?_
    refine r_icmp_lt (tgt := 19) dX5_set_6 (by decide) (fun c6 => ?_) (fun c6 => ?_)
    · refine r_iload2 dX5_set_19 ?_
      refine r_if_lt (tgt := 32) dX5_set_20 (by decide) (fun c20 => ?_) (fun c20 => ?_)
      · exact absurd c20 (Int32.not_lt.mpr hv.1)
      · refine r_iload2 dX5_set_23 ?_
        refine r_gets2 dX5_set_24 g_X5_186 ?_
        refine r_iload1 dX5_set_27 ?_
        refine r_tld dX5_set_28 (t := 2) (by decide) (i := j) rfl (by omega) ?_
        refine r_icmp_le (tgt := 42) dX5_set_29 (by decide) (fun c29 => ?_) (fun c29 => ?_)
        · refine r_aload0 dX5_set_42 ?_
          refine r_sV0 dX5_set_43 v_X5_50 (X_saveState hl hT hst hs6 hu8 hN hu9 hP9) rfl (hT.ob) rfl rfl rfl (Nat.le_of_ble_eq_true rfl) ⟨(Nat.le_of_ble_eq_true rfl), (Nat.le_of_ble_eq_true rfl)⟩ ⟨(Nat.le_of_ble_eq_true rfl), (Nat.le_of_ble_eq_true rfl)⟩ (fun h1 hP => ?_)
          obtain ⟨σ1, hP⟩ := hP
          have hT := hT.trans hP
          have hB := hT.bk
          refine r_aload0 dX5_set_46 ?_
          refine r_getf dX5_set_47 f_X5_10 (hT.ob) rfl ?_
          refine r_getf dX5_set_50 f_X5_88 (hB.ob) rfl ?_
          refine r_iload1 dX5_set_53 ?_
          refine r_iald dX5_set_54 hB.se (i := j) rfl (by omega) (by decide) ?_
          rw [kS_at (by omega)]
          refine r_istore3 dX5_set_55 (Nat.le_of_ble_eq_true rfl) rfl ?_
          refine r_aload0 dX5_set_56 ?_
          refine r_getf dX5_set_57 f_X5_10 (hT.ob) rfl ?_
          refine r_getf dX5_set_60 f_X5_88 (hB.ob) rfl ?_
          refine r_iload1 dX5_set_63 ?_
          refine r_iload2 dX5_set_64 ?_
          refine kb_st_se dX5_set_65 hB rfl (by omega) (fun h1 hB => ?_)
          have hT := hT.bkTo hB
          have hB := hB.self
          refine r_iload3 dX5_set_66 ?_
          exact r_iret dX5_set_67 rfl ⟨(Nat.le_of_ble_eq_true rfl), (Nat.le_of_ble_eq_true rfl)⟩ ⟨rfl, _, hT⟩
        · exact absurd hv.2 c29
    · rw [show (4 : Int32) = nI 4 from rfl, tp_lt (by omega) (by omega)] at c6; omega

set_option maxRecDepth 100000 in
set_option maxHeartbeats 4000000 in
theorem X_set_1 {l : Launch} {G : tp_G} {x : Nat} {h0 h : tp_H} {u : Nat → Int32} {π ρ : Nat → Nat} {us : Nat → Nat → Int32} {σ : Nat → Nat} {st len : Int32} {tx rd : Nat → Int32} (hl : l.stackTraces = false) (hT0 : kx_S G x h0 u π ρ us σ st len tx rd h) {s v : Int32} (hbad : ¬ (0 ≤ s ∧ s ≤ 3)) : tp_Met l G mX5_set 1 6 [.ref x, .int s, .int v] h ((fun _ _ => False)) (kx_X "java/lang/IndexOutOfBoundsException" h) := by
  have hT := hT0.self
  have hB := hT.bk
  refine tp_start (L0 := [some (.ref x), some (.int s), some (.int v), none]) (by decide) rfl hl (Nat.le_of_ble_eq_true rfl) rfl ?_
  refine r_iload1 dX5_set_0 ?_
  refine r_if_lt (tgt := 9) dX5_set_1 (by decide) (fun c1 => ?_) (fun c1 => ?_)
  · exact r_throwS (is := 184) (text := "no such setting") xl_IndexOutOfBoundsException rfl (by decide) rfl (Nat.le_of_ble_eq_true rfl) (Nat.le_of_ble_eq_true rfl) ⟨(Nat.le_of_ble_eq_true rfl), (Nat.le_of_ble_eq_true rfl)⟩ ⟨(Nat.le_of_ble_eq_true rfl), (Nat.le_of_ble_eq_true rfl)⟩ dX5_set_9 dX5_set_12 dX5_set_13 dX5_set_15 dX5_set_18 (fun n' hn => ⟨rfl, rfl⟩)
  · refine r_iload1 dX5_set_4 ?_
    refine r_iconst (v := 4) dX5_set_5 (by decide) ?_
    refine r_icmp_lt (tgt := 19) dX5_set_6 (by decide) (fun c6 => ?_) (fun c6 => ?_)
    · exact absurd ⟨Int32.not_lt.mp c1, tp_lt4 c6⟩ hbad
    · exact r_throwS (is := 184) (text := "no such setting") xl_IndexOutOfBoundsException rfl (by decide) rfl (Nat.le_of_ble_eq_true rfl) (Nat.le_of_ble_eq_true rfl) ⟨(Nat.le_of_ble_eq_true rfl), (Nat.le_of_ble_eq_true rfl)⟩ ⟨(Nat.le_of_ble_eq_true rfl), (Nat.le_of_ble_eq_true rfl)⟩ dX5_set_9 dX5_set_12 dX5_set_13 dX5_set_15 dX5_set_18 (fun n' hn => ⟨rfl, rfl⟩)

set_option maxRecDepth 100000 in
set_option maxHeartbeats 4000000 in
theorem X_set_2 {l : Launch} {G : tp_G} {x : Nat} {h0 h : tp_H} {u : Nat → Int32} {π ρ : Nat → Nat} {us : Nat → Nat → Int32} {σ : Nat → Nat} {st len : Int32} {tx rd : Nat → Int32} (hl : l.stackTraces = false) (hT0 : kx_S G x h0 u π ρ us σ st len tx rd h) {j : Nat} {v : Int32} (hj : j < 4) (hbad : ¬ (0 ≤ v ∧ v ≤ tp_st 2 j)) : tp_Met l G mX5_set 1 6 [.ref x, .int (nI j), .int v] h ((fun _ _ => False)) (kx_X "java/lang/IllegalArgumentException" h) := by
  have hT := hT0.self
  have hB := hT.bk
  refine tp_start (L0 := [some (.ref x), some (.int (nI j)), some (.int v), none]) (by decide) rfl hl (Nat.le_of_ble_eq_true rfl) rfl ?_
  refine r_iload1 dX5_set_0 ?_
  refine r_if_lt (tgt := 9) dX5_set_1 (by decide) (fun c1 => ?_) (fun c1 => ?_)
  · exact absurd c1 (nI_pos (by omega))
  · refine r_iload1 dX5_set_4 ?_
    refine r_iconst (v := 4) dX5_set_5 (by decide) ?_
    refine r_icmp_lt (tgt := 19) dX5_set_6 (by decide) (fun c6 => ?_) (fun c6 => ?_)
    · refine r_iload2 dX5_set_19 ?_
      refine r_if_lt (tgt := 32) dX5_set_20 (by decide) (fun c20 => ?_) (fun c20 => ?_)
      · exact r_throwS (is := 189) (text := "value out of range") xl_IllegalArgumentException rfl (by decide) rfl (Nat.le_of_ble_eq_true rfl) (Nat.le_of_ble_eq_true rfl) ⟨(Nat.le_of_ble_eq_true rfl), (Nat.le_of_ble_eq_true rfl)⟩ ⟨(Nat.le_of_ble_eq_true rfl), (Nat.le_of_ble_eq_true rfl)⟩ dX5_set_32 dX5_set_35 dX5_set_36 dX5_set_38 dX5_set_41 (fun n' hn => ⟨rfl, rfl⟩)
      · refine r_iload2 dX5_set_23 ?_
        refine r_gets2 dX5_set_24 g_X5_186 ?_
        refine r_iload1 dX5_set_27 ?_
        refine r_tld dX5_set_28 (t := 2) (by decide) (i := j) rfl (by omega) ?_
        refine r_icmp_le (tgt := 42) dX5_set_29 (by decide) (fun c29 => ?_) (fun c29 => ?_)
        · exact absurd ⟨Int32.not_lt.mp c20, c29⟩ hbad
        · exact r_throwS (is := 189) (text := "value out of range") xl_IllegalArgumentException rfl (by decide) rfl (Nat.le_of_ble_eq_true rfl) (Nat.le_of_ble_eq_true rfl) ⟨(Nat.le_of_ble_eq_true rfl), (Nat.le_of_ble_eq_true rfl)⟩ ⟨(Nat.le_of_ble_eq_true rfl), (Nat.le_of_ble_eq_true rfl)⟩ dX5_set_32 dX5_set_35 dX5_set_36 dX5_set_38 dX5_set_41 (fun n' hn => ⟨rfl, rfl⟩)
    · rw [show (4 : Int32) = nI 4 from rfl, tp_lt (by omega) (by omega)] at c6; omega

set_option maxRecDepth 100000 in
set_option maxHeartbeats 4000000 in
theorem X_append {l : Launch} {G : tp_G} {x : Nat} {h0 h : tp_H} {u : Nat → Int32} {π ρ : Nat → Nat} {us : Nat → Nat → Int32} {σ : Nat → Nat} {st len : Int32} {tx rd : Nat → Int32} (hl : l.stackTraces = false) (hT0 : kx_S G x h0 u π ρ us σ st len tx rd h) {n : Nat} {a : Int32} (hlen : len = nI n) (hn : n < 60) (ha : 33 ≤ a ∧ a ≤ 126) : tp_Met l G mX5_append 0 0 [.ref x, .int a] h (tp_PS (some (.int (nI (n + 1)))) (fun h1 => kx_S G x h u π ρ us σ st (nI (n + 1)) (va_up tx n a) rd h1)) tp_NX := by
  have hT := hT0.self
  have hB := hT.bk
  refine tp_start (L0 := [some (.ref x), some (.int a)]) (by decide) rfl hl (Nat.le_of_ble_eq_true rfl) rfl ?_
  refine r_iload1 dX5_append_0 ?_
  refine r_bipush (v := 33) dX5_append_1 (by decide) ?_
  refine r_icmp_lt (tgt := 12) dX5_append_3 (by decide) (fun c3 => ?_) (fun c3 => ?_)
  · exact absurd c3 (Int32.not_lt.mpr ha.1)
  · refine r_iload1 dX5_append_6 ?_
    refine r_bipush (v := 126) dX5_append_7 (by decide) ?_
    refine r_icmp_le (tgt := 22) dX5_append_9 (by decide) (fun c9 => ?_) (fun c9 => ?_)
    · refine r_aload0 dX5_append_22 ?_
      refine r_getf dX5_append_23 f_X5_193 (hT.ob) rfl ?_
      refine r_aload0 dX5_append_26 ?_
      refine r_getf dX5_append_27 f_X5_20 (hT.ob) rfl ?_
      refine r_alen dX5_append_30 (t := 0) (by decide) hT.bu ?_
      refine r_icmp_lt (tgt := 44) dX5_append_31 (by decide) (fun c31 => ?_) (fun c31 => ?_)
      · refine r_aload0 dX5_append_44 ?_
        refine r_getf dX5_append_45 f_X5_20 (hT.ob) rfl ?_
        refine r_aload0 dX5_append_48 ?_
        refine r_getf dX5_append_49 f_X5_193 (hT.ob) rfl ?_
        refine r_iload1 dX5_append_52 ?_
        refine kx_st_tx dX5_append_53 hT hlen hn (fun h1 hT => ?_)
        refine r_aload0 dX5_append_54 ?_
        refine r_dup dX5_append_55 rfl ?_
        refine r_getf dX5_append_56 f_X5_193 (hT.ob) rfl ?_
        refine r_iconst (v := 1) dX5_append_59 (by decide) ?_
        refine r_iadd dX5_append_60 ?_
        rw [hlen, tp_1]
        refine kx_put_bufferLength dX5_append_61 f_X5_193 hT (fun h1 hT => ?_)
        refine r_aload0 dX5_append_64 ?_
        refine r_getf dX5_append_65 f_X5_193 (hT.ob) rfl ?_
        exact r_iret dX5_append_68 rfl ⟨(Nat.le_of_ble_eq_true rfl), (Nat.le_of_ble_eq_true rfl)⟩ ⟨rfl, hT⟩
      · rw [hlen, tp_lt (by omega) (show 60 < 2 ^ 31 by decide)] at c31; omega
    · exact absurd ha.2 c9

set_option maxRecDepth 100000 in
set_option maxHeartbeats 4000000 in
theorem X_append_1 {l : Launch} {G : tp_G} {x : Nat} {h0 h : tp_H} {u : Nat → Int32} {π ρ : Nat → Nat} {us : Nat → Nat → Int32} {σ : Nat → Nat} {st len : Int32} {tx rd : Nat → Int32} (hl : l.stackTraces = false) (hT0 : kx_S G x h0 u π ρ us σ st len tx rd h) {a : Int32} (hbad : ¬ (33 ≤ a ∧ a ≤ 126)) : tp_Met l G mX5_append 1 6 [.ref x, .int a] h ((fun _ _ => False)) (kx_X "java/lang/IllegalArgumentException" h) := by
  have hT := hT0.self
  have hB := hT.bk
  refine tp_start (L0 := [some (.ref x), some (.int a)]) (by decide) rfl hl (Nat.le_of_ble_eq_true rfl) rfl ?_
  refine r_iload1 dX5_append_0 ?_
  refine r_bipush (v := 33) dX5_append_1 (by decide) ?_
  refine r_icmp_lt (tgt := 12) dX5_append_3 (by decide) (fun c3 => ?_) (fun c3 => ?_)
  · exact r_throwS (is := 191) (text := "code out of range") xl_IllegalArgumentException rfl (by decide) rfl (Nat.le_of_ble_eq_true rfl) (Nat.le_of_ble_eq_true rfl) ⟨(Nat.le_of_ble_eq_true rfl), (Nat.le_of_ble_eq_true rfl)⟩ ⟨(Nat.le_of_ble_eq_true rfl), (Nat.le_of_ble_eq_true rfl)⟩ dX5_append_12 dX5_append_15 dX5_append_16 dX5_append_18 dX5_append_21 (fun n' hn => ⟨rfl, rfl⟩)
  · refine r_iload1 dX5_append_6 ?_
    refine r_bipush (v := 126) dX5_append_7 (by decide) ?_
    refine r_icmp_le (tgt := 22) dX5_append_9 (by decide) (fun c9 => ?_) (fun c9 => ?_)
    · exact absurd ⟨Int32.not_lt.mp c3, c9⟩ hbad
    · exact r_throwS (is := 191) (text := "code out of range") xl_IllegalArgumentException rfl (by decide) rfl (Nat.le_of_ble_eq_true rfl) (Nat.le_of_ble_eq_true rfl) ⟨(Nat.le_of_ble_eq_true rfl), (Nat.le_of_ble_eq_true rfl)⟩ ⟨(Nat.le_of_ble_eq_true rfl), (Nat.le_of_ble_eq_true rfl)⟩ dX5_append_12 dX5_append_15 dX5_append_16 dX5_append_18 dX5_append_21 (fun n' hn => ⟨rfl, rfl⟩)

set_option maxRecDepth 100000 in
set_option maxHeartbeats 4000000 in
theorem X_append_2 {l : Launch} {G : tp_G} {x : Nat} {h0 h : tp_H} {u : Nat → Int32} {π ρ : Nat → Nat} {us : Nat → Nat → Int32} {σ : Nat → Nat} {st len : Int32} {tx rd : Nat → Int32} (hl : l.stackTraces = false) (hT0 : kx_S G x h0 u π ρ us σ st len tx rd h) {n : Nat} {a : Int32} (hlen : len = nI n) (hn : n = 60) (ha : 33 ≤ a ∧ a ≤ 126) : tp_Met l G mX5_append 1 6 [.ref x, .int a] h ((fun _ _ => False)) (kx_X "java/lang/IllegalStateException" h) := by
  have hT := hT0.self
  have hB := hT.bk
  refine tp_start (L0 := [some (.ref x), some (.int a)]) (by decide) rfl hl (Nat.le_of_ble_eq_true rfl) rfl ?_
  refine r_iload1 dX5_append_0 ?_
  refine r_bipush (v := 33) dX5_append_1 (by decide) ?_
  refine r_icmp_lt (tgt := 12) dX5_append_3 (by decide) (fun c3 => ?_) (fun c3 => ?_)
  · exact absurd c3 (Int32.not_lt.mpr ha.1)
  · refine r_iload1 dX5_append_6 ?_
    refine r_bipush (v := 126) dX5_append_7 (by decide) ?_
    refine r_icmp_le (tgt := 22) dX5_append_9 (by decide) (fun c9 => ?_) (fun c9 => ?_)
    · refine r_aload0 dX5_append_22 ?_
      refine r_getf dX5_append_23 f_X5_193 (hT.ob) rfl ?_
      refine r_aload0 dX5_append_26 ?_
      refine r_getf dX5_append_27 f_X5_20 (hT.ob) rfl ?_
      refine r_alen dX5_append_30 (t := 0) (by decide) hT.bu ?_
      refine r_icmp_lt (tgt := 44) dX5_append_31 (by decide) (fun c31 => ?_) (fun c31 => ?_)
      · rw [hlen, tp_lt (by omega) (show 60 < 2 ^ 31 by decide)] at c31; have c31 : n < 60 := c31; omega
      · exact r_throwS (is := 196) (text := "the buffer is full") xl_IllegalStateException rfl (by decide) rfl (Nat.le_of_ble_eq_true rfl) (Nat.le_of_ble_eq_true rfl) ⟨(Nat.le_of_ble_eq_true rfl), (Nat.le_of_ble_eq_true rfl)⟩ ⟨(Nat.le_of_ble_eq_true rfl), (Nat.le_of_ble_eq_true rfl)⟩ dX5_append_34 dX5_append_37 dX5_append_38 dX5_append_40 dX5_append_43 (fun n' hn => ⟨rfl, rfl⟩)
    · exact absurd ha.2 c9

set_option maxRecDepth 100000 in
set_option maxHeartbeats 4000000 in
theorem X_clearBuffer {l : Launch} {G : tp_G} {x : Nat} {h0 h : tp_H} {u : Nat → Int32} {π ρ : Nat → Nat} {us : Nat → Nat → Int32} {σ : Nat → Nat} {st len : Int32} {tx rd : Nat → Int32} (hl : l.stackTraces = false) (hT0 : kx_S G x h0 u π ρ us σ st len tx rd h)  : tp_Met l G mX5_clearBuffer 0 0 [.ref x] h (tp_PS (some (.int len)) (fun h1 => kx_S G x h u π ρ us σ st 0 tx rd h1)) tp_NX := by
  have hT := hT0.self
  have hB := hT.bk
  refine tp_start (L0 := [some (.ref x), none]) (by decide) rfl hl (Nat.le_of_ble_eq_true rfl) rfl ?_
  refine r_aload0 dX5_clearBuffer_0 ?_
  refine r_getf dX5_clearBuffer_1 f_X5_193 (hT.ob) rfl ?_
  refine r_istore1 dX5_clearBuffer_4 (Nat.le_of_ble_eq_true rfl) rfl ?_
  refine r_aload0 dX5_clearBuffer_5 ?_
  refine r_iconst (v := 0) dX5_clearBuffer_6 (by decide) ?_
  refine kx_put_bufferLength dX5_clearBuffer_7 f_X5_193 hT (fun h1 hT => ?_)
  have hB := hT.bk
  refine r_iload1 dX5_clearBuffer_10 ?_
  exact r_iret dX5_clearBuffer_11 rfl ⟨(Nat.le_of_ble_eq_true rfl), (Nat.le_of_ble_eq_true rfl)⟩ ⟨rfl, hT⟩

set_option maxRecDepth 100000 in
set_option maxHeartbeats 4000000 in
theorem X_undo {l : Launch} {G : tp_G} {x : Nat} {h0 h : tp_H} {u : Nat → Int32} {π ρ : Nat → Nat} {us : Nat → Nat → Int32} {σ : Nat → Nat} {st len : Int32} {tx rd : Nat → Int32} (hl : l.stackTraces = false) (hT0 : kx_S G x h0 u π ρ us σ st len tx rd h) {s N P : Nat} (hst : st = nI (s + 1)) (hs5 : s < 6) (hu8 : us s 8 = nI N) (hN : N ≤ 8) (hu9 : us s 9 = nI P) (hP9 : P ≤ 12) : tp_Met l G mX5_undo 0 0 [.ref x] h (tp_PS (some (.int (nI s))) (fun h1 => kx_S G x h (k_copy u (us s) N P) π ρ us σ (nI s) len tx rd h1)) tp_NX := by
  have hT := hT0.self
  have hB := hT.bk
  refine tp_start (L0 := [some (.ref x)]) (by decide) rfl hl (Nat.le_of_ble_eq_true rfl) rfl ?_
  refine r_aload0 dX5_undo_0 ?_
  refine r_getf dX5_undo_1 f_X5_217 (hT.ob) rfl ?_
  refine r_iconst (v := 1) dX5_undo_4 (by decide) ?_
  refine r_icmp_ge (tgt := 18) dX5_undo_5 (by decide) (fun c5 => ?_) (fun c5 => ?_)
  · refine r_aload0 dX5_undo_18 ?_
    refine r_dup dX5_undo_19 rfl ?_
    refine r_getf dX5_undo_20 f_X5_217 (hT.ob) rfl ?_
    refine r_iconst (v := 1) dX5_undo_23 (by decide) ?_
    refine r_isub dX5_undo_24 ?_
    rw [hst, nI_pred]
    refine kx_put_savedStates dX5_undo_25 f_X5_217 hT (fun h1 hT => ?_)
    have hB := hT.bk
    obtain ⟨π2, ρ2, hS⟩ := hT.sj (j := s) (by omega)
    refine r_aload0 dX5_undo_28 ?_
    refine r_getf dX5_undo_29 f_X5_10 (hT.ob) rfl ?_
    refine r_aload0 dX5_undo_32 ?_
    refine r_getf dX5_undo_33 f_X5_16 (hT.ob) rfl ?_
    refine r_aload0 dX5_undo_36 ?_
    refine r_getf dX5_undo_37 f_X5_217 (hT.ob) rfl ?_
    refine r_aald (t := 3) dX5_undo_40 (by decide) hT.sv (i := s) rfl (by omega) (by decide) (kx_s_at (by omega)) ?_
    refine r_sV0 dX5_undo_41 v_X5_222 (K_copyFrom hl hB hS.1 (by have := hT.sp.1 s (by omega); omega) hu8 hN hu9 hP9) rfl (hB.ob) rfl rfl rfl (Nat.le_of_ble_eq_true rfl) ⟨(Nat.le_of_ble_eq_true rfl), (Nat.le_of_ble_eq_true rfl)⟩ ⟨(Nat.le_of_ble_eq_true rfl), (Nat.le_of_ble_eq_true rfl)⟩ (fun h1 hP => ?_)
    have hT := hT.bkTo hP
    have hB := hP.self
    refine r_aload0 dX5_undo_44 ?_
    refine r_getf dX5_undo_45 f_X5_217 (hT.ob) rfl ?_
    exact r_iret dX5_undo_48 rfl ⟨(Nat.le_of_ble_eq_true rfl), (Nat.le_of_ble_eq_true rfl)⟩ ⟨rfl, hT⟩
  · rw [hst, show (1 : Int32) = nI 1 from rfl, tp_le (by omega) (by omega)] at c5; omega

set_option maxRecDepth 100000 in
set_option maxHeartbeats 4000000 in
theorem X_undo_1 {l : Launch} {G : tp_G} {x : Nat} {h0 h : tp_H} {u : Nat → Int32} {π ρ : Nat → Nat} {us : Nat → Nat → Int32} {σ : Nat → Nat} {st len : Int32} {tx rd : Nat → Int32} (hl : l.stackTraces = false) (hT0 : kx_S G x h0 u π ρ us σ st len tx rd h) (hst : st = nI 0) : tp_Met l G mX5_undo 1 6 [.ref x] h ((fun _ _ => False)) (kx_X "java/lang/IllegalStateException" h) := by
  have hT := hT0.self
  have hB := hT.bk
  refine tp_start (L0 := [some (.ref x)]) (by decide) rfl hl (Nat.le_of_ble_eq_true rfl) rfl ?_
  refine r_aload0 dX5_undo_0 ?_
  refine r_getf dX5_undo_1 f_X5_217 (hT.ob) rfl ?_
  refine r_iconst (v := 1) dX5_undo_4 (by decide) ?_
  refine r_icmp_ge (tgt := 18) dX5_undo_5 (by decide) (fun c5 => ?_) (fun c5 => ?_)
  · rw [hst, show (1 : Int32) = nI 1 from rfl, tp_le (by omega) (by omega)] at c5; omega
  · exact r_throwS (is := 220) (text := "no saved state") xl_IllegalStateException rfl (by decide) rfl (Nat.le_of_ble_eq_true rfl) (Nat.le_of_ble_eq_true rfl) ⟨(Nat.le_of_ble_eq_true rfl), (Nat.le_of_ble_eq_true rfl)⟩ ⟨(Nat.le_of_ble_eq_true rfl), (Nat.le_of_ble_eq_true rfl)⟩ dX5_undo_8 dX5_undo_11 dX5_undo_12 dX5_undo_14 dX5_undo_17 (fun n' hn => ⟨rfl, rfl⟩)

