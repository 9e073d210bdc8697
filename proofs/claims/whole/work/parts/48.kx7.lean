set_option maxRecDepth 100000 in
set_option maxHeartbeats 4000000 in
theorem X_load {l : Launch} {G : tp_G} {x : Nat} {h0 h : tp_H} {u : Nat → Int32} {π ρ : Nat → Nat} {us : Nat → Nat → Int32} {σ : Nat → Nat} {st len : Int32} {tx rd : Nat → Int32} (hl : l.stackTraces = false) (hT0 : kx_S G x h0 u π ρ us σ st len tx rd h) {s N P : Nat} (hst : st = nI s) (hs6 : s ≤ 6) (hu8 : u 8 = nI N) (hN : N ≤ 8) (hu9 : u 9 = nI P) (hP9 : P ≤ 12) {w : Nat} {a : Int32} (hw : w < 4) (ha : 1 ≤ a ∧ a ≤ 99999) (hm : u (z_at w 0) ≤ 1000000 - a) : tp_Met l G mX5_load 0 0 [.ref x, .int (nI w), .int a] h (tp_PS (some (.int (k_load u w a (z_at w 0)))) (fun h1 => ∃ σ1, kx_S G x h (k_load u w a) π ρ (kx_us us s u N P) σ1 (nI (z_saveN s)) len tx rd h1)) tp_NX := by
  have hT := hT0.self
  have hB := hT.bk
  refine tp_start (L0 := [some (.ref x), some (.int (nI w)), some (.int a), none]) (by decide) rfl hl (Nat.le_of_ble_eq_true rfl) rfl ?_
  refine r_aload0 dX5_load_0 ?_
  refine r_iload1 dX5_load_1 ?_
  refine r_iconst (v := 0) dX5_load_2 (by decide) ?_
  refine r_pV dX5_load_3 v_X5_31 (X_purseAt hl hT hw (c := 0) (by omega)) rfl (hT.ob) rfl rfl rfl (Nat.le_of_ble_eq_true rfl) ⟨(Nat.le_of_ble_eq_true rfl), (Nat.le_of_ble_eq_true rfl)⟩ ⟨(Nat.le_of_ble_eq_true rfl), (Nat.le_of_ble_eq_true rfl)⟩ ?_
  refine r_astore3 dX5_load_6 (Nat.le_of_ble_eq_true rfl) rfl ?_
  refine r_aload0 dX5_load_7 ?_
  refine r_iload2 dX5_load_8 ?_
  refine r_sV0 dX5_load_9 v_X5_35 (X_requireAmount hl hT ha) rfl (hT.ob) rfl rfl rfl (Nat.le_of_ble_eq_true rfl) ⟨(Nat.le_of_ble_eq_true rfl), (Nat.le_of_ble_eq_true rfl)⟩ ⟨(Nat.le_of_ble_eq_true rfl), (Nat.le_of_ble_eq_true rfl)⟩ (fun h1 hP => ?_)
  subst hP
  refine r_aload0 dX5_load_12 ?_
  refine r_getf dX5_load_13 f_X5_10 (hT.ob) rfl ?_
  refine r_aload3 dX5_load_16 ?_
  refine r_iload2 dX5_load_17 ?_
  refine r_pV dX5_load_18 v_X5_39 (K_mayLoad hl hB hw (c := 0) (by omega)) rfl (hB.ob) rfl rfl rfl (Nat.le_of_ble_eq_true rfl) ⟨(Nat.le_of_ble_eq_true rfl), (Nat.le_of_ble_eq_true rfl)⟩ ⟨(Nat.le_of_ble_eq_true rfl), (Nat.le_of_ble_eq_true rfl)⟩ ?_
  refine r_if_ne (tgt := 34) dX5_load_21 (by decide) (fun c21 => ?_) (fun c21 => ?_)
  · refine r_aload0 dX5_load_34 ?_
    refine r_sV0 dX5_load_35 v_X5_50 (X_saveState hl hT hst hs6 hu8 hN hu9 hP9) rfl (hT.ob) rfl rfl rfl (Nat.le_of_ble_eq_true rfl) ⟨(Nat.le_of_ble_eq_true rfl), (Nat.le_of_ble_eq_true rfl)⟩ ⟨(Nat.le_of_ble_eq_true rfl), (Nat.le_of_ble_eq_true rfl)⟩ (fun h1 hP => ?_)
    obtain ⟨σ1, hP⟩ := hP
    have hT := hT.trans hP
    have hB := hT.bk
    refine r_aload0 dX5_load_38 ?_
    refine r_getf dX5_load_39 f_X5_10 (hT.ob) rfl ?_
    refine r_aload3 dX5_load_42 ?_
    refine r_iload2 dX5_load_43 ?_
    refine r_sV0 dX5_load_44 v_X5_53 (K_addLoad hl hB hw) rfl (hB.ob) rfl rfl rfl (Nat.le_of_ble_eq_true rfl) ⟨(Nat.le_of_ble_eq_true rfl), (Nat.le_of_ble_eq_true rfl)⟩ ⟨(Nat.le_of_ble_eq_true rfl), (Nat.le_of_ble_eq_true rfl)⟩ (fun h1 hP => ?_)
    have hT := hT.bkTo hP
    have hB := hP.self
    refine r_aload3 dX5_load_47 ?_
    refine r_getf dX5_load_48 f_X5_57 (hB.pu hw (c := 0) (by omega)) rfl ?_
    exact r_iret dX5_load_51 rfl ⟨(Nat.le_of_ble_eq_true rfl), (Nat.le_of_ble_eq_true rfl)⟩ ⟨rfl, _, hT⟩
  · first | exact absurd hm (tp_b_0.mp c21) | exact absurd hm (tp_b_0.mp (Classical.not_not.mp c21)) | exact absurd (tp_b_n c21) hm

set_option maxRecDepth 100000 in
set_option maxHeartbeats 4000000 in
theorem X_load_1 {l : Launch} {G : tp_G} {x : Nat} {h0 h : tp_H} {u : Nat → Int32} {π ρ : Nat → Nat} {us : Nat → Nat → Int32} {σ : Nat → Nat} {st len : Int32} {tx rd : Nat → Int32} (hl : l.stackTraces = false) (hT0 : kx_S G x h0 u π ρ us σ st len tx rd h) {w a : Int32} (hbad : ¬ (0 ≤ w ∧ w ≤ 3)) : tp_Met l G mX5_load 1 6 [.ref x, .int w, .int a] h ((fun _ _ => False)) (kx_X "java/lang/IndexOutOfBoundsException" h) := by
  have hT := hT0.self
  have hB := hT.bk
  refine tp_start (L0 := [some (.ref x), some (.int w), some (.int a), none]) (by decide) rfl hl (Nat.le_of_ble_eq_true rfl) rfl ?_
  refine r_aload0 dX5_load_0 ?_
  refine r_iload1 dX5_load_1 ?_
  refine r_iconst (v := 0) dX5_load_2 (by decide) ?_
  exact r_xV dX5_load_3 v_X5_31 (X_purseAt_x hl hT (fun q => hbad q.1)) rfl (hT.ob) rfl rfl rfl (Nat.le_of_ble_eq_true rfl) ⟨(Nat.le_of_ble_eq_true rfl), (Nat.le_of_ble_eq_true rfl)⟩ ⟨(Nat.le_of_ble_eq_true rfl), (Nat.le_of_ble_eq_true rfl)⟩ rfl ⟨(Nat.le_of_ble_eq_true rfl), (Nat.le_of_ble_eq_true rfl)⟩ rfl

set_option maxRecDepth 100000 in
set_option maxHeartbeats 4000000 in
theorem X_load_2 {l : Launch} {G : tp_G} {x : Nat} {h0 h : tp_H} {u : Nat → Int32} {π ρ : Nat → Nat} {us : Nat → Nat → Int32} {σ : Nat → Nat} {st len : Int32} {tx rd : Nat → Int32} (hl : l.stackTraces = false) (hT0 : kx_S G x h0 u π ρ us σ st len tx rd h) {w : Nat} {a : Int32} (hw : w < 4) (hbad : ¬ (1 ≤ a ∧ a ≤ 99999)) : tp_Met l G mX5_load 1 6 [.ref x, .int (nI w), .int a] h ((fun _ _ => False)) (kx_X "java/lang/IllegalArgumentException" h) := by
  have hT := hT0.self
  have hB := hT.bk
  refine tp_start (L0 := [some (.ref x), some (.int (nI w)), some (.int a), none]) (by decide) rfl hl (Nat.le_of_ble_eq_true rfl) rfl ?_
  refine r_aload0 dX5_load_0 ?_
  refine r_iload1 dX5_load_1 ?_
  refine r_iconst (v := 0) dX5_load_2 (by decide) ?_
  refine r_pV dX5_load_3 v_X5_31 (X_purseAt hl hT hw (c := 0) (by omega)) rfl (hT.ob) rfl rfl rfl (Nat.le_of_ble_eq_true rfl) ⟨(Nat.le_of_ble_eq_true rfl), (Nat.le_of_ble_eq_true rfl)⟩ ⟨(Nat.le_of_ble_eq_true rfl), (Nat.le_of_ble_eq_true rfl)⟩ ?_
  refine r_astore3 dX5_load_6 (Nat.le_of_ble_eq_true rfl) rfl ?_
  refine r_aload0 dX5_load_7 ?_
  refine r_iload2 dX5_load_8 ?_
  exact r_xV dX5_load_9 v_X5_35 (X_requireAmount_x hl hT hbad) rfl (hT.ob) rfl rfl rfl (Nat.le_of_ble_eq_true rfl) ⟨(Nat.le_of_ble_eq_true rfl), (Nat.le_of_ble_eq_true rfl)⟩ ⟨(Nat.le_of_ble_eq_true rfl), (Nat.le_of_ble_eq_true rfl)⟩ rfl ⟨(Nat.le_of_ble_eq_true rfl), (Nat.le_of_ble_eq_true rfl)⟩ rfl

set_option maxRecDepth 100000 in
set_option maxHeartbeats 4000000 in
theorem X_load_3 {l : Launch} {G : tp_G} {x : Nat} {h0 h : tp_H} {u : Nat → Int32} {π ρ : Nat → Nat} {us : Nat → Nat → Int32} {σ : Nat → Nat} {st len : Int32} {tx rd : Nat → Int32} (hl : l.stackTraces = false) (hT0 : kx_S G x h0 u π ρ us σ st len tx rd h) {w : Nat} {a : Int32} (hw : w < 4) (ha : 1 ≤ a ∧ a ≤ 99999) (hm : ¬ u (z_at w 0) ≤ 1000000 - a) : tp_Met l G mX5_load 1 6 [.ref x, .int (nI w), .int a] h ((fun _ _ => False)) (kx_X "java/lang/IllegalStateException" h) := by
  have hT := hT0.self
  have hB := hT.bk
  refine tp_start (L0 := [some (.ref x), some (.int (nI w)), some (.int a), none]) (by decide) rfl hl (Nat.le_of_ble_eq_true rfl) rfl ?_
  refine r_aload0 dX5_load_0 ?_
  refine r_iload1 dX5_load_1 ?_
  refine r_iconst (v := 0) dX5_load_2 (by decide) ?_
  refine r_pV dX5_load_3 v_X5_31 (X_purseAt hl hT hw (c := 0) (by omega)) rfl (hT.ob) rfl rfl rfl (Nat.le_of_ble_eq_true rfl) ⟨(Nat.le_of_ble_eq_true rfl), (Nat.le_of_ble_eq_true rfl)⟩ ⟨(Nat.le_of_ble_eq_true rfl), (Nat.le_of_ble_eq_true rfl)⟩ ?_
  refine r_astore3 dX5_load_6 (Nat.le_of_ble_eq_true rfl) rfl ?_
  refine r_aload0 dX5_load_7 ?_
  refine r_iload2 dX5_load_8 ?_
  refine r_sV0 dX5_load_9 v_X5_35 (X_requireAmount hl hT ha) rfl (hT.ob) rfl rfl rfl (Nat.le_of_ble_eq_true rfl) ⟨(Nat.le_of_ble_eq_true rfl), (Nat.le_of_ble_eq_true rfl)⟩ ⟨(Nat.le_of_ble_eq_true rfl), (Nat.le_of_ble_eq_true rfl)⟩ (fun h1 hP => ?_)
  subst hP
  refine r_aload0 dX5_load_12 ?_
  refine r_getf dX5_load_13 f_X5_10 (hT.ob) rfl ?_
  refine r_aload3 dX5_load_16 ?_
  refine r_iload2 dX5_load_17 ?_
  refine r_pV dX5_load_18 v_X5_39 (K_mayLoad hl hB hw (c := 0) (by omega)) rfl (hB.ob) rfl rfl rfl (Nat.le_of_ble_eq_true rfl) ⟨(Nat.le_of_ble_eq_true rfl), (Nat.le_of_ble_eq_true rfl)⟩ ⟨(Nat.le_of_ble_eq_true rfl), (Nat.le_of_ble_eq_true rfl)⟩ ?_
  refine r_if_ne (tgt := 34) dX5_load_21 (by decide) (fun c21 => ?_) (fun c21 => ?_)
  · first | exact absurd hm (tp_b_0.mp c21) | exact absurd hm (tp_b_0.mp (Classical.not_not.mp c21)) | exact absurd (tp_b_n c21) hm
  · exact r_throwS (is := 45) (text := "too much home money") xl_IllegalStateException rfl (by decide) rfl (Nat.le_of_ble_eq_true rfl) (Nat.le_of_ble_eq_true rfl) ⟨(Nat.le_of_ble_eq_true rfl), (Nat.le_of_ble_eq_true rfl)⟩ ⟨(Nat.le_of_ble_eq_true rfl), (Nat.le_of_ble_eq_true rfl)⟩ dX5_load_24 dX5_load_27 dX5_load_28 dX5_load_30 dX5_load_33 (fun n' hn => ⟨rfl, rfl⟩)

set_option maxRecDepth 100000 in
set_option maxHeartbeats 4000000 in
theorem X_quote {l : Launch} {G : tp_G} {x : Nat} {h0 h : tp_H} {u : Nat → Int32} {π ρ : Nat → Nat} {us : Nat → Nat → Int32} {σ : Nat → Nat} {st len : Int32} {tx rd : Nat → Int32} (hl : l.stackTraces = false) (hT0 : kx_S G x h0 u π ρ us σ st len tx rd h) {s N P : Nat} (hst : st = nI s) (hs6 : s ≤ 6) (hu8 : u 8 = nI N) (hN : N ≤ 8) (hu9 : u 9 = nI P) (hP9 : P ≤ 12) {c : Nat} {r : Int32} (hc : 0 < c ∧ c < 4) (hr : 100 ≤ r ∧ r ≤ 2000) : tp_Met l G mX5_quote 0 0 [.ref x, .int (nI c), .int r] h (tp_PS (some (.int (u (4 + c)))) (fun h1 => ∃ σ1, kx_S G x h (va_up u (4 + c) r) π ρ (kx_us us s u N P) σ1 (nI (z_saveN s)) len tx rd h1)) tp_NX := by
  have hT := hT0.self
  have hB := hT.bk
  refine tp_start (L0 := [some (.ref x), some (.int (nI c)), some (.int r), none]) (by decide) rfl hl (Nat.le_of_ble_eq_true rfl) rfl ?_
  refine r_iload1 dX5_quote_0 ?_
  refine r_if_le (tgt := 9) dX5_quote_1 (by decide) (fun c1 => ?_) (fun c1 => ?_)
  · rw [show (0 : Int32) = nI 0 from rfl, tp_le (by omega) (by omega)] at c1; omega
  · refine r_iload1 dX5_quote_4 ?_
    refine r_iconst (v := 4) dX5_quote_5 (by decide) ?_
    refine r_icmp_lt (tgt := 19) dX5_quote_6 (by decide) (fun c6 => ?_) (fun c6 => ?_)
    · refine r_iload2 dX5_quote_19 ?_
      refine r_bipush (v := 100) dX5_quote_20 (by decide) ?_
      refine r_icmp_lt (tgt := 32) dX5_quote_22 (by decide) (fun c22 => ?_) (fun c22 => ?_)
      · exact absurd c22 (Int32.not_lt.mpr hr.1)
      · refine r_iload2 dX5_quote_25 ?_
        refine r_sipush (v := 2000) dX5_quote_26 (by decide) ?_
        refine r_icmp_le (tgt := 42) dX5_quote_29 (by decide) (fun c29 => ?_) (fun c29 => ?_)
        · refine r_aload0 dX5_quote_42 ?_
          refine r_sV0 dX5_quote_43 v_X5_50 (X_saveState hl hT hst hs6 hu8 hN hu9 hP9) rfl (hT.ob) rfl rfl rfl (Nat.le_of_ble_eq_true rfl) ⟨(Nat.le_of_ble_eq_true rfl), (Nat.le_of_ble_eq_true rfl)⟩ ⟨(Nat.le_of_ble_eq_true rfl), (Nat.le_of_ble_eq_true rfl)⟩ (fun h1 hP => ?_)
          obtain ⟨σ1, hP⟩ := hP
          have hT := hT.trans hP
          have hB := hT.bk
          refine r_aload0 dX5_quote_46 ?_
          refine r_getf dX5_quote_47 f_X5_10 (hT.ob) rfl ?_
          refine r_getf dX5_quote_50 f_X5_73 (hB.ob) rfl ?_
          refine r_iload1 dX5_quote_53 ?_
          refine r_iald dX5_quote_54 hB.ra (i := c) rfl (by omega) (by decide) ?_
          rw [kR_at (by omega) (by omega)]
          refine r_istore3 dX5_quote_55 (Nat.le_of_ble_eq_true rfl) rfl ?_
          refine r_aload0 dX5_quote_56 ?_
          refine r_getf dX5_quote_57 f_X5_10 (hT.ob) rfl ?_
          refine r_getf dX5_quote_60 f_X5_73 (hB.ob) rfl ?_
          refine r_iload1 dX5_quote_63 ?_
          refine r_iload2 dX5_quote_64 ?_
          refine kb_st_ra dX5_quote_65 hB rfl (by omega) (fun h1 hB => ?_)
          have hT := hT.bkTo hB
          have hB := hB.self
          refine r_iload3 dX5_quote_66 ?_
          exact r_iret dX5_quote_67 rfl ⟨(Nat.le_of_ble_eq_true rfl), (Nat.le_of_ble_eq_true rfl)⟩ ⟨rfl, _, hT⟩
        · exact absurd hr.2 c29
    · rw [show (4 : Int32) = nI 4 from rfl, tp_lt (by omega) (by omega)] at c6; omega

theorem tp_gt0 {v : Int32} (h : 0 < v) : 1 ≤ v := by
  rw [Int32.lt_iff_toInt_lt] at h
  rw [Int32.le_iff_toInt_le]
  have e1 : (1 : Int32).toInt = 1 := rfl
  have e0 : (0 : Int32).toInt = 0 := rfl
  omega
set_option maxRecDepth 100000 in
set_option maxHeartbeats 4000000 in
theorem X_quote_1 {l : Launch} {G : tp_G} {x : Nat} {h0 h : tp_H} {u : Nat → Int32} {π ρ : Nat → Nat} {us : Nat → Nat → Int32} {σ : Nat → Nat} {st len : Int32} {tx rd : Nat → Int32} (hl : l.stackTraces = false) (hT0 : kx_S G x h0 u π ρ us σ st len tx rd h) {c r : Int32} (hbad : ¬ (1 ≤ c ∧ c ≤ 3)) : tp_Met l G mX5_quote 1 6 [.ref x, .int c, .int r] h ((fun _ _ => False)) (kx_X "java/lang/IndexOutOfBoundsException" h) := by
  have hT := hT0.self
  have hB := hT.bk
  refine tp_start (L0 := [some (.ref x), some (.int c), some (.int r), none]) (by decide) rfl hl (Nat.le_of_ble_eq_true rfl) rfl ?_
  refine r_iload1 dX5_quote_0 ?_
  refine r_if_le (tgt := 9) dX5_quote_1 (by decide) (fun c1 => ?_) (fun c1 => ?_)
  · exact r_throwS (is := 65) (text := "no such foreign currency") xl_IndexOutOfBoundsException rfl (by decide) rfl (Nat.le_of_ble_eq_true rfl) (Nat.le_of_ble_eq_true rfl) ⟨(Nat.le_of_ble_eq_true rfl), (Nat.le_of_ble_eq_true rfl)⟩ ⟨(Nat.le_of_ble_eq_true rfl), (Nat.le_of_ble_eq_true rfl)⟩ dX5_quote_9 dX5_quote_12 dX5_quote_13 dX5_quote_15 dX5_quote_18 (fun n' hn => ⟨rfl, rfl⟩)
  · refine r_iload1 dX5_quote_4 ?_
    refine r_iconst (v := 4) dX5_quote_5 (by decide) ?_
    refine r_icmp_lt (tgt := 19) dX5_quote_6 (by decide) (fun c6 => ?_) (fun c6 => ?_)
    · exact absurd ⟨tp_gt0 (Int32.not_le.mp c1), tp_lt4 c6⟩ hbad
    · exact r_throwS (is := 65) (text := "no such foreign currency") xl_IndexOutOfBoundsException rfl (by decide) rfl (Nat.le_of_ble_eq_true rfl) (Nat.le_of_ble_eq_true rfl) ⟨(Nat.le_of_ble_eq_true rfl), (Nat.le_of_ble_eq_true rfl)⟩ ⟨(Nat.le_of_ble_eq_true rfl), (Nat.le_of_ble_eq_true rfl)⟩ dX5_quote_9 dX5_quote_12 dX5_quote_13 dX5_quote_15 dX5_quote_18 (fun n' hn => ⟨rfl, rfl⟩)

set_option maxRecDepth 100000 in
set_option maxHeartbeats 4000000 in
theorem X_quote_2 {l : Launch} {G : tp_G} {x : Nat} {h0 h : tp_H} {u : Nat → Int32} {π ρ : Nat → Nat} {us : Nat → Nat → Int32} {σ : Nat → Nat} {st len : Int32} {tx rd : Nat → Int32} (hl : l.stackTraces = false) (hT0 : kx_S G x h0 u π ρ us σ st len tx rd h) {c : Nat} {r : Int32} (hc : 0 < c ∧ c < 4) (hbad : ¬ (100 ≤ r ∧ r ≤ 2000)) : tp_Met l G mX5_quote 1 6 [.ref x, .int (nI c), .int r] h ((fun _ _ => False)) (kx_X "java/lang/IllegalArgumentException" h) := by
  have hT := hT0.self
  have hB := hT.bk
  refine tp_start (L0 := [some (.ref x), some (.int (nI c)), some (.int r), none]) (by decide) rfl hl (Nat.le_of_ble_eq_true rfl) rfl ?_
  refine r_iload1 dX5_quote_0 ?_
  refine r_if_le (tgt := 9) dX5_quote_1 (by decide) (fun c1 => ?_) (fun c1 => ?_)
  · rw [show (0 : Int32) = nI 0 from rfl, tp_le (by omega) (by omega)] at c1; omega
  · refine r_iload1 dX5_quote_4 ?_
    refine r_iconst (v := 4) dX5_quote_5 (by decide) ?_
    refine r_icmp_lt (tgt := 19) dX5_quote_6 (by decide) (fun c6 => ?_) (fun c6 => ?_)
    · refine r_iload2 dX5_quote_19 ?_
      refine r_bipush (v := 100) dX5_quote_20 (by decide) ?_
      refine r_icmp_lt (tgt := 32) dX5_quote_22 (by decide) (fun c22 => ?_) (fun c22 => ?_)
      · exact r_throwS (is := 70) (text := "rate out of range") xl_IllegalArgumentException rfl (by decide) rfl (Nat.le_of_ble_eq_true rfl) (Nat.le_of_ble_eq_true rfl) ⟨(Nat.le_of_ble_eq_true rfl), (Nat.le_of_ble_eq_true rfl)⟩ ⟨(Nat.le_of_ble_eq_true rfl), (Nat.le_of_ble_eq_true rfl)⟩ dX5_quote_32 dX5_quote_35 dX5_quote_36 dX5_quote_38 dX5_quote_41 (fun n' hn => ⟨rfl, rfl⟩)
      · refine r_iload2 dX5_quote_25 ?_
        refine r_sipush (v := 2000) dX5_quote_26 (by decide) ?_
        refine r_icmp_le (tgt := 42) dX5_quote_29 (by decide) (fun c29 => ?_) (fun c29 => ?_)
        · exact absurd ⟨Int32.not_lt.mp c22, c29⟩ hbad
        · exact r_throwS (is := 70) (text := "rate out of range") xl_IllegalArgumentException rfl (by decide) rfl (Nat.le_of_ble_eq_true rfl) (Nat.le_of_ble_eq_true rfl) ⟨(Nat.le_of_ble_eq_true rfl), (Nat.le_of_ble_eq_true rfl)⟩ ⟨(Nat.le_of_ble_eq_true rfl), (Nat.le_of_ble_eq_true rfl)⟩ dX5_quote_32 dX5_quote_35 dX5_quote_36 dX5_quote_38 dX5_quote_41 (fun n' hn => ⟨rfl, rfl⟩)
    · rw [show (4 : Int32) = nI 4 from rfl, tp_lt (by omega) (by omega)] at c6; omega

set_option maxRecDepth 100000 in
set_option maxHeartbeats 4000000 in
theorem X_lock {l : Launch} {G : tp_G} {x : Nat} {h0 h : tp_H} {u : Nat → Int32} {π ρ : Nat → Nat} {us : Nat → Nat → Int32} {σ : Nat → Nat} {st len : Int32} {tx rd : Nat → Int32} (hl : l.stackTraces = false) (hT0 : kx_S G x h0 u π ρ us σ st len tx rd h) {s N P : Nat} (hst : st = nI s) (hs6 : s ≤ 6) (hu8 : u 8 = nI N) (hN : N ≤ 8) (hu9 : u 9 = nI P) (hP9 : P ≤ 12) {w c : Nat} (hw : w < 4) (hc : c < 4) (h0c : 0 < c) : tp_Met l G mX5_lock 0 0 [.ref x, .int (nI w), .int (nI c)] h (tp_PS (some (.int (u 4 + u 0))) (fun h1 => ∃ σ1, kx_S G x h (va_up (va_up u (z_at w c + 2) (u (4 + c))) (z_at w c + 3) (u 4 + u 0)) π ρ (kx_us us s u N P) σ1 (nI (z_saveN s)) len tx rd h1)) tp_NX := by
  have hT := hT0.self
  have hB := hT.bk
  refine tp_start (L0 := [some (.ref x), some (.int (nI w)), some (.int (nI c)), none]) (by decide) rfl hl (Nat.le_of_ble_eq_true rfl) rfl ?_
  refine r_aload0 dX5_lock_0 ?_
  refine r_iload1 dX5_lock_1 ?_
  refine r_iload2 dX5_lock_2 ?_
  refine r_pV dX5_lock_3 v_X5_76 (X_foreignPurseAt hl hT hw hc h0c) rfl (hT.ob) rfl rfl rfl (Nat.le_of_ble_eq_true rfl) ⟨(Nat.le_of_ble_eq_true rfl), (Nat.le_of_ble_eq_true rfl)⟩ ⟨(Nat.le_of_ble_eq_true rfl), (Nat.le_of_ble_eq_true rfl)⟩ ?_
  refine r_astore3 dX5_lock_6 (Nat.le_of_ble_eq_true rfl) rfl ?_
  refine r_aload0 dX5_lock_7 ?_
  refine r_sV0 dX5_lock_8 v_X5_50 (X_saveState hl hT hst hs6 hu8 hN hu9 hP9) rfl (hT.ob) rfl rfl rfl (Nat.le_of_ble_eq_true rfl) ⟨(Nat.le_of_ble_eq_true rfl), (Nat.le_of_ble_eq_true rfl)⟩ ⟨(Nat.le_of_ble_eq_true rfl), (Nat.le_of_ble_eq_true rfl)⟩ (fun h1 hP => ?_)
  obtain ⟨σ1, hP⟩ := hP
  have hT := hT.trans hP
  have hB := hT.bk
  refine r_aload3 dX5_lock_11 ?_
  refine r_aload0 dX5_lock_12 ?_
  refine r_getf dX5_lock_13 f_X5_10 (hT.ob) rfl ?_
  refine r_getf dX5_lock_16 f_X5_73 (hB.ob) rfl ?_
  refine r_aload3 dX5_lock_19 ?_
  refine r_getf dX5_lock_20 f_X5_79 (hB.pu hw hc) rfl ?_
  refine r_iald dX5_lock_23 hB.ra (i := c) rfl (by omega) (by decide) ?_
  rw [kR_at (by omega) (by omega)]
  refine kb_put_lockedRate dX5_lock_24 f_X5_82 hB hw hc (fun h1 hB => ?_)
  have hT := hT.bkTo hB
  have hB := hB.self
  refine r_aload3 dX5_lock_27 ?_
  refine r_aload0 dX5_lock_28 ?_
  refine r_getf dX5_lock_29 f_X5_10 (hT.ob) rfl ?_
  refine r_getf dX5_lock_32 f_X5_85 (hB.ob) rfl ?_
  refine r_aload0 dX5_lock_35 ?_
  refine r_getf dX5_lock_36 f_X5_10 (hT.ob) rfl ?_
  refine r_getf dX5_lock_39 f_X5_88 (hB.ob) rfl ?_
  refine r_iconst (v := 0) dX5_lock_42 (by decide) ?_
  refine r_iald dX5_lock_43 hB.se (i := 0) rfl (by omega) (by decide) ?_
  rw [kS_at (by omega), va_c1 0 (by unfold z_at; omega), va_c1 4 (by unfold z_at; omega)]
  refine r_iadd dX5_lock_44 ?_
  refine kb_put_lockEnd dX5_lock_45 f_X5_91 hB hw hc (fun h1 hB => ?_)
  have hT := hT.bkTo hB
  have hB := hB.self
  refine r_aload3 dX5_lock_48 ?_
  refine r_getf dX5_lock_49 f_X5_91 (hB.pu hw hc) rfl ?_
  exact r_iret dX5_lock_52 rfl ⟨(Nat.le_of_ble_eq_true rfl), (Nat.le_of_ble_eq_true rfl)⟩ ⟨by rw [va_up_eq], _, hT⟩

set_option maxRecDepth 100000 in
set_option maxHeartbeats 4000000 in
theorem X_lock_1 {l : Launch} {G : tp_G} {x : Nat} {h0 h : tp_H} {u : Nat → Int32} {π ρ : Nat → Nat} {us : Nat → Nat → Int32} {σ : Nat → Nat} {st len : Int32} {tx rd : Nat → Int32} (hl : l.stackTraces = false) (hT0 : kx_S G x h0 u π ρ us σ st len tx rd h) {w c : Int32} (hbad : ¬ (((0 ≤ w ∧ w ≤ 3) ∧ (0 ≤ c ∧ c ≤ 3)) ∧ 0 < c)) : tp_Met l G mX5_lock 1 6 [.ref x, .int w, .int c] h ((fun _ _ => False)) (kx_X "java/lang/IndexOutOfBoundsException" h) := by
  have hT := hT0.self
  have hB := hT.bk
  refine tp_start (L0 := [some (.ref x), some (.int w), some (.int c), none]) (by decide) rfl hl (Nat.le_of_ble_eq_true rfl) rfl ?_
  refine r_aload0 dX5_lock_0 ?_
  refine r_iload1 dX5_lock_1 ?_
  refine r_iload2 dX5_lock_2 ?_
  exact r_xV dX5_lock_3 v_X5_76 (X_foreignPurseAt_x hl hT hbad) rfl (hT.ob) rfl rfl rfl (Nat.le_of_ble_eq_true rfl) ⟨(Nat.le_of_ble_eq_true rfl), (Nat.le_of_ble_eq_true rfl)⟩ ⟨(Nat.le_of_ble_eq_true rfl), (Nat.le_of_ble_eq_true rfl)⟩ rfl ⟨(Nat.le_of_ble_eq_true rfl), (Nat.le_of_ble_eq_true rfl)⟩ rfl

set_option maxRecDepth 100000 in
set_option maxHeartbeats 4000000 in
theorem X_exchange {l : Launch} {G : tp_G} {x : Nat} {h0 h : tp_H} {u : Nat → Int32} {π ρ : Nat → Nat} {us : Nat → Nat → Int32} {σ : Nat → Nat} {st len : Int32} {tx rd : Nat → Int32} (hl : l.stackTraces = false) (hT0 : kx_S G x h0 u π ρ us σ st len tx rd h) {s N P : Nat} (hst : st = nI s) (hs6 : s ≤ 6) (hu8 : u 8 = nI N) (hN : N ≤ 8) (hu9 : u 9 = nI P) (hP9 : P ≤ 12) {w f t : Nat} {a : Int32} (hw : w < 4) (hf : f < 4) (ht : t < 4) (ha : 1 ≤ a ∧ a ≤ 99999) (hm : z_whyEx u w f t a = 0) : tp_Met l G mX5_exchange 0 0 [.ref x, .int (nI w), .int (nI f), .int (nI t), .int a] h (tp_PS (some (.int (k_net u w f t a))) (fun h1 => ∃ σ1, kx_S G x h (k_conv u w f t a) π ρ (kx_us us s u N P) σ1 (nI (z_saveN s)) len tx rd h1)) tp_NX := by
  have hT := hT0.self
  have hB := hT.bk
  refine tp_start (L0 := [some (.ref x), some (.int (nI w)), some (.int (nI f)), some (.int (nI t)), some (.int a), none, none]) (by decide) rfl hl (Nat.le_of_ble_eq_true rfl) rfl ?_
  refine r_aload0 dX5_exchange_0 ?_
  refine r_iload1 dX5_exchange_1 ?_
  refine r_iload2 dX5_exchange_2 ?_
  refine r_pV dX5_exchange_3 v_X5_31 (X_purseAt hl hT hw hf) rfl (hT.ob) rfl rfl rfl (Nat.le_of_ble_eq_true rfl) ⟨(Nat.le_of_ble_eq_true rfl), (Nat.le_of_ble_eq_true rfl)⟩ ⟨(Nat.le_of_ble_eq_true rfl), (Nat.le_of_ble_eq_true rfl)⟩ ?_
  refine r_astore5 dX5_exchange_6 (Nat.le_of_ble_eq_true rfl) rfl ?_
  refine r_aload0 dX5_exchange_8 ?_
  refine r_iload1 dX5_exchange_9 ?_
  refine r_iload3 dX5_exchange_10 ?_
  refine r_pV dX5_exchange_11 v_X5_31 (X_purseAt hl hT hw ht) rfl (hT.ob) rfl rfl rfl (Nat.le_of_ble_eq_true rfl) ⟨(Nat.le_of_ble_eq_true rfl), (Nat.le_of_ble_eq_true rfl)⟩ ⟨(Nat.le_of_ble_eq_true rfl), (Nat.le_of_ble_eq_true rfl)⟩ ?_
  refine r_astore6 dX5_exchange_14 (Nat.le_of_ble_eq_true rfl) rfl ?_
  refine r_aload0 dX5_exchange_16 ?_
  refine r_iload4 dX5_exchange_17 ?_
  refine r_sV0 dX5_exchange_19 v_X5_35 (X_requireAmount hl hT ha) rfl (hT.ob) rfl rfl rfl (Nat.le_of_ble_eq_true rfl) ⟨(Nat.le_of_ble_eq_true rfl), (Nat.le_of_ble_eq_true rfl)⟩ ⟨(Nat.le_of_ble_eq_true rfl), (Nat.le_of_ble_eq_true rfl)⟩ (fun h1 hP => ?_)
  subst hP
  refine r_aload0 dX5_exchange_22 ?_
  refine r_getf dX5_exchange_23 f_X5_10 (hT.ob) rfl ?_
  refine r_aload5 dX5_exchange_26 ?_
  refine r_aload6 dX5_exchange_28 ?_
  refine r_iload4 dX5_exchange_30 ?_
  refine r_pV dX5_exchange_32 v_X5_94 (K_exchangeReason hl hB hw hf ht hu8 hN) rfl (hB.ob) rfl rfl rfl (Nat.le_of_ble_eq_true rfl) ⟨(Nat.le_of_ble_eq_true rfl), (Nat.le_of_ble_eq_true rfl)⟩ ⟨(Nat.le_of_ble_eq_true rfl), (Nat.le_of_ble_eq_true rfl)⟩ ?_
  refine r_if_eq (tgt := 48) dX5_exchange_35 (by decide) (fun c35 => ?_) (fun c35 => ?_)
  · refine r_aload0 dX5_exchange_48 ?_
    refine r_sV0 dX5_exchange_49 v_X5_50 (X_saveState hl hT hst hs6 hu8 hN hu9 hP9) rfl (hT.ob) rfl rfl rfl (Nat.le_of_ble_eq_true rfl) ⟨(Nat.le_of_ble_eq_true rfl), (Nat.le_of_ble_eq_true rfl)⟩ ⟨(Nat.le_of_ble_eq_true rfl), (Nat.le_of_ble_eq_true rfl)⟩ (fun h1 hP => ?_)
    obtain ⟨σ1, hP⟩ := hP
    have hT := hT.trans hP
    have hB := hT.bk
    refine r_aload0 dX5_exchange_52 ?_
    refine r_getf dX5_exchange_53 f_X5_10 (hT.ob) rfl ?_
    refine r_aload5 dX5_exchange_56 ?_
    refine r_aload6 dX5_exchange_58 ?_
    refine r_iload4 dX5_exchange_60 ?_
    refine r_sV1 dX5_exchange_62 v_X5_100 (K_convert hl hB hw hf ht) rfl (hB.ob) rfl rfl rfl (Nat.le_of_ble_eq_true rfl) ⟨(Nat.le_of_ble_eq_true rfl), (Nat.le_of_ble_eq_true rfl)⟩ ⟨(Nat.le_of_ble_eq_true rfl), (Nat.le_of_ble_eq_true rfl)⟩ (fun h1 hP => ?_)
    have hT := hT.bkTo hP
    have hB := hP.self
    exact r_iret dX5_exchange_65 rfl ⟨(Nat.le_of_ble_eq_true rfl), (Nat.le_of_ble_eq_true rfl)⟩ ⟨rfl, _, hT⟩
  · exact absurd hm c35

set_option maxRecDepth 100000 in
set_option maxHeartbeats 4000000 in
theorem X_exchange_1 {l : Launch} {G : tp_G} {x : Nat} {h0 h : tp_H} {u : Nat → Int32} {π ρ : Nat → Nat} {us : Nat → Nat → Int32} {σ : Nat → Nat} {st len : Int32} {tx rd : Nat → Int32} (hl : l.stackTraces = false) (hT0 : kx_S G x h0 u π ρ us σ st len tx rd h) {w f t a : Int32} (hbad : ¬ ((0 ≤ w ∧ w ≤ 3) ∧ (0 ≤ f ∧ f ≤ 3))) : tp_Met l G mX5_exchange 1 6 [.ref x, .int w, .int f, .int t, .int a] h ((fun _ _ => False)) (kx_X "java/lang/IndexOutOfBoundsException" h) := by
  have hT := hT0.self
  have hB := hT.bk
  refine tp_start (L0 := [some (.ref x), some (.int w), some (.int f), some (.int t), some (.int a), none, none]) (by decide) rfl hl (Nat.le_of_ble_eq_true rfl) rfl ?_
  refine r_aload0 dX5_exchange_0 ?_
  refine r_iload1 dX5_exchange_1 ?_
  refine r_iload2 dX5_exchange_2 ?_
  exact r_xV dX5_exchange_3 v_X5_31 (X_purseAt_x hl hT hbad) rfl (hT.ob) rfl rfl rfl (Nat.le_of_ble_eq_true rfl) ⟨(Nat.le_of_ble_eq_true rfl), (Nat.le_of_ble_eq_true rfl)⟩ ⟨(Nat.le_of_ble_eq_true rfl), (Nat.le_of_ble_eq_true rfl)⟩ rfl ⟨(Nat.le_of_ble_eq_true rfl), (Nat.le_of_ble_eq_true rfl)⟩ rfl

set_option maxRecDepth 100000 in
set_option maxHeartbeats 4000000 in
theorem X_exchange_1b {l : Launch} {G : tp_G} {x : Nat} {h0 h : tp_H} {u : Nat → Int32} {π ρ : Nat → Nat} {us : Nat → Nat → Int32} {σ : Nat → Nat} {st len : Int32} {tx rd : Nat → Int32} (hl : l.stackTraces = false) (hT0 : kx_S G x h0 u π ρ us σ st len tx rd h) {w f : Nat} {t a : Int32} (hw : w < 4) (hf : f < 4) (hbad : ¬ (0 ≤ t ∧ t ≤ 3)) : tp_Met l G mX5_exchange 1 6 [.ref x, .int (nI w), .int (nI f), .int t, .int a] h ((fun _ _ => False)) (kx_X "java/lang/IndexOutOfBoundsException" h) := by
  have hT := hT0.self
  have hB := hT.bk
  refine tp_start (L0 := [some (.ref x), some (.int (nI w)), some (.int (nI f)), some (.int t), some (.int a), none, none]) (by decide) rfl hl (Nat.le_of_ble_eq_true rfl) rfl ?_
  refine r_aload0 dX5_exchange_0 ?_
  refine r_iload1 dX5_exchange_1 ?_
  refine r_iload2 dX5_exchange_2 ?_
  refine r_pV dX5_exchange_3 v_X5_31 (X_purseAt hl hT hw hf) rfl (hT.ob) rfl rfl rfl (Nat.le_of_ble_eq_true rfl) ⟨(Nat.le_of_ble_eq_true rfl), (Nat.le_of_ble_eq_true rfl)⟩ ⟨(Nat.le_of_ble_eq_true rfl), (Nat.le_of_ble_eq_true rfl)⟩ ?_
  refine r_astore5 dX5_exchange_6 (Nat.le_of_ble_eq_true rfl) rfl ?_
  refine r_aload0 dX5_exchange_8 ?_
  refine r_iload1 dX5_exchange_9 ?_
  refine r_iload3 dX5_exchange_10 ?_
  exact r_xV dX5_exchange_11 v_X5_31 (X_purseAt_x hl hT (fun q => hbad q.2)) rfl (hT.ob) rfl rfl rfl (Nat.le_of_ble_eq_true rfl) ⟨(Nat.le_of_ble_eq_true rfl), (Nat.le_of_ble_eq_true rfl)⟩ ⟨(Nat.le_of_ble_eq_true rfl), (Nat.le_of_ble_eq_true rfl)⟩ rfl ⟨(Nat.le_of_ble_eq_true rfl), (Nat.le_of_ble_eq_true rfl)⟩ rfl

set_option maxRecDepth 100000 in
set_option maxHeartbeats 4000000 in
theorem X_exchange_2 {l : Launch} {G : tp_G} {x : Nat} {h0 h : tp_H} {u : Nat → Int32} {π ρ : Nat → Nat} {us : Nat → Nat → Int32} {σ : Nat → Nat} {st len : Int32} {tx rd : Nat → Int32} (hl : l.stackTraces = false) (hT0 : kx_S G x h0 u π ρ us σ st len tx rd h) {w f t : Nat} {a : Int32} (hw : w < 4) (hf : f < 4) (ht : t < 4) (hbad : ¬ (1 ≤ a ∧ a ≤ 99999)) : tp_Met l G mX5_exchange 1 6 [.ref x, .int (nI w), .int (nI f), .int (nI t), .int a] h ((fun _ _ => False)) (kx_X "java/lang/IllegalArgumentException" h) := by
  have hT := hT0.self
  have hB := hT.bk
  refine tp_start (L0 := [some (.ref x), some (.int (nI w)), some (.int (nI f)), some (.int (nI t)), some (.int a), none, none]) (by decide) rfl hl (Nat.le_of_ble_eq_true rfl) rfl ?_
  refine r_aload0 dX5_exchange_0 ?_
  refine r_iload1 dX5_exchange_1 ?_
  refine r_iload2 dX5_exchange_2 ?_
  refine r_pV dX5_exchange_3 v_X5_31 (X_purseAt hl hT hw hf) rfl (hT.ob) rfl rfl rfl (Nat.le_of_ble_eq_true rfl) ⟨(Nat.le_of_ble_eq_true rfl), (Nat.le_of_ble_eq_true rfl)⟩ ⟨(Nat.le_of_ble_eq_true rfl), (Nat.le_of_ble_eq_true rfl)⟩ ?_
  refine r_astore5 dX5_exchange_6 (Nat.le_of_ble_eq_true rfl) rfl ?_
  refine r_aload0 dX5_exchange_8 ?_
  refine r_iload1 dX5_exchange_9 ?_
  refine r_iload3 dX5_exchange_10 ?_
  refine r_pV dX5_exchange_11 v_X5_31 (X_purseAt hl hT hw ht) rfl (hT.ob) rfl rfl rfl (Nat.le_of_ble_eq_true rfl) ⟨(Nat.le_of_ble_eq_true rfl), (Nat.le_of_ble_eq_true rfl)⟩ ⟨(Nat.le_of_ble_eq_true rfl), (Nat.le_of_ble_eq_true rfl)⟩ ?_
  refine r_astore6 dX5_exchange_14 (Nat.le_of_ble_eq_true rfl) rfl ?_
  refine r_aload0 dX5_exchange_16 ?_
  refine r_iload4 dX5_exchange_17 ?_
  exact r_xV dX5_exchange_19 v_X5_35 (X_requireAmount_x hl hT hbad) rfl (hT.ob) rfl rfl rfl (Nat.le_of_ble_eq_true rfl) ⟨(Nat.le_of_ble_eq_true rfl), (Nat.le_of_ble_eq_true rfl)⟩ ⟨(Nat.le_of_ble_eq_true rfl), (Nat.le_of_ble_eq_true rfl)⟩ rfl ⟨(Nat.le_of_ble_eq_true rfl), (Nat.le_of_ble_eq_true rfl)⟩ rfl

set_option maxRecDepth 100000 in
set_option maxHeartbeats 4000000 in
theorem X_exchange_3 {l : Launch} {G : tp_G} {x : Nat} {h0 h : tp_H} {u : Nat → Int32} {π ρ : Nat → Nat} {us : Nat → Nat → Int32} {σ : Nat → Nat} {st len : Int32} {tx rd : Nat → Int32} (hl : l.stackTraces = false) (hT0 : kx_S G x h0 u π ρ us σ st len tx rd h) {N : Nat} (hu8 : u 8 = nI N) (hN : N ≤ 8) {w f t : Nat} {a : Int32} (hw : w < 4) (hf : f < 4) (ht : t < 4) (ha : 1 ≤ a ∧ a ≤ 99999) (hm : ¬ z_whyEx u w f t a = 0) : tp_Met l G mX5_exchange 1 6 [.ref x, .int (nI w), .int (nI f), .int (nI t), .int a] h ((fun _ _ => False)) (kx_X "java/lang/IllegalStateException" h) := by
  have hT := hT0.self
  have hB := hT.bk
  refine tp_start (L0 := [some (.ref x), some (.int (nI w)), some (.int (nI f)), some (.int (nI t)), some (.int a), none, none]) (by decide) rfl hl (Nat.le_of_ble_eq_true rfl) rfl ?_
  refine r_aload0 dX5_exchange_0 ?_
  refine r_iload1 dX5_exchange_1 ?_
  refine r_iload2 dX5_exchange_2 ?_
  refine r_pV dX5_exchange_3 v_X5_31 (X_purseAt hl hT hw hf) rfl (hT.ob) rfl rfl rfl (Nat.le_of_ble_eq_true rfl) ⟨(Nat.le_of_ble_eq_true rfl), (Nat.le_of_ble_eq_true rfl)⟩ ⟨(Nat.le_of_ble_eq_true rfl), (Nat.le_of_ble_eq_true rfl)⟩ ?_
  refine r_astore5 dX5_exchange_6 (Nat.le_of_ble_eq_true rfl) rfl ?_
  refine r_aload0 dX5_exchange_8 ?_
  refine r_iload1 dX5_exchange_9 ?_
  refine r_iload3 dX5_exchange_10 ?_
  refine r_pV dX5_exchange_11 v_X5_31 (X_purseAt hl hT hw ht) rfl (hT.ob) rfl rfl rfl (Nat.le_of_ble_eq_true rfl) ⟨(Nat.le_of_ble_eq_true rfl), (Nat.le_of_ble_eq_true rfl)⟩ ⟨(Nat.le_of_ble_eq_true rfl), (Nat.le_of_ble_eq_true rfl)⟩ ?_
  refine r_astore6 dX5_exchange_14 (Nat.le_of_ble_eq_true rfl) rfl ?_
  refine r_aload0 dX5_exchange_16 ?_
  refine r_iload4 dX5_exchange_17 ?_
  refine r_sV0 dX5_exchange_19 v_X5_35 (X_requireAmount hl hT ha) rfl (hT.ob) rfl rfl rfl (Nat.le_of_ble_eq_true rfl) ⟨(Nat.le_of_ble_eq_true rfl), (Nat.le_of_ble_eq_true rfl)⟩ ⟨(Nat.le_of_ble_eq_true rfl), (Nat.le_of_ble_eq_true rfl)⟩ (fun h1 hP => ?_)
  subst hP
  refine r_aload0 dX5_exchange_22 ?_
  refine r_getf dX5_exchange_23 f_X5_10 (hT.ob) rfl ?_
  refine r_aload5 dX5_exchange_26 ?_
  refine r_aload6 dX5_exchange_28 ?_
  refine r_iload4 dX5_exchange_30 ?_
  refine r_pV dX5_exchange_32 v_X5_94 (K_exchangeReason hl hB hw hf ht hu8 hN) rfl (hB.ob) rfl rfl rfl (Nat.le_of_ble_eq_true rfl) ⟨(Nat.le_of_ble_eq_true rfl), (Nat.le_of_ble_eq_true rfl)⟩ ⟨(Nat.le_of_ble_eq_true rfl), (Nat.le_of_ble_eq_true rfl)⟩ ?_
  refine r_if_eq (tgt := 48) dX5_exchange_35 (by decide) (fun c35 => ?_) (fun c35 => ?_)
  · exact absurd c35 hm
  · exact r_throwS (is := 98) (text := "the exchange is refused") xl_IllegalStateException rfl (by decide) rfl (Nat.le_of_ble_eq_true rfl) (Nat.le_of_ble_eq_true rfl) ⟨(Nat.le_of_ble_eq_true rfl), (Nat.le_of_ble_eq_true rfl)⟩ ⟨(Nat.le_of_ble_eq_true rfl), (Nat.le_of_ble_eq_true rfl)⟩ dX5_exchange_38 dX5_exchange_41 dX5_exchange_42 dX5_exchange_44 dX5_exchange_47 (fun n' hn => ⟨rfl, rfl⟩)

set_option maxRecDepth 100000 in
set_option maxHeartbeats 4000000 in
theorem X_hold {l : Launch} {G : tp_G} {x : Nat} {h0 h : tp_H} {u : Nat → Int32} {π ρ : Nat → Nat} {us : Nat → Nat → Int32} {σ : Nat → Nat} {st len : Int32} {tx rd : Nat → Int32} (hl : l.stackTraces = false) (hT0 : kx_S G x h0 u π ρ us σ st len tx rd h) {s N P : Nat} (hst : st = nI s) (hs6 : s ≤ 6) (hu8 : u 8 = nI N) (hN : N ≤ 8) (hu9 : u 9 = nI P) (hP9 : P ≤ 12) {w c : Nat} {a : Int32} (hw : w < 4) (hc : c < 4) (ha : 1 ≤ a ∧ a ≤ 99999) (hm : z_whyHold u w c a = 0) (hN8 : N < 8) : tp_Met l G mX5_hold 0 0 [.ref x, .int (nI w), .int (nI c), .int a] h (tp_PS (some (.int (u 8))) (fun h1 => ∃ σ1, kx_S G x h (k_hold u N w c a) π ρ (kx_us us s u N P) σ1 (nI (z_saveN s)) len tx rd h1)) tp_NX := by
  have hT := hT0.self
  have hB := hT.bk
  refine tp_start (L0 := [some (.ref x), some (.int (nI w)), some (.int (nI c)), some (.int a), none]) (by decide) rfl hl (Nat.le_of_ble_eq_true rfl) rfl ?_
  refine r_aload0 dX5_hold_0 ?_
  refine r_iload1 dX5_hold_1 ?_
  refine r_iload2 dX5_hold_2 ?_
  refine r_pV dX5_hold_3 v_X5_31 (X_purseAt hl hT hw hc) rfl (hT.ob) rfl rfl rfl (Nat.le_of_ble_eq_true rfl) ⟨(Nat.le_of_ble_eq_true rfl), (Nat.le_of_ble_eq_true rfl)⟩ ⟨(Nat.le_of_ble_eq_true rfl), (Nat.le_of_ble_eq_true rfl)⟩ ?_
  refine r_astore4 dX5_hold_6 (Nat.le_of_ble_eq_true rfl) rfl ?_
  refine r_aload0 dX5_hold_8 ?_
  refine r_iload3 dX5_hold_9 ?_
  refine r_sV0 dX5_hold_10 v_X5_35 (X_requireAmount hl hT ha) rfl (hT.ob) rfl rfl rfl (Nat.le_of_ble_eq_true rfl) ⟨(Nat.le_of_ble_eq_true rfl), (Nat.le_of_ble_eq_true rfl)⟩ ⟨(Nat.le_of_ble_eq_true rfl), (Nat.le_of_ble_eq_true rfl)⟩ (fun h1 hP => ?_)
  subst hP
  refine r_aload0 dX5_hold_13 ?_
  refine r_getf dX5_hold_14 f_X5_10 (hT.ob) rfl ?_
  refine r_aload4 dX5_hold_17 ?_
  refine r_iload3 dX5_hold_19 ?_
  refine r_pV dX5_hold_20 v_X5_103 (K_holdReason hl hB hw hc hu8 hN) rfl (hB.ob) rfl rfl rfl (Nat.le_of_ble_eq_true rfl) ⟨(Nat.le_of_ble_eq_true rfl), (Nat.le_of_ble_eq_true rfl)⟩ ⟨(Nat.le_of_ble_eq_true rfl), (Nat.le_of_ble_eq_true rfl)⟩ ?_
  refine r_if_eq (tgt := 36) dX5_hold_23 (by decide) (fun c23 => ?_) (fun c23 => ?_)
  · refine r_aload0 dX5_hold_36 ?_
    refine r_sV0 dX5_hold_37 v_X5_50 (X_saveState hl hT hst hs6 hu8 hN hu9 hP9) rfl (hT.ob) rfl rfl rfl (Nat.le_of_ble_eq_true rfl) ⟨(Nat.le_of_ble_eq_true rfl), (Nat.le_of_ble_eq_true rfl)⟩ ⟨(Nat.le_of_ble_eq_true rfl), (Nat.le_of_ble_eq_true rfl)⟩ (fun h1 hP => ?_)
    obtain ⟨σ1, hP⟩ := hP
    have hT := hT.trans hP
    have hB := hT.bk
    refine r_aload0 dX5_hold_40 ?_
    refine r_getf dX5_hold_41 f_X5_10 (hT.ob) rfl ?_
    refine r_aload4 dX5_hold_44 ?_
    refine r_iload3 dX5_hold_46 ?_
    refine r_sV1 dX5_hold_47 v_X5_109 (K_addHold hl hB hw hc hu8 hN8) rfl (hB.ob) rfl rfl rfl (Nat.le_of_ble_eq_true rfl) ⟨(Nat.le_of_ble_eq_true rfl), (Nat.le_of_ble_eq_true rfl)⟩ ⟨(Nat.le_of_ble_eq_true rfl), (Nat.le_of_ble_eq_true rfl)⟩ (fun h1 hP => ?_)
    have hT := hT.bkTo hP
    have hB := hP.self
    exact r_iret dX5_hold_50 rfl ⟨(Nat.le_of_ble_eq_true rfl), (Nat.le_of_ble_eq_true rfl)⟩ ⟨rfl, _, hT⟩
  · exact absurd hm c23

set_option maxRecDepth 100000 in
set_option maxHeartbeats 4000000 in
theorem X_hold_1 {l : Launch} {G : tp_G} {x : Nat} {h0 h : tp_H} {u : Nat → Int32} {π ρ : Nat → Nat} {us : Nat → Nat → Int32} {σ : Nat → Nat} {st len : Int32} {tx rd : Nat → Int32} (hl : l.stackTraces = false) (hT0 : kx_S G x h0 u π ρ us σ st len tx rd h) {w c a : Int32} (hbad : ¬ ((0 ≤ w ∧ w ≤ 3) ∧ (0 ≤ c ∧ c ≤ 3))) : tp_Met l G mX5_hold 1 6 [.ref x, .int w, .int c, .int a] h ((fun _ _ => False)) (kx_X "java/lang/IndexOutOfBoundsException" h) := by
  have hT := hT0.self
  have hB := hT.bk
  refine tp_start (L0 := [some (.ref x), some (.int w), some (.int c), some (.int a), none]) (by decide) rfl hl (Nat.le_of_ble_eq_true rfl) rfl ?_
  refine r_aload0 dX5_hold_0 ?_
  refine r_iload1 dX5_hold_1 ?_
  refine r_iload2 dX5_hold_2 ?_
  exact r_xV dX5_hold_3 v_X5_31 (X_purseAt_x hl hT hbad) rfl (hT.ob) rfl rfl rfl (Nat.le_of_ble_eq_true rfl) ⟨(Nat.le_of_ble_eq_true rfl), (Nat.le_of_ble_eq_true rfl)⟩ ⟨(Nat.le_of_ble_eq_true rfl), (Nat.le_of_ble_eq_true rfl)⟩ rfl ⟨(Nat.le_of_ble_eq_true rfl), (Nat.le_of_ble_eq_true rfl)⟩ rfl

set_option maxRecDepth 100000 in
set_option maxHeartbeats 4000000 in
theorem X_hold_2 {l : Launch} {G : tp_G} {x : Nat} {h0 h : tp_H} {u : Nat → Int32} {π ρ : Nat → Nat} {us : Nat → Nat → Int32} {σ : Nat → Nat} {st len : Int32} {tx rd : Nat → Int32} (hl : l.stackTraces = false) (hT0 : kx_S G x h0 u π ρ us σ st len tx rd h) {w c : Nat} {a : Int32} (hw : w < 4) (hc : c < 4) (hbad : ¬ (1 ≤ a ∧ a ≤ 99999)) : tp_Met l G mX5_hold 1 6 [.ref x, .int (nI w), .int (nI c), .int a] h ((fun _ _ => False)) (kx_X "java/lang/IllegalArgumentException" h) := by
  have hT := hT0.self
  have hB := hT.bk
  refine tp_start (L0 := [some (.ref x), some (.int (nI w)), some (.int (nI c)), some (.int a), none]) (by decide) rfl hl (Nat.le_of_ble_eq_true rfl) rfl ?_
  refine r_aload0 dX5_hold_0 ?_
  refine r_iload1 dX5_hold_1 ?_
  refine r_iload2 dX5_hold_2 ?_
  refine r_pV dX5_hold_3 v_X5_31 (X_purseAt hl hT hw hc) rfl (hT.ob) rfl rfl rfl (Nat.le_of_ble_eq_true rfl) ⟨(Nat.le_of_ble_eq_true rfl), (Nat.le_of_ble_eq_true rfl)⟩ ⟨(Nat.le_of_ble_eq_true rfl), (Nat.le_of_ble_eq_true rfl)⟩ ?_
  refine r_astore4 dX5_hold_6 (Nat.le_of_ble_eq_true rfl) rfl ?_
  refine r_aload0 dX5_hold_8 ?_
  refine r_iload3 dX5_hold_9 ?_
  exact r_xV dX5_hold_10 v_X5_35 (X_requireAmount_x hl hT hbad) rfl (hT.ob) rfl rfl rfl (Nat.le_of_ble_eq_true rfl) ⟨(Nat.le_of_ble_eq_true rfl), (Nat.le_of_ble_eq_true rfl)⟩ ⟨(Nat.le_of_ble_eq_true rfl), (Nat.le_of_ble_eq_true rfl)⟩ rfl ⟨(Nat.le_of_ble_eq_true rfl), (Nat.le_of_ble_eq_true rfl)⟩ rfl

set_option maxRecDepth 100000 in
set_option maxHeartbeats 4000000 in
theorem X_hold_3 {l : Launch} {G : tp_G} {x : Nat} {h0 h : tp_H} {u : Nat → Int32} {π ρ : Nat → Nat} {us : Nat → Nat → Int32} {σ : Nat → Nat} {st len : Int32} {tx rd : Nat → Int32} (hl : l.stackTraces = false) (hT0 : kx_S G x h0 u π ρ us σ st len tx rd h) {N : Nat} (hu8 : u 8 = nI N) (hN : N ≤ 8) {w c : Nat} {a : Int32} (hw : w < 4) (hc : c < 4) (ha : 1 ≤ a ∧ a ≤ 99999) (hm : ¬ z_whyHold u w c a = 0) : tp_Met l G mX5_hold 1 6 [.ref x, .int (nI w), .int (nI c), .int a] h ((fun _ _ => False)) (kx_X "java/lang/IllegalStateException" h) := by
  have hT := hT0.self
  have hB := hT.bk
  refine tp_start (L0 := [some (.ref x), some (.int (nI w)), some (.int (nI c)), some (.int a), none]) (by decide) rfl hl (Nat.le_of_ble_eq_true rfl) rfl ?_
  refine r_aload0 dX5_hold_0 ?_
  refine r_iload1 dX5_hold_1 ?_
  refine r_iload2 dX5_hold_2 ?_
  refine r_pV dX5_hold_3 v_X5_31 (X_purseAt hl hT hw hc) rfl (hT.ob) rfl rfl rfl (Nat.le_of_ble_eq_true rfl) ⟨(Nat.le_of_ble_eq_true rfl), (Nat.le_of_ble_eq_true rfl)⟩ ⟨(Nat.le_of_ble_eq_true rfl), (Nat.le_of_ble_eq_true rfl)⟩ ?_
  refine r_astore4 dX5_hold_6 (Nat.le_of_ble_eq_true rfl) rfl ?_
  refine r_aload0 dX5_hold_8 ?_
  refine r_iload3 dX5_hold_9 ?_
  refine r_sV0 dX5_hold_10 v_X5_35 (X_requireAmount hl hT ha) rfl (hT.ob) rfl rfl rfl (Nat.le_of_ble_eq_true rfl) ⟨(Nat.le_of_ble_eq_true rfl), (Nat.le_of_ble_eq_true rfl)⟩ ⟨(Nat.le_of_ble_eq_true rfl), (Nat.le_of_ble_eq_true rfl)⟩ (fun h1 hP => ?_)
  subst hP
  refine r_aload0 dX5_hold_13 ?_
  refine r_getf dX5_hold_14 f_X5_10 (hT.ob) rfl ?_
  refine r_aload4 dX5_hold_17 ?_
  refine r_iload3 dX5_hold_19 ?_
  refine r_pV dX5_hold_20 v_X5_103 (K_holdReason hl hB hw hc hu8 hN) rfl (hB.ob) rfl rfl rfl (Nat.le_of_ble_eq_true rfl) ⟨(Nat.le_of_ble_eq_true rfl), (Nat.le_of_ble_eq_true rfl)⟩ ⟨(Nat.le_of_ble_eq_true rfl), (Nat.le_of_ble_eq_true rfl)⟩ ?_
  refine r_if_eq (tgt := 36) dX5_hold_23 (by decide) (fun c23 => ?_) (fun c23 => ?_)
  · exact absurd c23 hm
  · exact r_throwS (is := 107) (text := "the hold is refused") xl_IllegalStateException rfl (by decide) rfl (Nat.le_of_ble_eq_true rfl) (Nat.le_of_ble_eq_true rfl) ⟨(Nat.le_of_ble_eq_true rfl), (Nat.le_of_ble_eq_true rfl)⟩ ⟨(Nat.le_of_ble_eq_true rfl), (Nat.le_of_ble_eq_true rfl)⟩ dX5_hold_26 dX5_hold_29 dX5_hold_30 dX5_hold_32 dX5_hold_35 (fun n' hn => ⟨rfl, rfl⟩)

theorem k_drop_n {u : Nat → Int32} {N j q : Nat} (h : q ≠ 8) (h2 : ¬ (96 ≤ q ∧ q < 136)) : k_drop u N j q = u q := by
  unfold k_drop
  rw [va_up_ne' _ _ h, k_perm_n h2]
set_option maxRecDepth 100000 in
set_option maxHeartbeats 4000000 in
theorem X_pay {l : Launch} {G : tp_G} {x : Nat} {h0 h : tp_H} {u : Nat → Int32} {π ρ : Nat → Nat} {us : Nat → Nat → Int32} {σ : Nat → Nat} {st len : Int32} {tx rd : Nat → Int32} (hl : l.stackTraces = false) (hT0 : kx_S G x h0 u π ρ us σ st len tx rd h) {s N P : Nat} (hst : st = nI s) (hs6 : s ≤ 6) (hu8 : u 8 = nI N) (hN : N ≤ 8) (hu9 : u 9 = nI P) (hP9 : P ≤ 12) {j w c : Nat} {a : Int32} (hj : j < N) (hw : w < 4) (hc : c < 4) (hw0 : u (96 + 5 * j) = nI w) (hc0 : u (96 + 5 * j + 1) = nI c) (ha : 1 ≤ a) (hm : a ≤ u (96 + 5 * j + 3)) (hP : P < 12) : tp_Met l G mX5_pay 0 0 [.ref x, .int (nI j), .int a] h (tp_PS (some (.int (nI P))) (fun h1 => ∃ σ1 π1 ρ1, kx_S G x h (k_pay (k_drop (va_up u (z_at w c) (u (z_at w c) - a)) N j) P w c a) π1 ρ1 (kx_us us s u N P) σ1 (nI (z_saveN s)) len tx rd h1)) tp_NX := by
  have hT := hT0.self
  have hB := hT.bk
  have hP9' : P < 12 := hP
  refine tp_start (L0 := [some (.ref x), some (.int (nI j)), some (.int a), none, none]) (by decide) rfl hl (Nat.le_of_ble_eq_true rfl) rfl ?_
  refine r_aload0 dX5_pay_0 ?_
  refine r_iload1 dX5_pay_1 ?_
  refine r_pV dX5_pay_2 v_X5_112 (X_holdAt hl hT hu8 hN hj) rfl (hT.ob) rfl rfl rfl (Nat.le_of_ble_eq_true rfl) ⟨(Nat.le_of_ble_eq_true rfl), (Nat.le_of_ble_eq_true rfl)⟩ ⟨(Nat.le_of_ble_eq_true rfl), (Nat.le_of_ble_eq_true rfl)⟩ ?_
  refine r_astore3 dX5_pay_5 (Nat.le_of_ble_eq_true rfl) rfl ?_
  refine r_iload2 dX5_pay_6 ?_
  refine r_iconst (v := 1) dX5_pay_7 (by decide) ?_
  refine r_icmp_ge (tgt := 21) dX5_pay_8 (by decide) (fun c8 => ?_) (fun c8 => ?_)
  · refine r_iload2 dX5_pay_21 ?_
    refine r_aload3 dX5_pay_22 ?_
    refine r_getf dX5_pay_23 f_X5_118 (hB.ho (j := j) (by omega)) rfl ?_
    refine r_icmp_gt (tgt := 41) dX5_pay_26 (by decide) (fun c26 => ?_) (fun c26 => ?_)
    · exact absurd hm (Int32.not_le.mpr c26)
    · refine r_aload0 dX5_pay_29 ?_
      refine r_getf dX5_pay_30 f_X5_10 (hT.ob) rfl ?_
      refine r_getf dX5_pay_33 f_X5_123 (hB.ob) rfl ?_
      refine r_bipush (v := 12) dX5_pay_36 (by decide) ?_
      refine r_icmp_lt (tgt := 51) dX5_pay_38 (by decide) (fun c38 => ?_) (fun c38 => ?_)
      · refine r_aload0 dX5_pay_51 ?_
        refine r_sV0 dX5_pay_52 v_X5_50 (X_saveState hl hT hst hs6 hu8 hN hu9 hP9) rfl (hT.ob) rfl rfl rfl (Nat.le_of_ble_eq_true rfl) ⟨(Nat.le_of_ble_eq_true rfl), (Nat.le_of_ble_eq_true rfl)⟩ ⟨(Nat.le_of_ble_eq_true rfl), (Nat.le_of_ble_eq_true rfl)⟩ (fun h1 hP => ?_)
        obtain ⟨σ1, hP⟩ := hP
        have hT := hT.trans hP
        have hB := hT.bk
        refine r_aload0 dX5_pay_55 ?_
        refine r_aload3 dX5_pay_56 ?_
        refine r_getf dX5_pay_57 f_X5_128 (hB.ho (j := j) (by omega)) rfl ?_
        refine r_aload3 dX5_pay_60 ?_
        refine r_getf dX5_pay_61 f_X5_131 (hB.ho (j := j) (by omega)) rfl ?_
        rw [hw0, hc0]
        refine r_pV dX5_pay_64 v_X5_31 (X_purseAt hl hT hw hc) rfl (hT.ob) rfl rfl rfl (Nat.le_of_ble_eq_true rfl) ⟨(Nat.le_of_ble_eq_true rfl), (Nat.le_of_ble_eq_true rfl)⟩ ⟨(Nat.le_of_ble_eq_true rfl), (Nat.le_of_ble_eq_true rfl)⟩ ?_
        refine r_astore4 dX5_pay_67 (Nat.le_of_ble_eq_true rfl) rfl ?_
        refine r_aload4 dX5_pay_69 ?_
        refine r_dup dX5_pay_71 rfl ?_
        refine r_getf dX5_pay_72 f_X5_57 (hB.pu hw hc) rfl ?_
        refine r_iload2 dX5_pay_75 ?_
        refine r_isub dX5_pay_76 ?_
        refine kb_put_balance dX5_pay_77 f_X5_57 hB hw hc (fun h1 hB => ?_)
        have hT := hT.bkTo hB
        have hB := hB.self
        refine r_aload0 dX5_pay_80 ?_
        refine r_getf dX5_pay_81 f_X5_10 (hT.ob) rfl ?_
        refine r_iload1 dX5_pay_84 ?_
        refine r_sV0 dX5_pay_85 v_X5_132 (K_dropHold hl hB ((va_up_ne' _ _ (by unfold z_at; omega)).trans hu8) hN hj) rfl (hB.ob) rfl rfl rfl (Nat.le_of_ble_eq_true rfl) ⟨(Nat.le_of_ble_eq_true rfl), (Nat.le_of_ble_eq_true rfl)⟩ ⟨(Nat.le_of_ble_eq_true rfl), (Nat.le_of_ble_eq_true rfl)⟩ (fun h1 hP => ?_)
        obtain ⟨π1, ρ1, hP2⟩ := hP
        have hT := hT.bkTo hP2
        have hB := hP2.self
        refine r_aload0 dX5_pay_88 ?_
        refine r_getf dX5_pay_89 f_X5_10 (hT.ob) rfl ?_
        refine r_aload4 dX5_pay_92 ?_
        refine r_iload2 dX5_pay_94 ?_
        refine r_sV1 dX5_pay_95 v_X5_135 (K_addPayment hl hB hw hc ((k_drop_n (by omega) (by omega)).trans ((va_up_ne' _ _ (by unfold z_at; omega)).trans hu9)) hP9') rfl (hB.ob) rfl rfl rfl (Nat.le_of_ble_eq_true rfl) ⟨(Nat.le_of_ble_eq_true rfl), (Nat.le_of_ble_eq_true rfl)⟩ ⟨(Nat.le_of_ble_eq_true rfl), (Nat.le_of_ble_eq_true rfl)⟩ (fun h1 hP => ?_)
        have hT := hT.bkTo hP
        have hB := hP.self
        exact r_iret dX5_pay_98 rfl ⟨(Nat.le_of_ble_eq_true rfl), (Nat.le_of_ble_eq_true rfl)⟩ ⟨by rw [k_drop_n (by omega) (by omega), va_up_ne' _ _ (by unfold z_at; omega), hu9], _, _, _, hT⟩
      · rw [hu9, show (12 : Int32) = nI 12 from rfl, tp_lt (by omega) (by omega)] at c38; omega
  · exact absurd ha c8

set_option maxRecDepth 100000 in
set_option maxHeartbeats 4000000 in
theorem X_pay_1 {l : Launch} {G : tp_G} {x : Nat} {h0 h : tp_H} {u : Nat → Int32} {π ρ : Nat → Nat} {us : Nat → Nat → Int32} {σ : Nat → Nat} {st len : Int32} {tx rd : Nat → Int32} (hl : l.stackTraces = false) (hT0 : kx_S G x h0 u π ρ us σ st len tx rd h) {v a : Int32} {N : Nat} (hu8 : u 8 = nI N) (hN : N ≤ 8) (hbad : ¬ (0 ≤ v ∧ v ≤ u 8 - 1)) : tp_Met l G mX5_pay 1 6 [.ref x, .int v, .int a] h ((fun _ _ => False)) (kx_X "java/lang/IndexOutOfBoundsException" h) := by
  have hT := hT0.self
  have hB := hT.bk
  refine tp_start (L0 := [some (.ref x), some (.int v), some (.int a), none, none]) (by decide) rfl hl (Nat.le_of_ble_eq_true rfl) rfl ?_
  refine r_aload0 dX5_pay_0 ?_
  refine r_iload1 dX5_pay_1 ?_
  exact r_xV dX5_pay_2 v_X5_112 (X_holdAt_x hl hT hu8 hN hbad) rfl (hT.ob) rfl rfl rfl (Nat.le_of_ble_eq_true rfl) ⟨(Nat.le_of_ble_eq_true rfl), (Nat.le_of_ble_eq_true rfl)⟩ ⟨(Nat.le_of_ble_eq_true rfl), (Nat.le_of_ble_eq_true rfl)⟩ rfl ⟨(Nat.le_of_ble_eq_true rfl), (Nat.le_of_ble_eq_true rfl)⟩ rfl

set_option maxRecDepth 100000 in
set_option maxHeartbeats 4000000 in
theorem X_pay_2 {l : Launch} {G : tp_G} {x : Nat} {h0 h : tp_H} {u : Nat → Int32} {π ρ : Nat → Nat} {us : Nat → Nat → Int32} {σ : Nat → Nat} {st len : Int32} {tx rd : Nat → Int32} (hl : l.stackTraces = false) (hT0 : kx_S G x h0 u π ρ us σ st len tx rd h) {N j : Nat} {a : Int32} (hu8 : u 8 = nI N) (hN : N ≤ 8) (hj : j < N) (hbad : ¬ 1 ≤ a) : tp_Met l G mX5_pay 1 6 [.ref x, .int (nI j), .int a] h ((fun _ _ => False)) (kx_X "java/lang/IllegalArgumentException" h) := by
  have hT := hT0.self
  have hB := hT.bk
  refine tp_start (L0 := [some (.ref x), some (.int (nI j)), some (.int a), none, none]) (by decide) rfl hl (Nat.le_of_ble_eq_true rfl) rfl ?_
  refine r_aload0 dX5_pay_0 ?_
  refine r_iload1 dX5_pay_1 ?_
  refine r_pV dX5_pay_2 v_X5_112 (X_holdAt hl hT hu8 hN hj) rfl (hT.ob) rfl rfl rfl (Nat.le_of_ble_eq_true rfl) ⟨(Nat.le_of_ble_eq_true rfl), (Nat.le_of_ble_eq_true rfl)⟩ ⟨(Nat.le_of_ble_eq_true rfl), (Nat.le_of_ble_eq_true rfl)⟩ ?_
  refine r_astore3 dX5_pay_5 (Nat.le_of_ble_eq_true rfl) rfl ?_
  refine r_iload2 dX5_pay_6 ?_
  refine r_iconst (v := 1) dX5_pay_7 (by decide) ?_
  refine r_icmp_ge (tgt := 21) dX5_pay_8 (by decide) (fun c8 => ?_) (fun c8 => ?_)
  · exact absurd c8 hbad
  · exact r_throwS (is := 116) (text := "amount below 1") xl_IllegalArgumentException rfl (by decide) rfl (Nat.le_of_ble_eq_true rfl) (Nat.le_of_ble_eq_true rfl) ⟨(Nat.le_of_ble_eq_true rfl), (Nat.le_of_ble_eq_true rfl)⟩ ⟨(Nat.le_of_ble_eq_true rfl), (Nat.le_of_ble_eq_true rfl)⟩ dX5_pay_11 dX5_pay_14 dX5_pay_15 dX5_pay_17 dX5_pay_20 (fun n' hn => ⟨rfl, rfl⟩)

set_option maxRecDepth 100000 in
set_option maxHeartbeats 4000000 in
theorem X_pay_3 {l : Launch} {G : tp_G} {x : Nat} {h0 h : tp_H} {u : Nat → Int32} {π ρ : Nat → Nat} {us : Nat → Nat → Int32} {σ : Nat → Nat} {st len : Int32} {tx rd : Nat → Int32} (hl : l.stackTraces = false) (hT0 : kx_S G x h0 u π ρ us σ st len tx rd h) {N P j : Nat} {a : Int32} (hu8 : u 8 = nI N) (hN : N ≤ 8) (hu9 : u 9 = nI P) (hP9 : P ≤ 12) (hj : j < N) (ha : 1 ≤ a) (hm : ¬ (a ≤ u (96 + 5 * j + 3) ∧ P < 12)) : tp_Met l G mX5_pay 1 6 [.ref x, .int (nI j), .int a] h ((fun _ _ => False)) (kx_X "java/lang/IllegalStateException" h) := by
  have hT := hT0.self
  have hB := hT.bk
  refine tp_start (L0 := [some (.ref x), some (.int (nI j)), some (.int a), none, none]) (by decide) rfl hl (Nat.le_of_ble_eq_true rfl) rfl ?_
  refine r_aload0 dX5_pay_0 ?_
  refine r_iload1 dX5_pay_1 ?_
  refine r_pV dX5_pay_2 v_X5_112 (X_holdAt hl hT hu8 hN hj) rfl (hT.ob) rfl rfl rfl (Nat.le_of_ble_eq_true rfl) ⟨(Nat.le_of_ble_eq_true rfl), (Nat.le_of_ble_eq_true rfl)⟩ ⟨(Nat.le_of_ble_eq_true rfl), (Nat.le_of_ble_eq_true rfl)⟩ ?_
  refine r_astore3 dX5_pay_5 (Nat.le_of_ble_eq_true rfl) rfl ?_
  refine r_iload2 dX5_pay_6 ?_
  refine r_iconst (v := 1) dX5_pay_7 (by decide) ?_
  refine r_icmp_ge (tgt := 21) dX5_pay_8 (by decide) (fun c8 => ?_) (fun c8 => ?_)
  · refine r_iload2 dX5_pay_21 ?_
    refine r_aload3 dX5_pay_22 ?_
    refine r_getf dX5_pay_23 f_X5_118 (hB.ho (j := j) (by omega)) rfl ?_
    refine r_icmp_gt (tgt := 41) dX5_pay_26 (by decide) (fun c26 => ?_) (fun c26 => ?_)
    · exact r_throwS (is := 126) (text := "the payment is refused") xl_IllegalStateException rfl (by decide) rfl (Nat.le_of_ble_eq_true rfl) (Nat.le_of_ble_eq_true rfl) ⟨(Nat.le_of_ble_eq_true rfl), (Nat.le_of_ble_eq_true rfl)⟩ ⟨(Nat.le_of_ble_eq_true rfl), (Nat.le_of_ble_eq_true rfl)⟩ dX5_pay_41 dX5_pay_44 dX5_pay_45 dX5_pay_47 dX5_pay_50 (fun n' hn => ⟨rfl, rfl⟩)
    · refine r_aload0 dX5_pay_29 ?_
      refine r_getf dX5_pay_30 f_X5_10 (hT.ob) rfl ?_
      refine r_getf dX5_pay_33 f_X5_123 (hB.ob) rfl ?_
      refine r_bipush (v := 12) dX5_pay_36 (by decide) ?_
      refine r_icmp_lt (tgt := 51) dX5_pay_38 (by decide) (fun c38 => ?_) (fun c38 => ?_)
      · rw [hu9, show (12 : Int32) = nI 12 from rfl, tp_lt (by omega) (by omega)] at c38
        exact absurd ⟨Int32.not_lt.mp c26, c38⟩ hm
      · exact r_throwS (is := 126) (text := "the payment is refused") xl_IllegalStateException rfl (by decide) rfl (Nat.le_of_ble_eq_true rfl) (Nat.le_of_ble_eq_true rfl) ⟨(Nat.le_of_ble_eq_true rfl), (Nat.le_of_ble_eq_true rfl)⟩ ⟨(Nat.le_of_ble_eq_true rfl), (Nat.le_of_ble_eq_true rfl)⟩ dX5_pay_41 dX5_pay_44 dX5_pay_45 dX5_pay_47 dX5_pay_50 (fun n' hn => ⟨rfl, rfl⟩)
  · exact absurd ha c8

set_option maxRecDepth 100000 in
set_option maxHeartbeats 4000000 in
theorem X_letGo {l : Launch} {G : tp_G} {x : Nat} {h0 h : tp_H} {u : Nat → Int32} {π ρ : Nat → Nat} {us : Nat → Nat → Int32} {σ : Nat → Nat} {st len : Int32} {tx rd : Nat → Int32} (hl : l.stackTraces = false) (hT0 : kx_S G x h0 u π ρ us σ st len tx rd h) {s N P : Nat} (hst : st = nI s) (hs6 : s ≤ 6) (hu8 : u 8 = nI N) (hN : N ≤ 8) (hu9 : u 9 = nI P) (hP9 : P ≤ 12) {j : Nat} (hj : j < N) : tp_Met l G mX5_letGo 0 0 [.ref x, .int (nI j)] h (tp_PS (some (.int (u (96 + 5 * j + 3)))) (fun h1 => ∃ σ1 π1 ρ1, kx_S G x h (k_drop u N j) π1 ρ1 (kx_us us s u N P) σ1 (nI (z_saveN s)) len tx rd h1)) tp_NX := by
  have hT := hT0.self
  have hB := hT.bk
  refine tp_start (L0 := [some (.ref x), some (.int (nI j)), none]) (by decide) rfl hl (Nat.le_of_ble_eq_true rfl) rfl ?_
  refine r_aload0 dX5_letGo_0 ?_
  refine r_iload1 dX5_letGo_1 ?_
  refine r_pV dX5_letGo_2 v_X5_112 (X_holdAt hl hT hu8 hN hj) rfl (hT.ob) rfl rfl rfl (Nat.le_of_ble_eq_true rfl) ⟨(Nat.le_of_ble_eq_true rfl), (Nat.le_of_ble_eq_true rfl)⟩ ⟨(Nat.le_of_ble_eq_true rfl), (Nat.le_of_ble_eq_true rfl)⟩ ?_
  refine r_getf dX5_letGo_5 f_X5_118 (hB.ho (j := j) (by omega)) rfl ?_
  refine r_istore2 dX5_letGo_8 (Nat.le_of_ble_eq_true rfl) rfl ?_
  refine r_aload0 dX5_letGo_9 ?_
  refine r_sV0 dX5_letGo_10 v_X5_50 (X_saveState hl hT hst hs6 hu8 hN hu9 hP9) rfl (hT.ob) rfl rfl rfl (Nat.le_of_ble_eq_true rfl) ⟨(Nat.le_of_ble_eq_true rfl), (Nat.le_of_ble_eq_true rfl)⟩ ⟨(Nat.le_of_ble_eq_true rfl), (Nat.le_of_ble_eq_true rfl)⟩ (fun h1 hP => ?_)
  obtain ⟨σ1, hP⟩ := hP
  have hT := hT.trans hP
  have hB := hT.bk
  refine r_aload0 dX5_letGo_13 ?_
  refine r_getf dX5_letGo_14 f_X5_10 (hT.ob) rfl ?_
  refine r_iload1 dX5_letGo_17 ?_
  refine r_sV0 dX5_letGo_18 v_X5_132 (K_dropHold hl hB hu8 hN hj) rfl (hB.ob) rfl rfl rfl (Nat.le_of_ble_eq_true rfl) ⟨(Nat.le_of_ble_eq_true rfl), (Nat.le_of_ble_eq_true rfl)⟩ ⟨(Nat.le_of_ble_eq_true rfl), (Nat.le_of_ble_eq_true rfl)⟩ (fun h1 hP => ?_)
  obtain ⟨π1, ρ1, hP⟩ := hP
  have hT := hT.bkTo hP
  refine r_iload2 dX5_letGo_21 ?_
  exact r_iret dX5_letGo_22 rfl ⟨(Nat.le_of_ble_eq_true rfl), (Nat.le_of_ble_eq_true rfl)⟩ ⟨rfl, _, _, _, hT⟩

set_option maxRecDepth 100000 in
set_option maxHeartbeats 4000000 in
theorem X_letGo_1 {l : Launch} {G : tp_G} {x : Nat} {h0 h : tp_H} {u : Nat → Int32} {π ρ : Nat → Nat} {us : Nat → Nat → Int32} {σ : Nat → Nat} {st len : Int32} {tx rd : Nat → Int32} (hl : l.stackTraces = false) (hT0 : kx_S G x h0 u π ρ us σ st len tx rd h) {v : Int32} {N : Nat} (hu8 : u 8 = nI N) (hN : N ≤ 8) (hbad : ¬ (0 ≤ v ∧ v ≤ u 8 - 1)) : tp_Met l G mX5_letGo 1 6 [.ref x, .int v] h ((fun _ _ => False)) (kx_X "java/lang/IndexOutOfBoundsException" h) := by
  have hT := hT0.self
  have hB := hT.bk
  refine tp_start (L0 := [some (.ref x), some (.int v), none]) (by decide) rfl hl (Nat.le_of_ble_eq_true rfl) rfl ?_
  refine r_aload0 dX5_letGo_0 ?_
  refine r_iload1 dX5_letGo_1 ?_
  exact r_xV dX5_letGo_2 v_X5_112 (X_holdAt_x hl hT hu8 hN hbad) rfl (hT.ob) rfl rfl rfl (Nat.le_of_ble_eq_true rfl) ⟨(Nat.le_of_ble_eq_true rfl), (Nat.le_of_ble_eq_true rfl)⟩ ⟨(Nat.le_of_ble_eq_true rfl), (Nat.le_of_ble_eq_true rfl)⟩ rfl ⟨(Nat.le_of_ble_eq_true rfl), (Nat.le_of_ble_eq_true rfl)⟩ rfl

