set_option maxRecDepth 100000 in
set_option maxHeartbeats 4000000 in
theorem X_carr_l1 {l : Launch} {G : tp_G} {x : Nat} {h0 h : tp_H} {u : Nat → Int32} {π ρ : Nat → Nat} {us : Nat → Nat → Int32} {σ : Nat → Nat} {st len : Int32} {tx rd : Nat → Int32} (hl : l.stackTraces = false) (hT0 : kx_S G x h0 u π ρ us σ st len tx rd h) {w f t : Nat} {a : Int32} (hw : w < 4) (hf : f < 4) (ht : t < 4) (h0r : rd 0 = 108) (h1r : rd 1 = nI w) (h2r : rd 2 = nI f) (h3r : rd 3 = nI t) (h4r : rd 4 = a) (f0 : f = 0) (hm : u (z_at w f) ≤ 1000000 - a) : tp_Met l G mX5_carriesOutOrder 0 0 [.ref x] h (tp_PS (some (.int 1)) (fun h1 => kx_S G x h (k_load u w a) π ρ us σ st len tx rd h1)) tp_NX := by
  have hT := hT0.self
  have hB := hT.bk
  refine tp_start (L0 := [some (.ref x), none, none, none]) (by decide) rfl hl (Nat.le_of_ble_eq_true rfl) rfl ?_
  refine r_aload0 dX5_carriesOutOrder_0 ?_
  refine r_aload0 dX5_carriesOutOrder_1 ?_
  refine r_getf dX5_carriesOutOrder_2 f_X5_27 (hT.ob) rfl ?_
  refine r_getf dX5_carriesOutOrder_5 f_X5_347 (hT.re) rfl ?_
  refine r_aload0 dX5_carriesOutOrder_8 ?_
  refine r_getf dX5_carriesOutOrder_9 f_X5_27 (hT.ob) rfl ?_
  refine r_getf dX5_carriesOutOrder_12 f_X5_348 (hT.re) rfl ?_
  rw [h1r, h2r]
  refine r_pV dX5_carriesOutOrder_15 v_X5_31 (X_purseAt hl hT hw hf) rfl (hT.ob) rfl rfl rfl (Nat.le_of_ble_eq_true rfl) ⟨(Nat.le_of_ble_eq_true rfl), (Nat.le_of_ble_eq_true rfl)⟩ ⟨(Nat.le_of_ble_eq_true rfl), (Nat.le_of_ble_eq_true rfl)⟩ ?_
  refine r_astore1 dX5_carriesOutOrder_18 (Nat.le_of_ble_eq_true rfl) rfl ?_
  refine r_aload0 dX5_carriesOutOrder_19 ?_
  refine r_getf dX5_carriesOutOrder_20 f_X5_27 (hT.ob) rfl ?_
  refine r_getf dX5_carriesOutOrder_23 f_X5_351 (hT.re) rfl ?_
  rw [h4r]
  refine r_istore2 dX5_carriesOutOrder_26 (Nat.le_of_ble_eq_true rfl) rfl ?_
  refine r_aload0 dX5_carriesOutOrder_27 ?_
  refine r_getf dX5_carriesOutOrder_28 f_X5_27 (hT.ob) rfl ?_
  refine r_getf dX5_carriesOutOrder_31 f_X5_352 (hT.re) rfl ?_
  rw [h0r]
  refine r_lookup (off := 26) (tgt := 60) dX5_carriesOutOrder_34 (by decide) (by decide) (by decide) ?_
  refine r_aload0 dX5_carriesOutOrder_60 ?_
  refine r_getf dX5_carriesOutOrder_61 f_X5_10 (hT.ob) rfl ?_
  refine r_aload1 dX5_carriesOutOrder_64 ?_
  refine r_iload2 dX5_carriesOutOrder_65 ?_
  refine r_pV dX5_carriesOutOrder_66 v_X5_39 (K_mayLoad hl hB hw hf) rfl (hB.ob) rfl rfl rfl (Nat.le_of_ble_eq_true rfl) ⟨(Nat.le_of_ble_eq_true rfl), (Nat.le_of_ble_eq_true rfl)⟩ ⟨(Nat.le_of_ble_eq_true rfl), (Nat.le_of_ble_eq_true rfl)⟩ ?_
  refine r_if_ne (tgt := 74) dX5_carriesOutOrder_69 (by decide) (fun c69 => ?_) (fun c69 => ?_)
  · refine r_aload0 dX5_carriesOutOrder_74 ?_
    refine r_getf dX5_carriesOutOrder_75 f_X5_10 (hT.ob) rfl ?_
    refine r_aload1 dX5_carriesOutOrder_78 ?_
    refine r_iload2 dX5_carriesOutOrder_79 ?_
    subst f0
    refine r_sV0 dX5_carriesOutOrder_80 v_X5_53 (K_addLoad hl hB hw) rfl (hB.ob) rfl rfl rfl (Nat.le_of_ble_eq_true rfl) ⟨(Nat.le_of_ble_eq_true rfl), (Nat.le_of_ble_eq_true rfl)⟩ ⟨(Nat.le_of_ble_eq_true rfl), (Nat.le_of_ble_eq_true rfl)⟩ (fun h1 hP => ?_)
    have hT := hT.bkTo hP
    have hB := hP.self
    refine r_iconst (v := 1) dX5_carriesOutOrder_83 (by decide) ?_
    exact r_zret dX5_carriesOutOrder_84 rfl ⟨(Nat.le_of_ble_eq_true rfl), (Nat.le_of_ble_eq_true rfl)⟩ (by first | rfl | decide) ⟨rfl, hT⟩
  · first | exact absurd hm (tp_b_0.mp c69) | exact absurd hm (tp_b_0.mp (Classical.not_not.mp c69)) | exact absurd (tp_b_n c69) hm

set_option maxRecDepth 100000 in
set_option maxHeartbeats 4000000 in
theorem X_carr_l0 {l : Launch} {G : tp_G} {x : Nat} {h0 h : tp_H} {u : Nat → Int32} {π ρ : Nat → Nat} {us : Nat → Nat → Int32} {σ : Nat → Nat} {st len : Int32} {tx rd : Nat → Int32} (hl : l.stackTraces = false) (hT0 : kx_S G x h0 u π ρ us σ st len tx rd h) {w f t : Nat} {a : Int32} (hw : w < 4) (hf : f < 4) (ht : t < 4) (h0r : rd 0 = 108) (h1r : rd 1 = nI w) (h2r : rd 2 = nI f) (h3r : rd 3 = nI t) (h4r : rd 4 = a) (hm : ¬ u (z_at w f) ≤ 1000000 - a) : tp_Met l G mX5_carriesOutOrder 0 0 [.ref x] h (tp_PS (some (.int 0)) (fun h1 => kx_S G x h u π ρ us σ st len tx rd h1)) tp_NX := by
  have hT := hT0.self
  have hB := hT.bk
  refine tp_start (L0 := [some (.ref x), none, none, none]) (by decide) rfl hl (Nat.le_of_ble_eq_true rfl) rfl ?_
  refine r_aload0 dX5_carriesOutOrder_0 ?_
  refine r_aload0 dX5_carriesOutOrder_1 ?_
  refine r_getf dX5_carriesOutOrder_2 f_X5_27 (hT.ob) rfl ?_
  refine r_getf dX5_carriesOutOrder_5 f_X5_347 (hT.re) rfl ?_
  refine r_aload0 dX5_carriesOutOrder_8 ?_
  refine r_getf dX5_carriesOutOrder_9 f_X5_27 (hT.ob) rfl ?_
  refine r_getf dX5_carriesOutOrder_12 f_X5_348 (hT.re) rfl ?_
  rw [h1r, h2r]
  refine r_pV dX5_carriesOutOrder_15 v_X5_31 (X_purseAt hl hT hw hf) rfl (hT.ob) rfl rfl rfl (Nat.le_of_ble_eq_true rfl) ⟨(Nat.le_of_ble_eq_true rfl), (Nat.le_of_ble_eq_true rfl)⟩ ⟨(Nat.le_of_ble_eq_true rfl), (Nat.le_of_ble_eq_true rfl)⟩ ?_
  refine r_astore1 dX5_carriesOutOrder_18 (Nat.le_of_ble_eq_true rfl) rfl ?_
  refine r_aload0 dX5_carriesOutOrder_19 ?_
  refine r_getf dX5_carriesOutOrder_20 f_X5_27 (hT.ob) rfl ?_
  refine r_getf dX5_carriesOutOrder_23 f_X5_351 (hT.re) rfl ?_
  rw [h4r]
  refine r_istore2 dX5_carriesOutOrder_26 (Nat.le_of_ble_eq_true rfl) rfl ?_
  refine r_aload0 dX5_carriesOutOrder_27 ?_
  refine r_getf dX5_carriesOutOrder_28 f_X5_27 (hT.ob) rfl ?_
  refine r_getf dX5_carriesOutOrder_31 f_X5_352 (hT.re) rfl ?_
  rw [h0r]
  refine r_lookup (off := 26) (tgt := 60) dX5_carriesOutOrder_34 (by decide) (by decide) (by decide) ?_
  refine r_aload0 dX5_carriesOutOrder_60 ?_
  refine r_getf dX5_carriesOutOrder_61 f_X5_10 (hT.ob) rfl ?_
  refine r_aload1 dX5_carriesOutOrder_64 ?_
  refine r_iload2 dX5_carriesOutOrder_65 ?_
  refine r_pV dX5_carriesOutOrder_66 v_X5_39 (K_mayLoad hl hB hw hf) rfl (hB.ob) rfl rfl rfl (Nat.le_of_ble_eq_true rfl) ⟨(Nat.le_of_ble_eq_true rfl), (Nat.le_of_ble_eq_true rfl)⟩ ⟨(Nat.le_of_ble_eq_true rfl), (Nat.le_of_ble_eq_true rfl)⟩ ?_
  refine r_if_ne (tgt := 74) dX5_carriesOutOrder_69 (by decide) (fun c69 => ?_) (fun c69 => ?_)
  · first | exact absurd hm (tp_b_0.mp c69) | exact absurd hm (tp_b_0.mp (Classical.not_not.mp c69)) | exact absurd (tp_b_n c69) hm
  · refine r_iconst (v := 0) dX5_carriesOutOrder_72 (by decide) ?_
    exact r_zret dX5_carriesOutOrder_73 rfl ⟨(Nat.le_of_ble_eq_true rfl), (Nat.le_of_ble_eq_true rfl)⟩ (by first | rfl | decide) ⟨rfl, hT⟩

set_option maxRecDepth 100000 in
set_option maxHeartbeats 4000000 in
theorem X_carr_x1 {l : Launch} {G : tp_G} {x : Nat} {h0 h : tp_H} {u : Nat → Int32} {π ρ : Nat → Nat} {us : Nat → Nat → Int32} {σ : Nat → Nat} {st len : Int32} {tx rd : Nat → Int32} (hl : l.stackTraces = false) (hT0 : kx_S G x h0 u π ρ us σ st len tx rd h) {w f t : Nat} {a : Int32} (hw : w < 4) (hf : f < 4) (ht : t < 4) (h0r : rd 0 = 120) (h1r : rd 1 = nI w) (h2r : rd 2 = nI f) (h3r : rd 3 = nI t) (h4r : rd 4 = a) {N : Nat} (hu8 : u 8 = nI N) (hN : N ≤ 8) (hm : z_whyEx u w f t a = 0) : tp_Met l G mX5_carriesOutOrder 0 0 [.ref x] h (tp_PS (some (.int 1)) (fun h1 => kx_S G x h (k_conv u w f t a) π ρ us σ st len tx rd h1)) tp_NX := by
  have hT := hT0.self
  have hB := hT.bk
  refine tp_start (L0 := [some (.ref x), none, none, none]) (by decide) rfl hl (Nat.le_of_ble_eq_true rfl) rfl ?_
  refine r_aload0 dX5_carriesOutOrder_0 ?_
  refine r_aload0 dX5_carriesOutOrder_1 ?_
  refine r_getf dX5_carriesOutOrder_2 f_X5_27 (hT.ob) rfl ?_
  refine r_getf dX5_carriesOutOrder_5 f_X5_347 (hT.re) rfl ?_
  refine r_aload0 dX5_carriesOutOrder_8 ?_
  refine r_getf dX5_carriesOutOrder_9 f_X5_27 (hT.ob) rfl ?_
  refine r_getf dX5_carriesOutOrder_12 f_X5_348 (hT.re) rfl ?_
  rw [h1r, h2r]
  refine r_pV dX5_carriesOutOrder_15 v_X5_31 (X_purseAt hl hT hw hf) rfl (hT.ob) rfl rfl rfl (Nat.le_of_ble_eq_true rfl) ⟨(Nat.le_of_ble_eq_true rfl), (Nat.le_of_ble_eq_true rfl)⟩ ⟨(Nat.le_of_ble_eq_true rfl), (Nat.le_of_ble_eq_true rfl)⟩ ?_
  refine r_astore1 dX5_carriesOutOrder_18 (Nat.le_of_ble_eq_true rfl) rfl ?_
  refine r_aload0 dX5_carriesOutOrder_19 ?_
  refine r_getf dX5_carriesOutOrder_20 f_X5_27 (hT.ob) rfl ?_
  refine r_getf dX5_carriesOutOrder_23 f_X5_351 (hT.re) rfl ?_
  rw [h4r]
  refine r_istore2 dX5_carriesOutOrder_26 (Nat.le_of_ble_eq_true rfl) rfl ?_
  refine r_aload0 dX5_carriesOutOrder_27 ?_
  refine r_getf dX5_carriesOutOrder_28 f_X5_27 (hT.ob) rfl ?_
  refine r_getf dX5_carriesOutOrder_31 f_X5_352 (hT.re) rfl ?_
  rw [h0r]
  refine r_lookup (off := 51) (tgt := 85) dX5_carriesOutOrder_34 (by decide) (by decide) (by decide) ?_
  refine r_aload0 dX5_carriesOutOrder_85 ?_
  refine r_aload0 dX5_carriesOutOrder_86 ?_
  refine r_getf dX5_carriesOutOrder_87 f_X5_27 (hT.ob) rfl ?_
  refine r_getf dX5_carriesOutOrder_90 f_X5_347 (hT.re) rfl ?_
  refine r_aload0 dX5_carriesOutOrder_93 ?_
  refine r_getf dX5_carriesOutOrder_94 f_X5_27 (hT.ob) rfl ?_
  refine r_getf dX5_carriesOutOrder_97 f_X5_355 (hT.re) rfl ?_
  rw [h1r, h3r]
  refine r_pV dX5_carriesOutOrder_100 v_X5_31 (X_purseAt hl hT hw ht) rfl (hT.ob) rfl rfl rfl (Nat.le_of_ble_eq_true rfl) ⟨(Nat.le_of_ble_eq_true rfl), (Nat.le_of_ble_eq_true rfl)⟩ ⟨(Nat.le_of_ble_eq_true rfl), (Nat.le_of_ble_eq_true rfl)⟩ ?_
  refine r_astore3 dX5_carriesOutOrder_103 (Nat.le_of_ble_eq_true rfl) rfl ?_
  refine r_aload0 dX5_carriesOutOrder_104 ?_
  refine r_getf dX5_carriesOutOrder_105 f_X5_10 (hT.ob) rfl ?_
  refine r_aload1 dX5_carriesOutOrder_108 ?_
  refine r_aload3 dX5_carriesOutOrder_109 ?_
  refine r_iload2 dX5_carriesOutOrder_110 ?_
  refine r_pV dX5_carriesOutOrder_111 v_X5_94 (K_exchangeReason hl hB hw hf ht hu8 hN) rfl (hB.ob) rfl rfl rfl (Nat.le_of_ble_eq_true rfl) ⟨(Nat.le_of_ble_eq_true rfl), (Nat.le_of_ble_eq_true rfl)⟩ ⟨(Nat.le_of_ble_eq_true rfl), (Nat.le_of_ble_eq_true rfl)⟩ ?_
  refine r_if_eq (tgt := 119) dX5_carriesOutOrder_114 (by decide) (fun c114 => ?_) (fun c114 => ?_)
  · refine r_aload0 dX5_carriesOutOrder_119 ?_
    refine r_getf dX5_carriesOutOrder_120 f_X5_10 (hT.ob) rfl ?_
    refine r_aload1 dX5_carriesOutOrder_123 ?_
    refine r_aload3 dX5_carriesOutOrder_124 ?_
    refine r_iload2 dX5_carriesOutOrder_125 ?_
    refine r_sV1 dX5_carriesOutOrder_126 v_X5_100 (K_convert hl hB hw hf ht) rfl (hB.ob) rfl rfl rfl (Nat.le_of_ble_eq_true rfl) ⟨(Nat.le_of_ble_eq_true rfl), (Nat.le_of_ble_eq_true rfl)⟩ ⟨(Nat.le_of_ble_eq_true rfl), (Nat.le_of_ble_eq_true rfl)⟩ (fun h1 hP => ?_)
    have hT := hT.bkTo hP
    have hB := hP.self
    refine r_pop dX5_carriesOutOrder_129 rfl ?_
    refine r_iconst (v := 1) dX5_carriesOutOrder_130 (by decide) ?_
    exact r_zret dX5_carriesOutOrder_131 rfl ⟨(Nat.le_of_ble_eq_true rfl), (Nat.le_of_ble_eq_true rfl)⟩ (by first | rfl | decide) ⟨rfl, hT⟩
  · exact absurd hm c114

set_option maxRecDepth 100000 in
set_option maxHeartbeats 4000000 in
theorem X_carr_x0 {l : Launch} {G : tp_G} {x : Nat} {h0 h : tp_H} {u : Nat → Int32} {π ρ : Nat → Nat} {us : Nat → Nat → Int32} {σ : Nat → Nat} {st len : Int32} {tx rd : Nat → Int32} (hl : l.stackTraces = false) (hT0 : kx_S G x h0 u π ρ us σ st len tx rd h) {w f t : Nat} {a : Int32} (hw : w < 4) (hf : f < 4) (ht : t < 4) (h0r : rd 0 = 120) (h1r : rd 1 = nI w) (h2r : rd 2 = nI f) (h3r : rd 3 = nI t) (h4r : rd 4 = a) {N : Nat} (hu8 : u 8 = nI N) (hN : N ≤ 8) (hm : ¬ z_whyEx u w f t a = 0) : tp_Met l G mX5_carriesOutOrder 0 0 [.ref x] h (tp_PS (some (.int 0)) (fun h1 => kx_S G x h u π ρ us σ st len tx rd h1)) tp_NX := by
  have hT := hT0.self
  have hB := hT.bk
  refine tp_start (L0 := [some (.ref x), none, none, none]) (by decide) rfl hl (Nat.le_of_ble_eq_true rfl) rfl ?_
  refine r_aload0 dX5_carriesOutOrder_0 ?_
  refine r_aload0 dX5_carriesOutOrder_1 ?_
  refine r_getf dX5_carriesOutOrder_2 f_X5_27 (hT.ob) rfl ?_
  refine r_getf dX5_carriesOutOrder_5 f_X5_347 (hT.re) rfl ?_
  refine r_aload0 dX5_carriesOutOrder_8 ?_
  refine r_getf dX5_carriesOutOrder_9 f_X5_27 (hT.ob) rfl ?_
  refine r_getf dX5_carriesOutOrder_12 f_X5_348 (hT.re) rfl ?_
  rw [h1r, h2r]
  refine r_pV dX5_carriesOutOrder_15 v_X5_31 (X_purseAt hl hT hw hf) rfl (hT.ob) rfl rfl rfl (Nat.le_of_ble_eq_true rfl) ⟨(Nat.le_of_ble_eq_true rfl), (Nat.le_of_ble_eq_true rfl)⟩ ⟨(Nat.le_of_ble_eq_true rfl), (Nat.le_of_ble_eq_true rfl)⟩ ?_
  refine r_astore1 dX5_carriesOutOrder_18 (Nat.le_of_ble_eq_true rfl) rfl ?_
  refine r_aload0 dX5_carriesOutOrder_19 ?_
  refine r_getf dX5_carriesOutOrder_20 f_X5_27 (hT.ob) rfl ?_
  refine r_getf dX5_carriesOutOrder_23 f_X5_351 (hT.re) rfl ?_
  rw [h4r]
  refine r_istore2 dX5_carriesOutOrder_26 (Nat.le_of_ble_eq_true rfl) rfl ?_
  refine r_aload0 dX5_carriesOutOrder_27 ?_
  refine r_getf dX5_carriesOutOrder_28 f_X5_27 (hT.ob) rfl ?_
  refine r_getf dX5_carriesOutOrder_31 f_X5_352 (hT.re) rfl ?_
  rw [h0r]
  refine r_lookup (off := 51) (tgt := 85) dX5_carriesOutOrder_34 (by decide) (by decide) (by decide) ?_
  refine r_aload0 dX5_carriesOutOrder_85 ?_
  refine r_aload0 dX5_carriesOutOrder_86 ?_
  refine r_getf dX5_carriesOutOrder_87 f_X5_27 (hT.ob) rfl ?_
  refine r_getf dX5_carriesOutOrder_90 f_X5_347 (hT.re) rfl ?_
  refine r_aload0 dX5_carriesOutOrder_93 ?_
  refine r_getf dX5_carriesOutOrder_94 f_X5_27 (hT.ob) rfl ?_
  refine r_getf dX5_carriesOutOrder_97 f_X5_355 (hT.re) rfl ?_
  rw [h1r, h3r]
  refine r_pV dX5_carriesOutOrder_100 v_X5_31 (X_purseAt hl hT hw ht) rfl (hT.ob) rfl rfl rfl (Nat.le_of_ble_eq_true rfl) ⟨(Nat.le_of_ble_eq_true rfl), (Nat.le_of_ble_eq_true rfl)⟩ ⟨(Nat.le_of_ble_eq_true rfl), (Nat.le_of_ble_eq_true rfl)⟩ ?_
  refine r_astore3 dX5_carriesOutOrder_103 (Nat.le_of_ble_eq_true rfl) rfl ?_
  refine r_aload0 dX5_carriesOutOrder_104 ?_
  refine r_getf dX5_carriesOutOrder_105 f_X5_10 (hT.ob) rfl ?_
  refine r_aload1 dX5_carriesOutOrder_108 ?_
  refine r_aload3 dX5_carriesOutOrder_109 ?_
  refine r_iload2 dX5_carriesOutOrder_110 ?_
  refine r_pV dX5_carriesOutOrder_111 v_X5_94 (K_exchangeReason hl hB hw hf ht hu8 hN) rfl (hB.ob) rfl rfl rfl (Nat.le_of_ble_eq_true rfl) ⟨(Nat.le_of_ble_eq_true rfl), (Nat.le_of_ble_eq_true rfl)⟩ ⟨(Nat.le_of_ble_eq_true rfl), (Nat.le_of_ble_eq_true rfl)⟩ ?_
  refine r_if_eq (tgt := 119) dX5_carriesOutOrder_114 (by decide) (fun c114 => ?_) (fun c114 => ?_)
  · exact absurd c114 hm
  · refine r_iconst (v := 0) dX5_carriesOutOrder_117 (by decide) ?_
    exact r_zret dX5_carriesOutOrder_118 rfl ⟨(Nat.le_of_ble_eq_true rfl), (Nat.le_of_ble_eq_true rfl)⟩ (by first | rfl | decide) ⟨rfl, hT⟩

set_option maxRecDepth 100000 in
set_option maxHeartbeats 4000000 in
theorem X_carr_h1 {l : Launch} {G : tp_G} {x : Nat} {h0 h : tp_H} {u : Nat → Int32} {π ρ : Nat → Nat} {us : Nat → Nat → Int32} {σ : Nat → Nat} {st len : Int32} {tx rd : Nat → Int32} (hl : l.stackTraces = false) (hT0 : kx_S G x h0 u π ρ us σ st len tx rd h) {w f t : Nat} {a : Int32} (hw : w < 4) (hf : f < 4) (ht : t < 4) (h0r : rd 0 = 104) (h1r : rd 1 = nI w) (h2r : rd 2 = nI f) (h3r : rd 3 = nI t) (h4r : rd 4 = a) {N : Nat} (hu8 : u 8 = nI N) (hN : N ≤ 8) (hN8 : N < 8) (hm : z_whyHold u w f a = 0) : tp_Met l G mX5_carriesOutOrder 0 0 [.ref x] h (tp_PS (some (.int 1)) (fun h1 => kx_S G x h (k_hold u N w f a) π ρ us σ st len tx rd h1)) tp_NX := by
  have hT := hT0.self
  have hB := hT.bk
  refine tp_start (L0 := [some (.ref x), none, none, none]) (by decide) rfl hl (Nat.le_of_ble_eq_true rfl) rfl ?_
  refine r_aload0 dX5_carriesOutOrder_0 ?_
  refine r_aload0 dX5_carriesOutOrder_1 ?_
  refine r_getf dX5_carriesOutOrder_2 f_X5_27 (hT.ob) rfl ?_
  refine r_getf dX5_carriesOutOrder_5 f_X5_347 (hT.re) rfl ?_
  refine r_aload0 dX5_carriesOutOrder_8 ?_
  refine r_getf dX5_carriesOutOrder_9 f_X5_27 (hT.ob) rfl ?_
  refine r_getf dX5_carriesOutOrder_12 f_X5_348 (hT.re) rfl ?_
  rw [h1r, h2r]
  refine r_pV dX5_carriesOutOrder_15 v_X5_31 (X_purseAt hl hT hw hf) rfl (hT.ob) rfl rfl rfl (Nat.le_of_ble_eq_true rfl) ⟨(Nat.le_of_ble_eq_true rfl), (Nat.le_of_ble_eq_true rfl)⟩ ⟨(Nat.le_of_ble_eq_true rfl), (Nat.le_of_ble_eq_true rfl)⟩ ?_
  refine r_astore1 dX5_carriesOutOrder_18 (Nat.le_of_ble_eq_true rfl) rfl ?_
  refine r_aload0 dX5_carriesOutOrder_19 ?_
  refine r_getf dX5_carriesOutOrder_20 f_X5_27 (hT.ob) rfl ?_
  refine r_getf dX5_carriesOutOrder_23 f_X5_351 (hT.re) rfl ?_
  rw [h4r]
  refine r_istore2 dX5_carriesOutOrder_26 (Nat.le_of_ble_eq_true rfl) rfl ?_
  refine r_aload0 dX5_carriesOutOrder_27 ?_
  refine r_getf dX5_carriesOutOrder_28 f_X5_27 (hT.ob) rfl ?_
  refine r_getf dX5_carriesOutOrder_31 f_X5_352 (hT.re) rfl ?_
  rw [h0r]
  refine r_lookup (off := 98) (tgt := 132) dX5_carriesOutOrder_34 (by decide) (by decide) (by decide) ?_
  refine r_aload0 dX5_carriesOutOrder_132 ?_
  refine r_getf dX5_carriesOutOrder_133 f_X5_10 (hT.ob) rfl ?_
  refine r_aload1 dX5_carriesOutOrder_136 ?_
  refine r_iload2 dX5_carriesOutOrder_137 ?_
  refine r_pV dX5_carriesOutOrder_138 v_X5_103 (K_holdReason hl hB hw hf hu8 hN) rfl (hB.ob) rfl rfl rfl (Nat.le_of_ble_eq_true rfl) ⟨(Nat.le_of_ble_eq_true rfl), (Nat.le_of_ble_eq_true rfl)⟩ ⟨(Nat.le_of_ble_eq_true rfl), (Nat.le_of_ble_eq_true rfl)⟩ ?_
  refine r_if_eq (tgt := 146) dX5_carriesOutOrder_141 (by decide) (fun c141 => ?_) (fun c141 => ?_)
  · refine r_aload0 dX5_carriesOutOrder_146 ?_
    refine r_getf dX5_carriesOutOrder_147 f_X5_10 (hT.ob) rfl ?_
    refine r_aload1 dX5_carriesOutOrder_150 ?_
    refine r_iload2 dX5_carriesOutOrder_151 ?_
    refine r_sV1 dX5_carriesOutOrder_152 v_X5_109 (K_addHold hl hB hw hf hu8 hN8) rfl (hB.ob) rfl rfl rfl (Nat.le_of_ble_eq_true rfl) ⟨(Nat.le_of_ble_eq_true rfl), (Nat.le_of_ble_eq_true rfl)⟩ ⟨(Nat.le_of_ble_eq_true rfl), (Nat.le_of_ble_eq_true rfl)⟩ (fun h1 hP => ?_)
    have hT := hT.bkTo hP
    have hB := hP.self
    refine r_pop dX5_carriesOutOrder_155 rfl ?_
    refine r_iconst (v := 1) dX5_carriesOutOrder_156 (by decide) ?_
    exact r_zret dX5_carriesOutOrder_157 rfl ⟨(Nat.le_of_ble_eq_true rfl), (Nat.le_of_ble_eq_true rfl)⟩ (by first | rfl | decide) ⟨rfl, hT⟩
  · exact absurd hm c141

set_option maxRecDepth 100000 in
set_option maxHeartbeats 4000000 in
theorem X_carr_h0 {l : Launch} {G : tp_G} {x : Nat} {h0 h : tp_H} {u : Nat → Int32} {π ρ : Nat → Nat} {us : Nat → Nat → Int32} {σ : Nat → Nat} {st len : Int32} {tx rd : Nat → Int32} (hl : l.stackTraces = false) (hT0 : kx_S G x h0 u π ρ us σ st len tx rd h) {w f t : Nat} {a : Int32} (hw : w < 4) (hf : f < 4) (ht : t < 4) (h0r : rd 0 = 104) (h1r : rd 1 = nI w) (h2r : rd 2 = nI f) (h3r : rd 3 = nI t) (h4r : rd 4 = a) {N : Nat} (hu8 : u 8 = nI N) (hN : N ≤ 8) (hm : ¬ z_whyHold u w f a = 0) : tp_Met l G mX5_carriesOutOrder 0 0 [.ref x] h (tp_PS (some (.int 0)) (fun h1 => kx_S G x h u π ρ us σ st len tx rd h1)) tp_NX := by
  have hT := hT0.self
  have hB := hT.bk
  refine tp_start (L0 := [some (.ref x), none, none, none]) (by decide) rfl hl (Nat.le_of_ble_eq_true rfl) rfl ?_
  refine r_aload0 dX5_carriesOutOrder_0 ?_
  refine r_aload0 dX5_carriesOutOrder_1 ?_
  refine r_getf dX5_carriesOutOrder_2 f_X5_27 (hT.ob) rfl ?_
  refine r_getf dX5_carriesOutOrder_5 f_X5_347 (hT.re) rfl ?_
  refine r_aload0 dX5_carriesOutOrder_8 ?_
  refine r_getf dX5_carriesOutOrder_9 f_X5_27 (hT.ob) rfl ?_
  refine r_getf dX5_carriesOutOrder_12 f_X5_348 (hT.re) rfl ?_
  rw [h1r, h2r]
  refine r_pV dX5_carriesOutOrder_15 v_X5_31 (X_purseAt hl hT hw hf) rfl (hT.ob) rfl rfl rfl (Nat.le_of_ble_eq_true rfl) ⟨(Nat.le_of_ble_eq_true rfl), (Nat.le_of_ble_eq_true rfl)⟩ ⟨(Nat.le_of_ble_eq_true rfl), (Nat.le_of_ble_eq_true rfl)⟩ ?_
  refine r_astore1 dX5_carriesOutOrder_18 (Nat.le_of_ble_eq_true rfl) rfl ?_
  refine r_aload0 dX5_carriesOutOrder_19 ?_
  refine r_getf dX5_carriesOutOrder_20 f_X5_27 (hT.ob) rfl ?_
  refine r_getf dX5_carriesOutOrder_23 f_X5_351 (hT.re) rfl ?_
  rw [h4r]
  refine r_istore2 dX5_carriesOutOrder_26 (Nat.le_of_ble_eq_true rfl) rfl ?_
  refine r_aload0 dX5_carriesOutOrder_27 ?_
  refine r_getf dX5_carriesOutOrder_28 f_X5_27 (hT.ob) rfl ?_
  refine r_getf dX5_carriesOutOrder_31 f_X5_352 (hT.re) rfl ?_
  rw [h0r]
  refine r_lookup (off := 98) (tgt := 132) dX5_carriesOutOrder_34 (by decide) (by decide) (by decide) ?_
  refine r_aload0 dX5_carriesOutOrder_132 ?_
  refine r_getf dX5_carriesOutOrder_133 f_X5_10 (hT.ob) rfl ?_
  refine r_aload1 dX5_carriesOutOrder_136 ?_
  refine r_iload2 dX5_carriesOutOrder_137 ?_
  refine r_pV dX5_carriesOutOrder_138 v_X5_103 (K_holdReason hl hB hw hf hu8 hN) rfl (hB.ob) rfl rfl rfl (Nat.le_of_ble_eq_true rfl) ⟨(Nat.le_of_ble_eq_true rfl), (Nat.le_of_ble_eq_true rfl)⟩ ⟨(Nat.le_of_ble_eq_true rfl), (Nat.le_of_ble_eq_true rfl)⟩ ?_
  refine r_if_eq (tgt := 146) dX5_carriesOutOrder_141 (by decide) (fun c141 => ?_) (fun c141 => ?_)
  · exact absurd c141 hm
  · refine r_iconst (v := 0) dX5_carriesOutOrder_144 (by decide) ?_
    exact r_zret dX5_carriesOutOrder_145 rfl ⟨(Nat.le_of_ble_eq_true rfl), (Nat.le_of_ble_eq_true rfl)⟩ (by first | rfl | decide) ⟨rfl, hT⟩

