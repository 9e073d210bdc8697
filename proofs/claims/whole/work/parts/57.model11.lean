theorem tp_in4 {w : Nat} (h : w < 4) : 0 ≤ nI w ∧ nI w ≤ 3 := by
  constructor
  · rw [show (0 : Int32) = nI 0 from rfl, tp_le (by omega) (by omega)]; omega
  · rw [show (3 : Int32) = nI 3 from rfl, tp_le (by omega) (by omega)]; omega
set_option maxRecDepth 100000 in
set_option maxHeartbeats 4000000 in
theorem Q_load {s : Nat} {l : Launch} {G : tp_G} {y : Nat} {h0 h : tp_H} {z hi tx pa : Nat → Int32} {len thr rd nu du : Int32} {hs : Int64} (hl : l.stackTraces = false) (hT0 : mm_S G y h0 z hi tx pa (nI s) len thr rd nu du hs h) (hs6 : s ≤ 6) {w : Nat} {a : Int32} (hw : w < 4) (ha : 1 ≤ a ∧ a ≤ 99999) (hm : z (z_at w 0) + a ≤ 1000000) : tp_Met l G mX6_load 0 0 [.ref y, .int (nI w), .int a] h (tp_PS (some (.int (z_loads z w a (z_at w 0)))) (fun h1 => mm_S G y h (z_loads z w a) (z_saveH hi z s) tx pa (nI (z_saveN s)) len 0 rd nu du hs h1)) tp_NX := by
  have hT := hT0.self
  have hw4 := tp_in4 hw
  refine tp_start (L0 := [some (.ref y), some (.int (nI w)), some (.int a)]) (by decide) rfl hl (Nat.le_of_ble_eq_true rfl) rfl ?_
  refine r_aload0 dX6_load_0 ?_
  refine r_iload1 dX6_load_1 ?_
  refine r_pS dX6_load_2 v_X6_33 (M_isWallet hl) rfl rfl rfl (Nat.le_of_ble_eq_true rfl) ⟨(Nat.le_of_ble_eq_true rfl), (Nat.le_of_ble_eq_true rfl)⟩ ⟨(Nat.le_of_ble_eq_true rfl), (Nat.le_of_ble_eq_true rfl)⟩ ?_
  refine r_if_ne (tgt := 12) dX6_load_5 (by decide) (fun c5 => ?_) (fun c5 => ?_)
  · refine r_iload2 dX6_load_12 ?_
    refine r_pS dX6_load_13 v_X6_62 (M_isMoney hl) rfl rfl rfl (Nat.le_of_ble_eq_true rfl) ⟨(Nat.le_of_ble_eq_true rfl), (Nat.le_of_ble_eq_true rfl)⟩ ⟨(Nat.le_of_ble_eq_true rfl), (Nat.le_of_ble_eq_true rfl)⟩ ?_
    refine r_if_ne (tgt := 23) dX6_load_16 (by decide) (fun c16 => ?_) (fun c16 => ?_)
    · refine r_aload0 dX6_load_23 ?_
      refine r_iload1 dX6_load_24 ?_
      refine r_iload2 dX6_load_25 ?_
      refine r_pV dX6_load_26 v_X6_65 (M_canLoad hl hT hw) rfl (hT.ob) rfl rfl rfl (Nat.le_of_ble_eq_true rfl) ⟨(Nat.le_of_ble_eq_true rfl), (Nat.le_of_ble_eq_true rfl)⟩ ⟨(Nat.le_of_ble_eq_true rfl), (Nat.le_of_ble_eq_true rfl)⟩ ?_
      refine r_if_eq (tgt := 36) dX6_load_29 (by decide) (fun c29 => ?_) (fun c29 => ?_)
      · first | exact absurd (by assumption) (tp_b_0.mp c29) | exact absurd (by assumption) (tp_b_0.mp (Classical.not_not.mp c29)) | exact absurd (tp_b_n c29) (by assumption) | exact absurd (by assumption) c29 | exact absurd c29 (by assumption)
      · refine r_iconst (v := 0) dX6_load_32 (by decide) ?_
        refine r_goto (tgt := 37) dX6_load_33 (by decide) ?_
        refine mm_put_thr dX6_load_37 rfl hT (fun h1 hT => ?_)
        refine r_aload0 dX6_load_40 ?_
        refine r_getf dX6_load_41 f_X6_22 (hT.ob) rfl ?_
        refine r_if_le (tgt := 49) dX6_load_44 (by decide) (fun c44 => ?_) (fun c44 => ?_)
        · refine r_aload0 dX6_load_49 ?_
          refine r_sV0 dX6_load_50 v_X6_68 (M_save hl hT hs6) rfl (hT.ob) rfl rfl rfl (Nat.le_of_ble_eq_true rfl) ⟨(Nat.le_of_ble_eq_true rfl), (Nat.le_of_ble_eq_true rfl)⟩ ⟨(Nat.le_of_ble_eq_true rfl), (Nat.le_of_ble_eq_true rfl)⟩ (fun h1 hP => ?_)
          have hT := hT.trans hP
          refine r_aload0 dX6_load_53 ?_
          refine r_iload1 dX6_load_54 ?_
          refine r_iload2 dX6_load_55 ?_
          refine r_sV0 dX6_load_56 v_X6_71 (M_loads hl hT hw) rfl (hT.ob) rfl rfl rfl (Nat.le_of_ble_eq_true rfl) ⟨(Nat.le_of_ble_eq_true rfl), (Nat.le_of_ble_eq_true rfl)⟩ ⟨(Nat.le_of_ble_eq_true rfl), (Nat.le_of_ble_eq_true rfl)⟩ (fun h1 hP => ?_)
          have hT := hT.trans hP
          refine r_aload0 dX6_load_59 ?_
          refine r_iload1 dX6_load_60 ?_
          refine r_iconst (v := 0) dX6_load_61 (by decide) ?_
          refine r_iconst (v := 0) dX6_load_62 (by decide) ?_
          refine r_pV dX6_load_63 v_X6_55 (M_of (j := 0) (c := 0) hl hT hw (by omega) (by omega)) rfl (hT.ob) rfl rfl rfl (Nat.le_of_ble_eq_true rfl) ⟨(Nat.le_of_ble_eq_true rfl), (Nat.le_of_ble_eq_true rfl)⟩ ⟨(Nat.le_of_ble_eq_true rfl), (Nat.le_of_ble_eq_true rfl)⟩ ?_
          exact r_iret dX6_load_66 rfl ⟨(Nat.le_of_ble_eq_true rfl), (Nat.le_of_ble_eq_true rfl)⟩ ⟨rfl, hT⟩
        · exact absurd (show (0 : Int32) ≤ 0 by decide) c44
    · first | exact absurd (by assumption) (tp_b_0.mp c16) | exact absurd (by assumption) (tp_b_0.mp (Classical.not_not.mp c16)) | exact absurd (tp_b_n c16) (by assumption) | exact absurd (by assumption) c16 | exact absurd c16 (by assumption)
  · first | exact absurd (by assumption) (tp_b_0.mp c5) | exact absurd (by assumption) (tp_b_0.mp (Classical.not_not.mp c5)) | exact absurd (tp_b_n c5) (by assumption) | exact absurd (by assumption) c5 | exact absurd c5 (by assumption)

set_option maxRecDepth 100000 in
set_option maxHeartbeats 4000000 in
theorem Q_load_1 {l : Launch} {G : tp_G} {y : Nat} {h0 h : tp_H} {z hi tx pa : Nat → Int32} {st len thr rd nu du : Int32} {hs : Int64} (hl : l.stackTraces = false) (hT0 : mm_S G y h0 z hi tx pa st len thr rd nu du hs h) {w a : Int32} (hbad : ¬ (0 ≤ w ∧ w ≤ 3)) : tp_Met l G mX6_load 0 0 [.ref y, .int w, .int a] h (tp_PS (some (.int 0)) (fun h1 => mm_S G y h z hi tx pa st len 1 rd nu du hs h1)) tp_NX := by
  have hT := hT0.self
  refine tp_start (L0 := [some (.ref y), some (.int w), some (.int a)]) (by decide) rfl hl (Nat.le_of_ble_eq_true rfl) rfl ?_
  refine r_aload0 dX6_load_0 ?_
  refine r_iload1 dX6_load_1 ?_
  refine r_pS dX6_load_2 v_X6_33 (M_isWallet hl) rfl rfl rfl (Nat.le_of_ble_eq_true rfl) ⟨(Nat.le_of_ble_eq_true rfl), (Nat.le_of_ble_eq_true rfl)⟩ ⟨(Nat.le_of_ble_eq_true rfl), (Nat.le_of_ble_eq_true rfl)⟩ ?_
  refine r_if_ne (tgt := 12) dX6_load_5 (by decide) (fun c5 => ?_) (fun c5 => ?_)
  · first | exact absurd (by assumption) (tp_b_0.mp c5) | exact absurd (by assumption) (tp_b_0.mp (Classical.not_not.mp c5)) | exact absurd (tp_b_n c5) (by assumption) | exact absurd (by assumption) c5 | exact absurd c5 (by assumption)
  · refine r_iconst (v := 1) dX6_load_8 (by decide) ?_
    refine r_goto (tgt := 37) dX6_load_9 (by decide) ?_
    refine mm_put_thr dX6_load_37 rfl hT (fun h1 hT => ?_)
    refine r_aload0 dX6_load_40 ?_
    refine r_getf dX6_load_41 f_X6_22 (hT.ob) rfl ?_
    refine r_if_le (tgt := 49) dX6_load_44 (by decide) (fun c44 => ?_) (fun c44 => ?_)
    · exact absurd c44 (by decide)
    · refine r_iconst (v := 0) dX6_load_47 (by decide) ?_
      exact r_iret dX6_load_48 rfl ⟨(Nat.le_of_ble_eq_true rfl), (Nat.le_of_ble_eq_true rfl)⟩ ⟨rfl, hT⟩

set_option maxRecDepth 100000 in
set_option maxHeartbeats 4000000 in
theorem Q_load_2 {l : Launch} {G : tp_G} {y : Nat} {h0 h : tp_H} {z hi tx pa : Nat → Int32} {st len thr rd nu du : Int32} {hs : Int64} (hl : l.stackTraces = false) (hT0 : mm_S G y h0 z hi tx pa st len thr rd nu du hs h) {w : Nat} {a : Int32} (hw : w < 4) (hbad : ¬ (1 ≤ a ∧ a ≤ 99999)) : tp_Met l G mX6_load 0 0 [.ref y, .int (nI w), .int a] h (tp_PS (some (.int 0)) (fun h1 => mm_S G y h z hi tx pa st len 2 rd nu du hs h1)) tp_NX := by
  have hT := hT0.self
  have hw4 := tp_in4 hw
  refine tp_start (L0 := [some (.ref y), some (.int (nI w)), some (.int a)]) (by decide) rfl hl (Nat.le_of_ble_eq_true rfl) rfl ?_
  refine r_aload0 dX6_load_0 ?_
  refine r_iload1 dX6_load_1 ?_
  refine r_pS dX6_load_2 v_X6_33 (M_isWallet hl) rfl rfl rfl (Nat.le_of_ble_eq_true rfl) ⟨(Nat.le_of_ble_eq_true rfl), (Nat.le_of_ble_eq_true rfl)⟩ ⟨(Nat.le_of_ble_eq_true rfl), (Nat.le_of_ble_eq_true rfl)⟩ ?_
  refine r_if_ne (tgt := 12) dX6_load_5 (by decide) (fun c5 => ?_) (fun c5 => ?_)
  · refine r_iload2 dX6_load_12 ?_
    refine r_pS dX6_load_13 v_X6_62 (M_isMoney hl) rfl rfl rfl (Nat.le_of_ble_eq_true rfl) ⟨(Nat.le_of_ble_eq_true rfl), (Nat.le_of_ble_eq_true rfl)⟩ ⟨(Nat.le_of_ble_eq_true rfl), (Nat.le_of_ble_eq_true rfl)⟩ ?_
    refine r_if_ne (tgt := 23) dX6_load_16 (by decide) (fun c16 => ?_) (fun c16 => ?_)
    · first | exact absurd (by assumption) (tp_b_0.mp c16) | exact absurd (by assumption) (tp_b_0.mp (Classical.not_not.mp c16)) | exact absurd (tp_b_n c16) (by assumption) | exact absurd (by assumption) c16 | exact absurd c16 (by assumption)
    · refine r_iconst (v := 2) dX6_load_19 (by decide) ?_
      refine r_goto (tgt := 37) dX6_load_20 (by decide) ?_
      refine mm_put_thr dX6_load_37 rfl hT (fun h1 hT => ?_)
      refine r_aload0 dX6_load_40 ?_
      refine r_getf dX6_load_41 f_X6_22 (hT.ob) rfl ?_
      refine r_if_le (tgt := 49) dX6_load_44 (by decide) (fun c44 => ?_) (fun c44 => ?_)
      · exact absurd c44 (by decide)
      · refine r_iconst (v := 0) dX6_load_47 (by decide) ?_
        exact r_iret dX6_load_48 rfl ⟨(Nat.le_of_ble_eq_true rfl), (Nat.le_of_ble_eq_true rfl)⟩ ⟨rfl, hT⟩
  · first | exact absurd (by assumption) (tp_b_0.mp c5) | exact absurd (by assumption) (tp_b_0.mp (Classical.not_not.mp c5)) | exact absurd (tp_b_n c5) (by assumption) | exact absurd (by assumption) c5 | exact absurd c5 (by assumption)

set_option maxRecDepth 100000 in
set_option maxHeartbeats 4000000 in
theorem Q_load_3 {l : Launch} {G : tp_G} {y : Nat} {h0 h : tp_H} {z hi tx pa : Nat → Int32} {st len thr rd nu du : Int32} {hs : Int64} (hl : l.stackTraces = false) (hT0 : mm_S G y h0 z hi tx pa st len thr rd nu du hs h) {w : Nat} {a : Int32} (hw : w < 4) (ha : 1 ≤ a ∧ a ≤ 99999) (hm : ¬ z (z_at w 0) + a ≤ 1000000) : tp_Met l G mX6_load 0 0 [.ref y, .int (nI w), .int a] h (tp_PS (some (.int 0)) (fun h1 => mm_S G y h z hi tx pa st len 3 rd nu du hs h1)) tp_NX := by
  have hT := hT0.self
  have hw4 := tp_in4 hw
  refine tp_start (L0 := [some (.ref y), some (.int (nI w)), some (.int a)]) (by decide) rfl hl (Nat.le_of_ble_eq_true rfl) rfl ?_
  refine r_aload0 dX6_load_0 ?_
  refine r_iload1 dX6_load_1 ?_
  refine r_pS dX6_load_2 v_X6_33 (M_isWallet hl) rfl rfl rfl (Nat.le_of_ble_eq_true rfl) ⟨(Nat.le_of_ble_eq_true rfl), (Nat.le_of_ble_eq_true rfl)⟩ ⟨(Nat.le_of_ble_eq_true rfl), (Nat.le_of_ble_eq_true rfl)⟩ ?_
  refine r_if_ne (tgt := 12) dX6_load_5 (by decide) (fun c5 => ?_) (fun c5 => ?_)
  · refine r_iload2 dX6_load_12 ?_
    refine r_pS dX6_load_13 v_X6_62 (M_isMoney hl) rfl rfl rfl (Nat.le_of_ble_eq_true rfl) ⟨(Nat.le_of_ble_eq_true rfl), (Nat.le_of_ble_eq_true rfl)⟩ ⟨(Nat.le_of_ble_eq_true rfl), (Nat.le_of_ble_eq_true rfl)⟩ ?_
    refine r_if_ne (tgt := 23) dX6_load_16 (by decide) (fun c16 => ?_) (fun c16 => ?_)
    · refine r_aload0 dX6_load_23 ?_
      refine r_iload1 dX6_load_24 ?_
      refine r_iload2 dX6_load_25 ?_
      refine r_pV dX6_load_26 v_X6_65 (M_canLoad hl hT hw) rfl (hT.ob) rfl rfl rfl (Nat.le_of_ble_eq_true rfl) ⟨(Nat.le_of_ble_eq_true rfl), (Nat.le_of_ble_eq_true rfl)⟩ ⟨(Nat.le_of_ble_eq_true rfl), (Nat.le_of_ble_eq_true rfl)⟩ ?_
      refine r_if_eq (tgt := 36) dX6_load_29 (by decide) (fun c29 => ?_) (fun c29 => ?_)
      · refine r_iconst (v := 3) dX6_load_36 (by decide) ?_
        refine mm_put_thr dX6_load_37 rfl hT (fun h1 hT => ?_)
        refine r_aload0 dX6_load_40 ?_
        refine r_getf dX6_load_41 f_X6_22 (hT.ob) rfl ?_
        refine r_if_le (tgt := 49) dX6_load_44 (by decide) (fun c44 => ?_) (fun c44 => ?_)
        · exact absurd c44 (by decide)
        · refine r_iconst (v := 0) dX6_load_47 (by decide) ?_
          exact r_iret dX6_load_48 rfl ⟨(Nat.le_of_ble_eq_true rfl), (Nat.le_of_ble_eq_true rfl)⟩ ⟨rfl, hT⟩
      · first | exact absurd (by assumption) (tp_b_0.mp c29) | exact absurd (by assumption) (tp_b_0.mp (Classical.not_not.mp c29)) | exact absurd (tp_b_n c29) (by assumption) | exact absurd (by assumption) c29 | exact absurd c29 (by assumption)
    · first | exact absurd (by assumption) (tp_b_0.mp c16) | exact absurd (by assumption) (tp_b_0.mp (Classical.not_not.mp c16)) | exact absurd (tp_b_n c16) (by assumption) | exact absurd (by assumption) c16 | exact absurd c16 (by assumption)
  · first | exact absurd (by assumption) (tp_b_0.mp c5) | exact absurd (by assumption) (tp_b_0.mp (Classical.not_not.mp c5)) | exact absurd (tp_b_n c5) (by assumption) | exact absurd (by assumption) c5 | exact absurd c5 (by assumption)

set_option maxRecDepth 100000 in
set_option maxHeartbeats 4000000 in
theorem Q_exchange {s : Nat} {l : Launch} {G : tp_G} {y : Nat} {h0 h : tp_H} {z hi tx pa : Nat → Int32} {len thr rd nu du : Int32} {hs : Int64} (hl : l.stackTraces = false) (hT0 : mm_S G y h0 z hi tx pa (nI s) len thr rd nu du hs h) (hs6 : s ≤ 6) {w f t N : Nat} {a : Int32} (hz8 : z 8 = nI N) (hN : N ≤ 8) (hw : w < 4) (hf : f < 4) (ht : t < 4) (ha : 1 ≤ a ∧ a ≤ 99999) (hr : ¬ (z_rate z w t).toInt64 = 0) (hm : z_whyEx z w f t a = 0) : tp_Met l G mX6_exchange 0 0 [.ref y, .int (nI w), .int (nI f), .int (nI t), .int a] h (tp_PS (some (.int (z_brings z w f t a))) (fun h1 => mm_S G y h (z_ex z w f t a) (z_saveH hi z s) tx pa (nI (z_saveN s)) len 0 rd nu du hs h1)) tp_NX := by
  have hT := hT0.self
  have hp : (0 ≤ nI w ∧ nI w ≤ 3) ∧ (0 ≤ nI f ∧ nI f ≤ 3) := ⟨tp_in4 hw, tp_in4 hf⟩
  have ht4 := tp_in4 ht
  refine tp_start (L0 := [some (.ref y), some (.int (nI w)), some (.int (nI f)), some (.int (nI t)), some (.int a)]) (by decide) rfl hl (Nat.le_of_ble_eq_true rfl) rfl ?_
  refine r_aload0 dX6_exchange_0 ?_
  refine r_iload1 dX6_exchange_1 ?_
  refine r_iload2 dX6_exchange_2 ?_
  refine r_pS dX6_exchange_3 v_X6_40 (M_isPurse hl) rfl rfl rfl (Nat.le_of_ble_eq_true rfl) ⟨(Nat.le_of_ble_eq_true rfl), (Nat.le_of_ble_eq_true rfl)⟩ ⟨(Nat.le_of_ble_eq_true rfl), (Nat.le_of_ble_eq_true rfl)⟩ ?_
  refine r_if_eq (tgt := 16) dX6_exchange_6 (by decide) (fun c6 => ?_) (fun c6 => ?_)
  · first | exact absurd (by assumption) (tp_b_0.mp c6) | exact absurd (by assumption) (tp_b_0.mp (Classical.not_not.mp c6)) | exact absurd (tp_b_n c6) (by assumption) | exact absurd (by assumption) c6 | exact absurd c6 (by assumption)
  · refine r_iload3 dX6_exchange_9 ?_
    refine r_pS dX6_exchange_10 v_X6_37 (M_isCurrency hl) rfl rfl rfl (Nat.le_of_ble_eq_true rfl) ⟨(Nat.le_of_ble_eq_true rfl), (Nat.le_of_ble_eq_true rfl)⟩ ⟨(Nat.le_of_ble_eq_true rfl), (Nat.le_of_ble_eq_true rfl)⟩ ?_
    refine r_if_ne (tgt := 20) dX6_exchange_13 (by decide) (fun c13 => ?_) (fun c13 => ?_)
    · refine r_iload4 dX6_exchange_20 ?_
      refine r_pS dX6_exchange_22 v_X6_62 (M_isMoney hl) rfl rfl rfl (Nat.le_of_ble_eq_true rfl) ⟨(Nat.le_of_ble_eq_true rfl), (Nat.le_of_ble_eq_true rfl)⟩ ⟨(Nat.le_of_ble_eq_true rfl), (Nat.le_of_ble_eq_true rfl)⟩ ?_
      refine r_if_ne (tgt := 32) dX6_exchange_25 (by decide) (fun c25 => ?_) (fun c25 => ?_)
      · refine r_aload0 dX6_exchange_32 ?_
        refine r_iload1 dX6_exchange_33 ?_
        refine r_iload2 dX6_exchange_34 ?_
        refine r_iload3 dX6_exchange_35 ?_
        refine r_iload4 dX6_exchange_36 ?_
        refine r_pV dX6_exchange_38 v_X6_105 (M_whyNoExchange hl hT hw hf ht hz8 hN) rfl (hT.ob) rfl rfl rfl (Nat.le_of_ble_eq_true rfl) ⟨(Nat.le_of_ble_eq_true rfl), (Nat.le_of_ble_eq_true rfl)⟩ ⟨(Nat.le_of_ble_eq_true rfl), (Nat.le_of_ble_eq_true rfl)⟩ ?_
        refine r_if_ne (tgt := 48) dX6_exchange_41 (by decide) (fun c41 => ?_) (fun c41 => ?_)
        · first | exact absurd (by assumption) (tp_b_0.mp c41) | exact absurd (by assumption) (tp_b_0.mp (Classical.not_not.mp c41)) | exact absurd (tp_b_n c41) (by assumption) | exact absurd (by assumption) c41 | exact absurd c41 (by assumption)
        · refine r_iconst (v := 0) dX6_exchange_44 (by decide) ?_
          refine r_goto (tgt := 49) dX6_exchange_45 (by decide) ?_
          refine mm_put_thr dX6_exchange_49 rfl hT (fun h1 hT => ?_)
          refine r_aload0 dX6_exchange_52 ?_
          refine r_getf dX6_exchange_53 f_X6_22 (hT.ob) rfl ?_
          refine r_if_le (tgt := 61) dX6_exchange_56 (by decide) (fun c56 => ?_) (fun c56 => ?_)
          · refine r_aload0 dX6_exchange_61 ?_
            refine r_sV0 dX6_exchange_62 v_X6_68 (M_save hl hT hs6) rfl (hT.ob) rfl rfl rfl (Nat.le_of_ble_eq_true rfl) ⟨(Nat.le_of_ble_eq_true rfl), (Nat.le_of_ble_eq_true rfl)⟩ ⟨(Nat.le_of_ble_eq_true rfl), (Nat.le_of_ble_eq_true rfl)⟩ (fun h1 hP => ?_)
            have hT := hT.trans hP
            refine r_aload0 dX6_exchange_65 ?_
            refine r_iload1 dX6_exchange_66 ?_
            refine r_iload2 dX6_exchange_67 ?_
            refine r_iload3 dX6_exchange_68 ?_
            refine r_iload4 dX6_exchange_69 ?_
            refine r_sV1 dX6_exchange_71 v_X6_108 (M_exchanges hl hT hw hf ht hr) rfl (hT.ob) rfl rfl rfl (Nat.le_of_ble_eq_true rfl) ⟨(Nat.le_of_ble_eq_true rfl), (Nat.le_of_ble_eq_true rfl)⟩ ⟨(Nat.le_of_ble_eq_true rfl), (Nat.le_of_ble_eq_true rfl)⟩ (fun h1 hP => ?_)
            have hT := hT.trans hP
            exact r_iret dX6_exchange_74 rfl ⟨(Nat.le_of_ble_eq_true rfl), (Nat.le_of_ble_eq_true rfl)⟩ ⟨rfl, hT⟩
          · exact absurd (show (0 : Int32) ≤ 0 by decide) c56
      · first | exact absurd (by assumption) (tp_b_0.mp c25) | exact absurd (by assumption) (tp_b_0.mp (Classical.not_not.mp c25)) | exact absurd (tp_b_n c25) (by assumption) | exact absurd (by assumption) c25 | exact absurd c25 (by assumption)
    · first | exact absurd (by assumption) (tp_b_0.mp c13) | exact absurd (by assumption) (tp_b_0.mp (Classical.not_not.mp c13)) | exact absurd (tp_b_n c13) (by assumption) | exact absurd (by assumption) c13 | exact absurd c13 (by assumption)

set_option maxRecDepth 100000 in
set_option maxHeartbeats 4000000 in
theorem Q_exchange_1 {l : Launch} {G : tp_G} {y : Nat} {h0 h : tp_H} {z hi tx pa : Nat → Int32} {st len thr rd nu du : Int32} {hs : Int64} (hl : l.stackTraces = false) (hT0 : mm_S G y h0 z hi tx pa st len thr rd nu du hs h) {w f t a : Int32} (hbad : ¬ ((0 ≤ w ∧ w ≤ 3) ∧ (0 ≤ f ∧ f ≤ 3))) : tp_Met l G mX6_exchange 0 0 [.ref y, .int w, .int f, .int t, .int a] h (tp_PS (some (.int 0)) (fun h1 => mm_S G y h z hi tx pa st len 1 rd nu du hs h1)) tp_NX := by
  have hT := hT0.self
  refine tp_start (L0 := [some (.ref y), some (.int w), some (.int f), some (.int t), some (.int a)]) (by decide) rfl hl (Nat.le_of_ble_eq_true rfl) rfl ?_
  refine r_aload0 dX6_exchange_0 ?_
  refine r_iload1 dX6_exchange_1 ?_
  refine r_iload2 dX6_exchange_2 ?_
  refine r_pS dX6_exchange_3 v_X6_40 (M_isPurse hl) rfl rfl rfl (Nat.le_of_ble_eq_true rfl) ⟨(Nat.le_of_ble_eq_true rfl), (Nat.le_of_ble_eq_true rfl)⟩ ⟨(Nat.le_of_ble_eq_true rfl), (Nat.le_of_ble_eq_true rfl)⟩ ?_
  refine r_if_eq (tgt := 16) dX6_exchange_6 (by decide) (fun c6 => ?_) (fun c6 => ?_)
  · refine r_iconst (v := 1) dX6_exchange_16 (by decide) ?_
    refine r_goto (tgt := 49) dX6_exchange_17 (by decide) ?_
    refine mm_put_thr dX6_exchange_49 rfl hT (fun h1 hT => ?_)
    refine r_aload0 dX6_exchange_52 ?_
    refine r_getf dX6_exchange_53 f_X6_22 (hT.ob) rfl ?_
    refine r_if_le (tgt := 61) dX6_exchange_56 (by decide) (fun c56 => ?_) (fun c56 => ?_)
    · exact absurd c56 (by decide)
    · refine r_iconst (v := 0) dX6_exchange_59 (by decide) ?_
      exact r_iret dX6_exchange_60 rfl ⟨(Nat.le_of_ble_eq_true rfl), (Nat.le_of_ble_eq_true rfl)⟩ ⟨rfl, hT⟩
  · first | exact absurd (by assumption) (tp_b_0.mp c6) | exact absurd (by assumption) (tp_b_0.mp (Classical.not_not.mp c6)) | exact absurd (tp_b_n c6) (by assumption) | exact absurd (by assumption) c6 | exact absurd c6 (by assumption)

set_option maxRecDepth 100000 in
set_option maxHeartbeats 4000000 in
theorem Q_exchange_1b {l : Launch} {G : tp_G} {y : Nat} {h0 h : tp_H} {z hi tx pa : Nat → Int32} {st len thr rd nu du : Int32} {hs : Int64} (hl : l.stackTraces = false) (hT0 : mm_S G y h0 z hi tx pa st len thr rd nu du hs h) {w f : Nat} {t a : Int32} (hw : w < 4) (hf : f < 4) (hbad : ¬ (0 ≤ t ∧ t ≤ 3)) : tp_Met l G mX6_exchange 0 0 [.ref y, .int (nI w), .int (nI f), .int t, .int a] h (tp_PS (some (.int 0)) (fun h1 => mm_S G y h z hi tx pa st len 1 rd nu du hs h1)) tp_NX := by
  have hT := hT0.self
  have hp : (0 ≤ nI w ∧ nI w ≤ 3) ∧ (0 ≤ nI f ∧ nI f ≤ 3) := ⟨tp_in4 hw, tp_in4 hf⟩
  refine tp_start (L0 := [some (.ref y), some (.int (nI w)), some (.int (nI f)), some (.int t), some (.int a)]) (by decide) rfl hl (Nat.le_of_ble_eq_true rfl) rfl ?_
  refine r_aload0 dX6_exchange_0 ?_
  refine r_iload1 dX6_exchange_1 ?_
  refine r_iload2 dX6_exchange_2 ?_
  refine r_pS dX6_exchange_3 v_X6_40 (M_isPurse hl) rfl rfl rfl (Nat.le_of_ble_eq_true rfl) ⟨(Nat.le_of_ble_eq_true rfl), (Nat.le_of_ble_eq_true rfl)⟩ ⟨(Nat.le_of_ble_eq_true rfl), (Nat.le_of_ble_eq_true rfl)⟩ ?_
  refine r_if_eq (tgt := 16) dX6_exchange_6 (by decide) (fun c6 => ?_) (fun c6 => ?_)
  · first | exact absurd (by assumption) (tp_b_0.mp c6) | exact absurd (by assumption) (tp_b_0.mp (Classical.not_not.mp c6)) | exact absurd (tp_b_n c6) (by assumption) | exact absurd (by assumption) c6 | exact absurd c6 (by assumption)
  · refine r_iload3 dX6_exchange_9 ?_
    refine r_pS dX6_exchange_10 v_X6_37 (M_isCurrency hl) rfl rfl rfl (Nat.le_of_ble_eq_true rfl) ⟨(Nat.le_of_ble_eq_true rfl), (Nat.le_of_ble_eq_true rfl)⟩ ⟨(Nat.le_of_ble_eq_true rfl), (Nat.le_of_ble_eq_true rfl)⟩ ?_
    refine r_if_ne (tgt := 20) dX6_exchange_13 (by decide) (fun c13 => ?_) (fun c13 => ?_)
    · first | exact absurd (by assumption) (tp_b_0.mp c13) | exact absurd (by assumption) (tp_b_0.mp (Classical.not_not.mp c13)) | exact absurd (tp_b_n c13) (by assumption) | exact absurd (by assumption) c13 | exact absurd c13 (by assumption)
    · refine r_iconst (v := 1) dX6_exchange_16 (by decide) ?_
      refine r_goto (tgt := 49) dX6_exchange_17 (by decide) ?_
      refine mm_put_thr dX6_exchange_49 rfl hT (fun h1 hT => ?_)
      refine r_aload0 dX6_exchange_52 ?_
      refine r_getf dX6_exchange_53 f_X6_22 (hT.ob) rfl ?_
      refine r_if_le (tgt := 61) dX6_exchange_56 (by decide) (fun c56 => ?_) (fun c56 => ?_)
      · exact absurd c56 (by decide)
      · refine r_iconst (v := 0) dX6_exchange_59 (by decide) ?_
        exact r_iret dX6_exchange_60 rfl ⟨(Nat.le_of_ble_eq_true rfl), (Nat.le_of_ble_eq_true rfl)⟩ ⟨rfl, hT⟩

set_option maxRecDepth 100000 in
set_option maxHeartbeats 4000000 in
theorem Q_exchange_2 {l : Launch} {G : tp_G} {y : Nat} {h0 h : tp_H} {z hi tx pa : Nat → Int32} {st len thr rd nu du : Int32} {hs : Int64} (hl : l.stackTraces = false) (hT0 : mm_S G y h0 z hi tx pa st len thr rd nu du hs h) {w f t : Nat} {a : Int32} (hw : w < 4) (hf : f < 4) (ht : t < 4) (hbad : ¬ (1 ≤ a ∧ a ≤ 99999)) : tp_Met l G mX6_exchange 0 0 [.ref y, .int (nI w), .int (nI f), .int (nI t), .int a] h (tp_PS (some (.int 0)) (fun h1 => mm_S G y h z hi tx pa st len 2 rd nu du hs h1)) tp_NX := by
  have hT := hT0.self
  have hp : (0 ≤ nI w ∧ nI w ≤ 3) ∧ (0 ≤ nI f ∧ nI f ≤ 3) := ⟨tp_in4 hw, tp_in4 hf⟩
  have ht4 := tp_in4 ht
  refine tp_start (L0 := [some (.ref y), some (.int (nI w)), some (.int (nI f)), some (.int (nI t)), some (.int a)]) (by decide) rfl hl (Nat.le_of_ble_eq_true rfl) rfl ?_
  refine r_aload0 dX6_exchange_0 ?_
  refine r_iload1 dX6_exchange_1 ?_
  refine r_iload2 dX6_exchange_2 ?_
  refine r_pS dX6_exchange_3 v_X6_40 (M_isPurse hl) rfl rfl rfl (Nat.le_of_ble_eq_true rfl) ⟨(Nat.le_of_ble_eq_true rfl), (Nat.le_of_ble_eq_true rfl)⟩ ⟨(Nat.le_of_ble_eq_true rfl), (Nat.le_of_ble_eq_true rfl)⟩ ?_
  refine r_if_eq (tgt := 16) dX6_exchange_6 (by decide) (fun c6 => ?_) (fun c6 => ?_)
  · first | exact absurd (by assumption) (tp_b_0.mp c6) | exact absurd (by assumption) (tp_b_0.mp (Classical.not_not.mp c6)) | exact absurd (tp_b_n c6) (by assumption) | exact absurd (by assumption) c6 | exact absurd c6 (by assumption)
  · refine r_iload3 dX6_exchange_9 ?_
    refine r_pS dX6_exchange_10 v_X6_37 (M_isCurrency hl) rfl rfl rfl (Nat.le_of_ble_eq_true rfl) ⟨(Nat.le_of_ble_eq_true rfl), (Nat.le_of_ble_eq_true rfl)⟩ ⟨(Nat.le_of_ble_eq_true rfl), (Nat.le_of_ble_eq_true rfl)⟩ ?_
    refine r_if_ne (tgt := 20) dX6_exchange_13 (by decide) (fun c13 => ?_) (fun c13 => ?_)
    · refine r_iload4 dX6_exchange_20 ?_
      refine r_pS dX6_exchange_22 v_X6_62 (M_isMoney hl) rfl rfl rfl (Nat.le_of_ble_eq_true rfl) ⟨(Nat.le_of_ble_eq_true rfl), (Nat.le_of_ble_eq_true rfl)⟩ ⟨(Nat.le_of_ble_eq_true rfl), (Nat.le_of_ble_eq_true rfl)⟩ ?_
      refine r_if_ne (tgt := 32) dX6_exchange_25 (by decide) (fun c25 => ?_) (fun c25 => ?_)
      · first | exact absurd (by assumption) (tp_b_0.mp c25) | exact absurd (by assumption) (tp_b_0.mp (Classical.not_not.mp c25)) | exact absurd (tp_b_n c25) (by assumption) | exact absurd (by assumption) c25 | exact absurd c25 (by assumption)
      · refine r_iconst (v := 2) dX6_exchange_28 (by decide) ?_
        refine r_goto (tgt := 49) dX6_exchange_29 (by decide) ?_
        refine mm_put_thr dX6_exchange_49 rfl hT (fun h1 hT => ?_)
        refine r_aload0 dX6_exchange_52 ?_
        refine r_getf dX6_exchange_53 f_X6_22 (hT.ob) rfl ?_
        refine r_if_le (tgt := 61) dX6_exchange_56 (by decide) (fun c56 => ?_) (fun c56 => ?_)
        · exact absurd c56 (by decide)
        · refine r_iconst (v := 0) dX6_exchange_59 (by decide) ?_
          exact r_iret dX6_exchange_60 rfl ⟨(Nat.le_of_ble_eq_true rfl), (Nat.le_of_ble_eq_true rfl)⟩ ⟨rfl, hT⟩
    · first | exact absurd (by assumption) (tp_b_0.mp c13) | exact absurd (by assumption) (tp_b_0.mp (Classical.not_not.mp c13)) | exact absurd (tp_b_n c13) (by assumption) | exact absurd (by assumption) c13 | exact absurd c13 (by assumption)

set_option maxRecDepth 100000 in
set_option maxHeartbeats 4000000 in
theorem Q_exchange_3 {l : Launch} {G : tp_G} {y : Nat} {h0 h : tp_H} {z hi tx pa : Nat → Int32} {st len thr rd nu du : Int32} {hs : Int64} (hl : l.stackTraces = false) (hT0 : mm_S G y h0 z hi tx pa st len thr rd nu du hs h) {w f t N : Nat} {a : Int32} (hz8 : z 8 = nI N) (hN : N ≤ 8) (hw : w < 4) (hf : f < 4) (ht : t < 4) (ha : 1 ≤ a ∧ a ≤ 99999) (hm : ¬ z_whyEx z w f t a = 0) : tp_Met l G mX6_exchange 0 0 [.ref y, .int (nI w), .int (nI f), .int (nI t), .int a] h (tp_PS (some (.int 0)) (fun h1 => mm_S G y h z hi tx pa st len 3 rd nu du hs h1)) tp_NX := by
  have hT := hT0.self
  have hp : (0 ≤ nI w ∧ nI w ≤ 3) ∧ (0 ≤ nI f ∧ nI f ≤ 3) := ⟨tp_in4 hw, tp_in4 hf⟩
  have ht4 := tp_in4 ht
  refine tp_start (L0 := [some (.ref y), some (.int (nI w)), some (.int (nI f)), some (.int (nI t)), some (.int a)]) (by decide) rfl hl (Nat.le_of_ble_eq_true rfl) rfl ?_
  refine r_aload0 dX6_exchange_0 ?_
  refine r_iload1 dX6_exchange_1 ?_
  refine r_iload2 dX6_exchange_2 ?_
  refine r_pS dX6_exchange_3 v_X6_40 (M_isPurse hl) rfl rfl rfl (Nat.le_of_ble_eq_true rfl) ⟨(Nat.le_of_ble_eq_true rfl), (Nat.le_of_ble_eq_true rfl)⟩ ⟨(Nat.le_of_ble_eq_true rfl), (Nat.le_of_ble_eq_true rfl)⟩ ?_
  refine r_if_eq (tgt := 16) dX6_exchange_6 (by decide) (fun c6 => ?_) (fun c6 => ?_)
  · first | exact absurd (by assumption) (tp_b_0.mp c6) | exact absurd (by assumption) (tp_b_0.mp (Classical.not_not.mp c6)) | exact absurd (tp_b_n c6) (by assumption) | exact absurd (by assumption) c6 | exact absurd c6 (by assumption)
  · refine r_iload3 dX6_exchange_9 ?_
    refine r_pS dX6_exchange_10 v_X6_37 (M_isCurrency hl) rfl rfl rfl (Nat.le_of_ble_eq_true rfl) ⟨(Nat.le_of_ble_eq_true rfl), (Nat.le_of_ble_eq_true rfl)⟩ ⟨(Nat.le_of_ble_eq_true rfl), (Nat.le_of_ble_eq_true rfl)⟩ ?_
    refine r_if_ne (tgt := 20) dX6_exchange_13 (by decide) (fun c13 => ?_) (fun c13 => ?_)
    · refine r_iload4 dX6_exchange_20 ?_
      refine r_pS dX6_exchange_22 v_X6_62 (M_isMoney hl) rfl rfl rfl (Nat.le_of_ble_eq_true rfl) ⟨(Nat.le_of_ble_eq_true rfl), (Nat.le_of_ble_eq_true rfl)⟩ ⟨(Nat.le_of_ble_eq_true rfl), (Nat.le_of_ble_eq_true rfl)⟩ ?_
      refine r_if_ne (tgt := 32) dX6_exchange_25 (by decide) (fun c25 => ?_) (fun c25 => ?_)
      · refine r_aload0 dX6_exchange_32 ?_
        refine r_iload1 dX6_exchange_33 ?_
        refine r_iload2 dX6_exchange_34 ?_
        refine r_iload3 dX6_exchange_35 ?_
        refine r_iload4 dX6_exchange_36 ?_
        refine r_pV dX6_exchange_38 v_X6_105 (M_whyNoExchange hl hT hw hf ht hz8 hN) rfl (hT.ob) rfl rfl rfl (Nat.le_of_ble_eq_true rfl) ⟨(Nat.le_of_ble_eq_true rfl), (Nat.le_of_ble_eq_true rfl)⟩ ⟨(Nat.le_of_ble_eq_true rfl), (Nat.le_of_ble_eq_true rfl)⟩ ?_
        refine r_if_ne (tgt := 48) dX6_exchange_41 (by decide) (fun c41 => ?_) (fun c41 => ?_)
        · refine r_iconst (v := 3) dX6_exchange_48 (by decide) ?_
          refine mm_put_thr dX6_exchange_49 rfl hT (fun h1 hT => ?_)
          refine r_aload0 dX6_exchange_52 ?_
          refine r_getf dX6_exchange_53 f_X6_22 (hT.ob) rfl ?_
          refine r_if_le (tgt := 61) dX6_exchange_56 (by decide) (fun c56 => ?_) (fun c56 => ?_)
          · exact absurd c56 (by decide)
          · refine r_iconst (v := 0) dX6_exchange_59 (by decide) ?_
            exact r_iret dX6_exchange_60 rfl ⟨(Nat.le_of_ble_eq_true rfl), (Nat.le_of_ble_eq_true rfl)⟩ ⟨rfl, hT⟩
        · first | exact absurd (by assumption) (tp_b_0.mp c41) | exact absurd (by assumption) (tp_b_0.mp (Classical.not_not.mp c41)) | exact absurd (tp_b_n c41) (by assumption) | exact absurd (by assumption) c41 | exact absurd c41 (by assumption)
      · first | exact absurd (by assumption) (tp_b_0.mp c25) | exact absurd (by assumption) (tp_b_0.mp (Classical.not_not.mp c25)) | exact absurd (tp_b_n c25) (by assumption) | exact absurd (by assumption) c25 | exact absurd c25 (by assumption)
    · first | exact absurd (by assumption) (tp_b_0.mp c13) | exact absurd (by assumption) (tp_b_0.mp (Classical.not_not.mp c13)) | exact absurd (tp_b_n c13) (by assumption) | exact absurd (by assumption) c13 | exact absurd c13 (by assumption)

set_option maxRecDepth 100000 in
set_option maxHeartbeats 4000000 in
theorem Q_hold {s : Nat} {l : Launch} {G : tp_G} {y : Nat} {h0 h : tp_H} {z hi tx pa : Nat → Int32} {len thr rd nu du : Int32} {hs : Int64} (hl : l.stackTraces = false) (hT0 : mm_S G y h0 z hi tx pa (nI s) len thr rd nu du hs h) (hs6 : s ≤ 6) {w c N : Nat} {a : Int32} (hz8 : z 8 = nI N) (hN : N ≤ 8) (hN8 : N < 8) (hw : w < 4) (hc : c < 4) (ha : 1 ≤ a ∧ a ≤ 99999) (hm : z_whyHold z w c a = 0) : tp_Met l G mX6_hold 0 0 [.ref y, .int (nI w), .int (nI c), .int a] h (tp_PS (some (.int (z 8))) (fun h1 => mm_S G y h (z_holds z w c a) (z_saveH hi z s) tx pa (nI (z_saveN s)) len 0 rd nu du hs h1)) tp_NX := by
  have hT := hT0.self
  have hp : (0 ≤ nI w ∧ nI w ≤ 3) ∧ (0 ≤ nI c ∧ nI c ≤ 3) := ⟨tp_in4 hw, tp_in4 hc⟩
  refine tp_start (L0 := [some (.ref y), some (.int (nI w)), some (.int (nI c)), some (.int a)]) (by decide) rfl hl (Nat.le_of_ble_eq_true rfl) rfl ?_
  refine r_aload0 dX6_hold_0 ?_
  refine r_iload1 dX6_hold_1 ?_
  refine r_iload2 dX6_hold_2 ?_
  refine r_pS dX6_hold_3 v_X6_40 (M_isPurse hl) rfl rfl rfl (Nat.le_of_ble_eq_true rfl) ⟨(Nat.le_of_ble_eq_true rfl), (Nat.le_of_ble_eq_true rfl)⟩ ⟨(Nat.le_of_ble_eq_true rfl), (Nat.le_of_ble_eq_true rfl)⟩ ?_
  refine r_if_ne (tgt := 13) dX6_hold_6 (by decide) (fun c6 => ?_) (fun c6 => ?_)
  · refine r_iload3 dX6_hold_13 ?_
    refine r_pS dX6_hold_14 v_X6_62 (M_isMoney hl) rfl rfl rfl (Nat.le_of_ble_eq_true rfl) ⟨(Nat.le_of_ble_eq_true rfl), (Nat.le_of_ble_eq_true rfl)⟩ ⟨(Nat.le_of_ble_eq_true rfl), (Nat.le_of_ble_eq_true rfl)⟩ ?_
    refine r_if_ne (tgt := 24) dX6_hold_17 (by decide) (fun c17 => ?_) (fun c17 => ?_)
    · refine r_aload0 dX6_hold_24 ?_
      refine r_iload1 dX6_hold_25 ?_
      refine r_iload2 dX6_hold_26 ?_
      refine r_iload3 dX6_hold_27 ?_
      refine r_pV dX6_hold_28 v_X6_114 (M_whyNoHold hl hT hw hc hz8 hN) rfl (hT.ob) rfl rfl rfl (Nat.le_of_ble_eq_true rfl) ⟨(Nat.le_of_ble_eq_true rfl), (Nat.le_of_ble_eq_true rfl)⟩ ⟨(Nat.le_of_ble_eq_true rfl), (Nat.le_of_ble_eq_true rfl)⟩ ?_
      refine r_if_ne (tgt := 38) dX6_hold_31 (by decide) (fun c31 => ?_) (fun c31 => ?_)
      · first | exact absurd (by assumption) (tp_b_0.mp c31) | exact absurd (by assumption) (tp_b_0.mp (Classical.not_not.mp c31)) | exact absurd (tp_b_n c31) (by assumption) | exact absurd (by assumption) c31 | exact absurd c31 (by assumption)
      · refine r_iconst (v := 0) dX6_hold_34 (by decide) ?_
        refine r_goto (tgt := 39) dX6_hold_35 (by decide) ?_
        refine mm_put_thr dX6_hold_39 rfl hT (fun h1 hT => ?_)
        refine r_aload0 dX6_hold_42 ?_
        refine r_getf dX6_hold_43 f_X6_22 (hT.ob) rfl ?_
        refine r_if_le (tgt := 51) dX6_hold_46 (by decide) (fun c46 => ?_) (fun c46 => ?_)
        · refine r_aload0 dX6_hold_51 ?_
          refine r_sV0 dX6_hold_52 v_X6_68 (M_save hl hT hs6) rfl (hT.ob) rfl rfl rfl (Nat.le_of_ble_eq_true rfl) ⟨(Nat.le_of_ble_eq_true rfl), (Nat.le_of_ble_eq_true rfl)⟩ ⟨(Nat.le_of_ble_eq_true rfl), (Nat.le_of_ble_eq_true rfl)⟩ (fun h1 hP => ?_)
          have hT := hT.trans hP
          refine r_aload0 dX6_hold_55 ?_
          refine r_iload1 dX6_hold_56 ?_
          refine r_iload2 dX6_hold_57 ?_
          refine r_iload3 dX6_hold_58 ?_
          refine r_sV1 dX6_hold_59 v_X6_117 (M_holds hl hT hz8 hN8) rfl (hT.ob) rfl rfl rfl (Nat.le_of_ble_eq_true rfl) ⟨(Nat.le_of_ble_eq_true rfl), (Nat.le_of_ble_eq_true rfl)⟩ ⟨(Nat.le_of_ble_eq_true rfl), (Nat.le_of_ble_eq_true rfl)⟩ (fun h1 hP => ?_)
          have hT := hT.trans hP
          exact r_iret dX6_hold_62 rfl ⟨(Nat.le_of_ble_eq_true rfl), (Nat.le_of_ble_eq_true rfl)⟩ ⟨rfl, hT⟩
        · exact absurd (show (0 : Int32) ≤ 0 by decide) c46
    · first | exact absurd (by assumption) (tp_b_0.mp c17) | exact absurd (by assumption) (tp_b_0.mp (Classical.not_not.mp c17)) | exact absurd (tp_b_n c17) (by assumption) | exact absurd (by assumption) c17 | exact absurd c17 (by assumption)
  · first | exact absurd (by assumption) (tp_b_0.mp c6) | exact absurd (by assumption) (tp_b_0.mp (Classical.not_not.mp c6)) | exact absurd (tp_b_n c6) (by assumption) | exact absurd (by assumption) c6 | exact absurd c6 (by assumption)

set_option maxRecDepth 100000 in
set_option maxHeartbeats 4000000 in
theorem Q_hold_1 {l : Launch} {G : tp_G} {y : Nat} {h0 h : tp_H} {z hi tx pa : Nat → Int32} {st len thr rd nu du : Int32} {hs : Int64} (hl : l.stackTraces = false) (hT0 : mm_S G y h0 z hi tx pa st len thr rd nu du hs h) {w c a : Int32} (hbad : ¬ ((0 ≤ w ∧ w ≤ 3) ∧ (0 ≤ c ∧ c ≤ 3))) : tp_Met l G mX6_hold 0 0 [.ref y, .int w, .int c, .int a] h (tp_PS (some (.int 0)) (fun h1 => mm_S G y h z hi tx pa st len 1 rd nu du hs h1)) tp_NX := by
  have hT := hT0.self
  refine tp_start (L0 := [some (.ref y), some (.int w), some (.int c), some (.int a)]) (by decide) rfl hl (Nat.le_of_ble_eq_true rfl) rfl ?_
  refine r_aload0 dX6_hold_0 ?_
  refine r_iload1 dX6_hold_1 ?_
  refine r_iload2 dX6_hold_2 ?_
  refine r_pS dX6_hold_3 v_X6_40 (M_isPurse hl) rfl rfl rfl (Nat.le_of_ble_eq_true rfl) ⟨(Nat.le_of_ble_eq_true rfl), (Nat.le_of_ble_eq_true rfl)⟩ ⟨(Nat.le_of_ble_eq_true rfl), (Nat.le_of_ble_eq_true rfl)⟩ ?_
  refine r_if_ne (tgt := 13) dX6_hold_6 (by decide) (fun c6 => ?_) (fun c6 => ?_)
  · first | exact absurd (by assumption) (tp_b_0.mp c6) | exact absurd (by assumption) (tp_b_0.mp (Classical.not_not.mp c6)) | exact absurd (tp_b_n c6) (by assumption) | exact absurd (by assumption) c6 | exact absurd c6 (by assumption)
  · refine r_iconst (v := 1) dX6_hold_9 (by decide) ?_
    refine r_goto (tgt := 39) dX6_hold_10 (by decide) ?_
    refine mm_put_thr dX6_hold_39 rfl hT (fun h1 hT => ?_)
    refine r_aload0 dX6_hold_42 ?_
    refine r_getf dX6_hold_43 f_X6_22 (hT.ob) rfl ?_
    refine r_if_le (tgt := 51) dX6_hold_46 (by decide) (fun c46 => ?_) (fun c46 => ?_)
    · exact absurd c46 (by decide)
    · refine r_iconst (v := 0) dX6_hold_49 (by decide) ?_
      exact r_iret dX6_hold_50 rfl ⟨(Nat.le_of_ble_eq_true rfl), (Nat.le_of_ble_eq_true rfl)⟩ ⟨rfl, hT⟩

set_option maxRecDepth 100000 in
set_option maxHeartbeats 4000000 in
theorem Q_hold_2 {l : Launch} {G : tp_G} {y : Nat} {h0 h : tp_H} {z hi tx pa : Nat → Int32} {st len thr rd nu du : Int32} {hs : Int64} (hl : l.stackTraces = false) (hT0 : mm_S G y h0 z hi tx pa st len thr rd nu du hs h) {w c : Nat} {a : Int32} (hw : w < 4) (hc : c < 4) (hbad : ¬ (1 ≤ a ∧ a ≤ 99999)) : tp_Met l G mX6_hold 0 0 [.ref y, .int (nI w), .int (nI c), .int a] h (tp_PS (some (.int 0)) (fun h1 => mm_S G y h z hi tx pa st len 2 rd nu du hs h1)) tp_NX := by
  have hT := hT0.self
  have hp : (0 ≤ nI w ∧ nI w ≤ 3) ∧ (0 ≤ nI c ∧ nI c ≤ 3) := ⟨tp_in4 hw, tp_in4 hc⟩
  refine tp_start (L0 := [some (.ref y), some (.int (nI w)), some (.int (nI c)), some (.int a)]) (by decide) rfl hl (Nat.le_of_ble_eq_true rfl) rfl ?_
  refine r_aload0 dX6_hold_0 ?_
  refine r_iload1 dX6_hold_1 ?_
  refine r_iload2 dX6_hold_2 ?_
  refine r_pS dX6_hold_3 v_X6_40 (M_isPurse hl) rfl rfl rfl (Nat.le_of_ble_eq_true rfl) ⟨(Nat.le_of_ble_eq_true rfl), (Nat.le_of_ble_eq_true rfl)⟩ ⟨(Nat.le_of_ble_eq_true rfl), (Nat.le_of_ble_eq_true rfl)⟩ ?_
  refine r_if_ne (tgt := 13) dX6_hold_6 (by decide) (fun c6 => ?_) (fun c6 => ?_)
  · refine r_iload3 dX6_hold_13 ?_
    refine r_pS dX6_hold_14 v_X6_62 (M_isMoney hl) rfl rfl rfl (Nat.le_of_ble_eq_true rfl) ⟨(Nat.le_of_ble_eq_true rfl), (Nat.le_of_ble_eq_true rfl)⟩ ⟨(Nat.le_of_ble_eq_true rfl), (Nat.le_of_ble_eq_true rfl)⟩ ?_
    refine r_if_ne (tgt := 24) dX6_hold_17 (by decide) (fun c17 => ?_) (fun c17 => ?_)
    · first | exact absurd (by assumption) (tp_b_0.mp c17) | exact absurd (by assumption) (tp_b_0.mp (Classical.not_not.mp c17)) | exact absurd (tp_b_n c17) (by assumption) | exact absurd (by assumption) c17 | exact absurd c17 (by assumption)
    · refine r_iconst (v := 2) dX6_hold_20 (by decide) ?_
      refine r_goto (tgt := 39) dX6_hold_21 (by decide) ?_
      refine mm_put_thr dX6_hold_39 rfl hT (fun h1 hT => ?_)
      refine r_aload0 dX6_hold_42 ?_
      refine r_getf dX6_hold_43 f_X6_22 (hT.ob) rfl ?_
      refine r_if_le (tgt := 51) dX6_hold_46 (by decide) (fun c46 => ?_) (fun c46 => ?_)
      · exact absurd c46 (by decide)
      · refine r_iconst (v := 0) dX6_hold_49 (by decide) ?_
        exact r_iret dX6_hold_50 rfl ⟨(Nat.le_of_ble_eq_true rfl), (Nat.le_of_ble_eq_true rfl)⟩ ⟨rfl, hT⟩
  · first | exact absurd (by assumption) (tp_b_0.mp c6) | exact absurd (by assumption) (tp_b_0.mp (Classical.not_not.mp c6)) | exact absurd (tp_b_n c6) (by assumption) | exact absurd (by assumption) c6 | exact absurd c6 (by assumption)

set_option maxRecDepth 100000 in
set_option maxHeartbeats 4000000 in
theorem Q_hold_3 {l : Launch} {G : tp_G} {y : Nat} {h0 h : tp_H} {z hi tx pa : Nat → Int32} {st len thr rd nu du : Int32} {hs : Int64} (hl : l.stackTraces = false) (hT0 : mm_S G y h0 z hi tx pa st len thr rd nu du hs h) {w c N : Nat} {a : Int32} (hz8 : z 8 = nI N) (hN : N ≤ 8) (hw : w < 4) (hc : c < 4) (ha : 1 ≤ a ∧ a ≤ 99999) (hm : ¬ z_whyHold z w c a = 0) : tp_Met l G mX6_hold 0 0 [.ref y, .int (nI w), .int (nI c), .int a] h (tp_PS (some (.int 0)) (fun h1 => mm_S G y h z hi tx pa st len 3 rd nu du hs h1)) tp_NX := by
  have hT := hT0.self
  have hp : (0 ≤ nI w ∧ nI w ≤ 3) ∧ (0 ≤ nI c ∧ nI c ≤ 3) := ⟨tp_in4 hw, tp_in4 hc⟩
  refine tp_start (L0 := [some (.ref y), some (.int (nI w)), some (.int (nI c)), some (.int a)]) (by decide) rfl hl (Nat.le_of_ble_eq_true rfl) rfl ?_
  refine r_aload0 dX6_hold_0 ?_
  refine r_iload1 dX6_hold_1 ?_
  refine r_iload2 dX6_hold_2 ?_
  refine r_pS dX6_hold_3 v_X6_40 (M_isPurse hl) rfl rfl rfl (Nat.le_of_ble_eq_true rfl) ⟨(Nat.le_of_ble_eq_true rfl), (Nat.le_of_ble_eq_true rfl)⟩ ⟨(Nat.le_of_ble_eq_true rfl), (Nat.le_of_ble_eq_true rfl)⟩ ?_
  refine r_if_ne (tgt := 13) dX6_hold_6 (by decide) (fun c6 => ?_) (fun c6 => ?_)
  · refine r_iload3 dX6_hold_13 ?_
    refine r_pS dX6_hold_14 v_X6_62 (M_isMoney hl) rfl rfl rfl (Nat.le_of_ble_eq_true rfl) ⟨(Nat.le_of_ble_eq_true rfl), (Nat.le_of_ble_eq_true rfl)⟩ ⟨(Nat.le_of_ble_eq_true rfl), (Nat.le_of_ble_eq_true rfl)⟩ ?_
    refine r_if_ne (tgt := 24) dX6_hold_17 (by decide) (fun c17 => ?_) (fun c17 => ?_)
    · refine r_aload0 dX6_hold_24 ?_
      refine r_iload1 dX6_hold_25 ?_
      refine r_iload2 dX6_hold_26 ?_
      refine r_iload3 dX6_hold_27 ?_
      refine r_pV dX6_hold_28 v_X6_114 (M_whyNoHold hl hT hw hc hz8 hN) rfl (hT.ob) rfl rfl rfl (Nat.le_of_ble_eq_true rfl) ⟨(Nat.le_of_ble_eq_true rfl), (Nat.le_of_ble_eq_true rfl)⟩ ⟨(Nat.le_of_ble_eq_true rfl), (Nat.le_of_ble_eq_true rfl)⟩ ?_
      refine r_if_ne (tgt := 38) dX6_hold_31 (by decide) (fun c31 => ?_) (fun c31 => ?_)
      · refine r_iconst (v := 3) dX6_hold_38 (by decide) ?_
        refine mm_put_thr dX6_hold_39 rfl hT (fun h1 hT => ?_)
        refine r_aload0 dX6_hold_42 ?_
        refine r_getf dX6_hold_43 f_X6_22 (hT.ob) rfl ?_
        refine r_if_le (tgt := 51) dX6_hold_46 (by decide) (fun c46 => ?_) (fun c46 => ?_)
        · exact absurd c46 (by decide)
        · refine r_iconst (v := 0) dX6_hold_49 (by decide) ?_
          exact r_iret dX6_hold_50 rfl ⟨(Nat.le_of_ble_eq_true rfl), (Nat.le_of_ble_eq_true rfl)⟩ ⟨rfl, hT⟩
      · first | exact absurd (by assumption) (tp_b_0.mp c31) | exact absurd (by assumption) (tp_b_0.mp (Classical.not_not.mp c31)) | exact absurd (tp_b_n c31) (by assumption) | exact absurd (by assumption) c31 | exact absurd c31 (by assumption)
    · first | exact absurd (by assumption) (tp_b_0.mp c17) | exact absurd (by assumption) (tp_b_0.mp (Classical.not_not.mp c17)) | exact absurd (tp_b_n c17) (by assumption) | exact absurd (by assumption) c17 | exact absurd c17 (by assumption)
  · first | exact absurd (by assumption) (tp_b_0.mp c6) | exact absurd (by assumption) (tp_b_0.mp (Classical.not_not.mp c6)) | exact absurd (tp_b_n c6) (by assumption) | exact absurd (by assumption) c6 | exact absurd c6 (by assumption)

set_option maxRecDepth 100000 in
set_option maxHeartbeats 4000000 in
theorem Q_letGo {s : Nat} {l : Launch} {G : tp_G} {y : Nat} {h0 h : tp_H} {z hi tx pa : Nat → Int32} {len thr rd nu du : Int32} {hs : Int64} (hl : l.stackTraces = false) (hT0 : mm_S G y h0 z hi tx pa (nI s) len thr rd nu du hs h) (hs6 : s ≤ 6) {j N : Nat} (hz8 : z 8 = nI N) (hN : N ≤ 8) (hj : j < N) (hin : 0 ≤ nI j ∧ nI j ≤ z 8 - 1) : tp_Met l G mX6_letGo 0 0 [.ref y, .int (nI j)] h (tp_PS (some (.int (z (96 + 5 * j + 3)))) (fun h1 => mm_S G y h (z_drop z j) (z_saveH hi z s) tx pa (nI (z_saveN s)) len 0 rd nu du hs h1)) tp_NX := by
  have hT := hT0.self
  refine tp_start (L0 := [some (.ref y), some (.int (nI j)), none]) (by decide) rfl hl (Nat.le_of_ble_eq_true rfl) rfl ?_
  refine r_aload0 dX6_letGo_0 ?_
  refine r_aload0 dX6_letGo_1 ?_
  refine r_iload1 dX6_letGo_2 ?_
  refine r_pV dX6_letGo_3 v_X6_120 (M_isHold hl hT) rfl (hT.ob) rfl rfl rfl (Nat.le_of_ble_eq_true rfl) ⟨(Nat.le_of_ble_eq_true rfl), (Nat.le_of_ble_eq_true rfl)⟩ ⟨(Nat.le_of_ble_eq_true rfl), (Nat.le_of_ble_eq_true rfl)⟩ ?_
  refine r_if_eq (tgt := 13) dX6_letGo_6 (by decide) (fun c6 => ?_) (fun c6 => ?_)
  · first | exact absurd (by assumption) (tp_b_0.mp c6) | exact absurd (by assumption) (tp_b_0.mp (Classical.not_not.mp c6)) | exact absurd (tp_b_n c6) (by assumption) | exact absurd (by assumption) c6 | exact absurd c6 (by assumption)
  · refine r_iconst (v := 0) dX6_letGo_9 (by decide) ?_
    refine r_goto (tgt := 14) dX6_letGo_10 (by decide) ?_
    refine mm_put_thr dX6_letGo_14 rfl hT (fun h1 hT => ?_)
    refine r_aload0 dX6_letGo_17 ?_
    refine r_getf dX6_letGo_18 f_X6_22 (hT.ob) rfl ?_
    refine r_if_le (tgt := 26) dX6_letGo_21 (by decide) (fun c21 => ?_) (fun c21 => ?_)
    · refine r_aload0 dX6_letGo_26 ?_
      refine r_sV0 dX6_letGo_27 v_X6_68 (M_save hl hT hs6) rfl (hT.ob) rfl rfl rfl (Nat.le_of_ble_eq_true rfl) ⟨(Nat.le_of_ble_eq_true rfl), (Nat.le_of_ble_eq_true rfl)⟩ ⟨(Nat.le_of_ble_eq_true rfl), (Nat.le_of_ble_eq_true rfl)⟩ (fun h1 hP => ?_)
      have hT := hT.trans hP
      refine r_aload0 dX6_letGo_30 ?_
      refine r_iload1 dX6_letGo_31 ?_
      refine r_iconst (v := 3) dX6_letGo_32 (by decide) ?_
      refine r_pV dX6_letGo_33 v_X6_52 (M_ofHold (j := 3) hl hT (by omega) (by omega)) rfl (hT.ob) rfl rfl rfl (Nat.le_of_ble_eq_true rfl) ⟨(Nat.le_of_ble_eq_true rfl), (Nat.le_of_ble_eq_true rfl)⟩ ⟨(Nat.le_of_ble_eq_true rfl), (Nat.le_of_ble_eq_true rfl)⟩ ?_
      refine r_istore2 dX6_letGo_36 (Nat.le_of_ble_eq_true rfl) rfl ?_
      refine r_aload0 dX6_letGo_37 ?_
      refine r_iload1 dX6_letGo_38 ?_
      refine r_sV0 dX6_letGo_39 v_X6_123 (M_removeHold hl hT hz8 hN hj) rfl (hT.ob) rfl rfl rfl (Nat.le_of_ble_eq_true rfl) ⟨(Nat.le_of_ble_eq_true rfl), (Nat.le_of_ble_eq_true rfl)⟩ ⟨(Nat.le_of_ble_eq_true rfl), (Nat.le_of_ble_eq_true rfl)⟩ (fun h1 hP => ?_)
      have hT := hT.trans hP
      refine r_iload2 dX6_letGo_42 ?_
      exact r_iret dX6_letGo_43 rfl ⟨(Nat.le_of_ble_eq_true rfl), (Nat.le_of_ble_eq_true rfl)⟩ ⟨rfl, hT⟩
    · exact absurd (show (0 : Int32) ≤ 0 by decide) c21

set_option maxRecDepth 100000 in
set_option maxHeartbeats 4000000 in
theorem Q_letGo_1 {l : Launch} {G : tp_G} {y : Nat} {h0 h : tp_H} {z hi tx pa : Nat → Int32} {st len thr rd nu du : Int32} {hs : Int64} (hl : l.stackTraces = false) (hT0 : mm_S G y h0 z hi tx pa st len thr rd nu du hs h) {v : Int32} (hbad : ¬ (0 ≤ v ∧ v ≤ z 8 - 1)) : tp_Met l G mX6_letGo 0 0 [.ref y, .int v] h (tp_PS (some (.int 0)) (fun h1 => mm_S G y h z hi tx pa st len 1 rd nu du hs h1)) tp_NX := by
  have hT := hT0.self
  refine tp_start (L0 := [some (.ref y), some (.int v), none]) (by decide) rfl hl (Nat.le_of_ble_eq_true rfl) rfl ?_
  refine r_aload0 dX6_letGo_0 ?_
  refine r_aload0 dX6_letGo_1 ?_
  refine r_iload1 dX6_letGo_2 ?_
  refine r_pV dX6_letGo_3 v_X6_120 (M_isHold hl hT) rfl (hT.ob) rfl rfl rfl (Nat.le_of_ble_eq_true rfl) ⟨(Nat.le_of_ble_eq_true rfl), (Nat.le_of_ble_eq_true rfl)⟩ ⟨(Nat.le_of_ble_eq_true rfl), (Nat.le_of_ble_eq_true rfl)⟩ ?_
  refine r_if_eq (tgt := 13) dX6_letGo_6 (by decide) (fun c6 => ?_) (fun c6 => ?_)
  · refine r_iconst (v := 1) dX6_letGo_13 (by decide) ?_
    refine mm_put_thr dX6_letGo_14 rfl hT (fun h1 hT => ?_)
    refine r_aload0 dX6_letGo_17 ?_
    refine r_getf dX6_letGo_18 f_X6_22 (hT.ob) rfl ?_
    refine r_if_le (tgt := 26) dX6_letGo_21 (by decide) (fun c21 => ?_) (fun c21 => ?_)
    · exact absurd c21 (by decide)
    · refine r_iconst (v := 0) dX6_letGo_24 (by decide) ?_
      exact r_iret dX6_letGo_25 rfl ⟨(Nat.le_of_ble_eq_true rfl), (Nat.le_of_ble_eq_true rfl)⟩ ⟨rfl, hT⟩
  · first | exact absurd (by assumption) (tp_b_0.mp c6) | exact absurd (by assumption) (tp_b_0.mp (Classical.not_not.mp c6)) | exact absurd (tp_b_n c6) (by assumption) | exact absurd (by assumption) c6 | exact absurd c6 (by assumption)

set_option maxRecDepth 100000 in
set_option maxHeartbeats 4000000 in
theorem Q_close {s : Nat} {l : Launch} {G : tp_G} {y : Nat} {h0 h : tp_H} {z hi tx pa : Nat → Int32} {len thr rd nu du : Int32} {hs : Int64} (hl : l.stackTraces = false) (hT0 : mm_S G y h0 z hi tx pa (nI s) len thr rd nu du hs h) (hs6 : s ≤ 6) {w N P : Nat} (hw : w < 4) (hz8 : z 8 = nI N) (hN : N ≤ 8) (hz9 : z 9 = nI P) (hP9 : P ≤ 12) (hm : z_whyClose z w = 0) : tp_Met l G mX6_close 0 0 [.ref y, .int (nI w)] h (tp_PS (some (.int (z_close3 z w (z_at w 0)))) (fun h1 => mm_S G y h (z_closes z w) (z_saveH hi z s) tx pa (nI (z_saveN s)) len 0 rd nu du hs h1)) tp_NX := by
  have hT := hT0.self
  have hw4 := tp_in4 hw
  refine tp_start (L0 := [some (.ref y), some (.int (nI w))]) (by decide) rfl hl (Nat.le_of_ble_eq_true rfl) rfl ?_
  refine r_aload0 dX6_close_0 ?_
  refine r_iload1 dX6_close_1 ?_
  refine r_pS dX6_close_2 v_X6_33 (M_isWallet hl) rfl rfl rfl (Nat.le_of_ble_eq_true rfl) ⟨(Nat.le_of_ble_eq_true rfl), (Nat.le_of_ble_eq_true rfl)⟩ ⟨(Nat.le_of_ble_eq_true rfl), (Nat.le_of_ble_eq_true rfl)⟩ ?_
  refine r_if_ne (tgt := 12) dX6_close_5 (by decide) (fun c5 => ?_) (fun c5 => ?_)
  · refine r_aload0 dX6_close_12 ?_
    refine r_iload1 dX6_close_13 ?_
    refine r_pV dX6_close_14 v_X6_148 (M_whyNoClosing hl hT hw hz8 hN hz9 hP9) rfl (hT.ob) rfl rfl rfl (Nat.le_of_ble_eq_true rfl) ⟨(Nat.le_of_ble_eq_true rfl), (Nat.le_of_ble_eq_true rfl)⟩ ⟨(Nat.le_of_ble_eq_true rfl), (Nat.le_of_ble_eq_true rfl)⟩ ?_
    refine r_if_ne (tgt := 24) dX6_close_17 (by decide) (fun c17 => ?_) (fun c17 => ?_)
    · first | exact absurd (by assumption) (tp_b_0.mp c17) | exact absurd (by assumption) (tp_b_0.mp (Classical.not_not.mp c17)) | exact absurd (tp_b_n c17) (by assumption) | exact absurd (by assumption) c17 | exact absurd c17 (by assumption)
    · refine r_iconst (v := 0) dX6_close_20 (by decide) ?_
      refine r_goto (tgt := 25) dX6_close_21 (by decide) ?_
      refine mm_put_thr dX6_close_25 rfl hT (fun h1 hT => ?_)
      refine r_aload0 dX6_close_28 ?_
      refine r_getf dX6_close_29 f_X6_22 (hT.ob) rfl ?_
      refine r_if_le (tgt := 37) dX6_close_32 (by decide) (fun c32 => ?_) (fun c32 => ?_)
      · refine r_aload0 dX6_close_37 ?_
        refine r_sV0 dX6_close_38 v_X6_68 (M_save hl hT hs6) rfl (hT.ob) rfl rfl rfl (Nat.le_of_ble_eq_true rfl) ⟨(Nat.le_of_ble_eq_true rfl), (Nat.le_of_ble_eq_true rfl)⟩ ⟨(Nat.le_of_ble_eq_true rfl), (Nat.le_of_ble_eq_true rfl)⟩ (fun h1 hP => ?_)
        have hT := hT.trans hP
        refine r_aload0 dX6_close_41 ?_
        refine r_iload1 dX6_close_42 ?_
        refine r_sV1 dX6_close_43 v_X6_151 (M_closes hl hT hw) rfl (hT.ob) rfl rfl rfl (Nat.le_of_ble_eq_true rfl) ⟨(Nat.le_of_ble_eq_true rfl), (Nat.le_of_ble_eq_true rfl)⟩ ⟨(Nat.le_of_ble_eq_true rfl), (Nat.le_of_ble_eq_true rfl)⟩ (fun h1 hP => ?_)
        have hT := hT.trans hP
        exact r_iret dX6_close_46 rfl ⟨(Nat.le_of_ble_eq_true rfl), (Nat.le_of_ble_eq_true rfl)⟩ ⟨rfl, hT⟩
      · exact absurd (show (0 : Int32) ≤ 0 by decide) c32
  · first | exact absurd (by assumption) (tp_b_0.mp c5) | exact absurd (by assumption) (tp_b_0.mp (Classical.not_not.mp c5)) | exact absurd (tp_b_n c5) (by assumption) | exact absurd (by assumption) c5 | exact absurd c5 (by assumption)

set_option maxRecDepth 100000 in
set_option maxHeartbeats 4000000 in
theorem Q_close_1 {l : Launch} {G : tp_G} {y : Nat} {h0 h : tp_H} {z hi tx pa : Nat → Int32} {st len thr rd nu du : Int32} {hs : Int64} (hl : l.stackTraces = false) (hT0 : mm_S G y h0 z hi tx pa st len thr rd nu du hs h) {w : Int32} (hbad : ¬ (0 ≤ w ∧ w ≤ 3)) : tp_Met l G mX6_close 0 0 [.ref y, .int w] h (tp_PS (some (.int 0)) (fun h1 => mm_S G y h z hi tx pa st len 1 rd nu du hs h1)) tp_NX := by
  have hT := hT0.self
  refine tp_start (L0 := [some (.ref y), some (.int w)]) (by decide) rfl hl (Nat.le_of_ble_eq_true rfl) rfl ?_
  refine r_aload0 dX6_close_0 ?_
  refine r_iload1 dX6_close_1 ?_
  refine r_pS dX6_close_2 v_X6_33 (M_isWallet hl) rfl rfl rfl (Nat.le_of_ble_eq_true rfl) ⟨(Nat.le_of_ble_eq_true rfl), (Nat.le_of_ble_eq_true rfl)⟩ ⟨(Nat.le_of_ble_eq_true rfl), (Nat.le_of_ble_eq_true rfl)⟩ ?_
  refine r_if_ne (tgt := 12) dX6_close_5 (by decide) (fun c5 => ?_) (fun c5 => ?_)
  · first | exact absurd (by assumption) (tp_b_0.mp c5) | exact absurd (by assumption) (tp_b_0.mp (Classical.not_not.mp c5)) | exact absurd (tp_b_n c5) (by assumption) | exact absurd (by assumption) c5 | exact absurd c5 (by assumption)
  · refine r_iconst (v := 1) dX6_close_8 (by decide) ?_
    refine r_goto (tgt := 25) dX6_close_9 (by decide) ?_
    refine mm_put_thr dX6_close_25 rfl hT (fun h1 hT => ?_)
    refine r_aload0 dX6_close_28 ?_
    refine r_getf dX6_close_29 f_X6_22 (hT.ob) rfl ?_
    refine r_if_le (tgt := 37) dX6_close_32 (by decide) (fun c32 => ?_) (fun c32 => ?_)
    · exact absurd c32 (by decide)
    · refine r_iconst (v := 0) dX6_close_35 (by decide) ?_
      exact r_iret dX6_close_36 rfl ⟨(Nat.le_of_ble_eq_true rfl), (Nat.le_of_ble_eq_true rfl)⟩ ⟨rfl, hT⟩

set_option maxRecDepth 100000 in
set_option maxHeartbeats 4000000 in
theorem Q_close_2 {l : Launch} {G : tp_G} {y : Nat} {h0 h : tp_H} {z hi tx pa : Nat → Int32} {st len thr rd nu du : Int32} {hs : Int64} (hl : l.stackTraces = false) (hT0 : mm_S G y h0 z hi tx pa st len thr rd nu du hs h) {w N P : Nat} (hw : w < 4) (hz8 : z 8 = nI N) (hN : N ≤ 8) (hz9 : z 9 = nI P) (hP9 : P ≤ 12) (hm : ¬ z_whyClose z w = 0) : tp_Met l G mX6_close 0 0 [.ref y, .int (nI w)] h (tp_PS (some (.int 0)) (fun h1 => mm_S G y h z hi tx pa st len 2 rd nu du hs h1)) tp_NX := by
  have hT := hT0.self
  have hw4 := tp_in4 hw
  refine tp_start (L0 := [some (.ref y), some (.int (nI w))]) (by decide) rfl hl (Nat.le_of_ble_eq_true rfl) rfl ?_
  refine r_aload0 dX6_close_0 ?_
  refine r_iload1 dX6_close_1 ?_
  refine r_pS dX6_close_2 v_X6_33 (M_isWallet hl) rfl rfl rfl (Nat.le_of_ble_eq_true rfl) ⟨(Nat.le_of_ble_eq_true rfl), (Nat.le_of_ble_eq_true rfl)⟩ ⟨(Nat.le_of_ble_eq_true rfl), (Nat.le_of_ble_eq_true rfl)⟩ ?_
  refine r_if_ne (tgt := 12) dX6_close_5 (by decide) (fun c5 => ?_) (fun c5 => ?_)
  · refine r_aload0 dX6_close_12 ?_
    refine r_iload1 dX6_close_13 ?_
    refine r_pV dX6_close_14 v_X6_148 (M_whyNoClosing hl hT hw hz8 hN hz9 hP9) rfl (hT.ob) rfl rfl rfl (Nat.le_of_ble_eq_true rfl) ⟨(Nat.le_of_ble_eq_true rfl), (Nat.le_of_ble_eq_true rfl)⟩ ⟨(Nat.le_of_ble_eq_true rfl), (Nat.le_of_ble_eq_true rfl)⟩ ?_
    refine r_if_ne (tgt := 24) dX6_close_17 (by decide) (fun c17 => ?_) (fun c17 => ?_)
    · refine r_iconst (v := 2) dX6_close_24 (by decide) ?_
      refine mm_put_thr dX6_close_25 rfl hT (fun h1 hT => ?_)
      refine r_aload0 dX6_close_28 ?_
      refine r_getf dX6_close_29 f_X6_22 (hT.ob) rfl ?_
      refine r_if_le (tgt := 37) dX6_close_32 (by decide) (fun c32 => ?_) (fun c32 => ?_)
      · exact absurd c32 (by decide)
      · refine r_iconst (v := 0) dX6_close_35 (by decide) ?_
        exact r_iret dX6_close_36 rfl ⟨(Nat.le_of_ble_eq_true rfl), (Nat.le_of_ble_eq_true rfl)⟩ ⟨rfl, hT⟩
    · first | exact absurd (by assumption) (tp_b_0.mp c17) | exact absurd (by assumption) (tp_b_0.mp (Classical.not_not.mp c17)) | exact absurd (tp_b_n c17) (by assumption) | exact absurd (by assumption) c17 | exact absurd c17 (by assumption)
  · first | exact absurd (by assumption) (tp_b_0.mp c5) | exact absurd (by assumption) (tp_b_0.mp (Classical.not_not.mp c5)) | exact absurd (tp_b_n c5) (by assumption) | exact absurd (by assumption) c5 | exact absurd c5 (by assumption)

