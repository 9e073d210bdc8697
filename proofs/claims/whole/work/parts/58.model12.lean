set_option maxRecDepth 100000 in
set_option maxHeartbeats 4000000 in
theorem Q_quote {s : Nat} {l : Launch} {G : tp_G} {y : Nat} {h0 h : tp_H} {z hi tx pa : Nat → Int32} {len thr rd nu du : Int32} {hs : Int64} (hl : l.stackTraces = false) (hT0 : mm_S G y h0 z hi tx pa (nI s) len thr rd nu du hs h) (hs6 : s ≤ 6) {c : Nat} {r : Int32} (hc : c < 4) (hc1 : 1 ≤ nI c ∧ nI c ≤ 3) (hr : 100 ≤ r ∧ r ≤ 2000) : tp_Met l G mX6_quote 0 0 [.ref y, .int (nI c), .int r] h (tp_PS (some (.int (z (4 + c)))) (fun h1 => mm_S G y h (va_up z (4 + c) r) (z_saveH hi z s) tx pa (nI (z_saveN s)) len 0 rd nu du hs h1)) tp_NX := by
  have hT := hT0.self
  refine tp_start (L0 := [some (.ref y), some (.int (nI c)), some (.int r), none]) (by decide) rfl hl (Nat.le_of_ble_eq_true rfl) rfl ?_
  refine r_aload0 dX6_quote_0 ?_
  refine r_iload1 dX6_quote_1 ?_
  refine r_iconst (v := 1) dX6_quote_2 (by decide) ?_
  refine r_iconst (v := 3) dX6_quote_3 (by decide) ?_
  refine r_pS dX6_quote_4 v_X6_29 (M_within hl) rfl rfl rfl (Nat.le_of_ble_eq_true rfl) ⟨(Nat.le_of_ble_eq_true rfl), (Nat.le_of_ble_eq_true rfl)⟩ ⟨(Nat.le_of_ble_eq_true rfl), (Nat.le_of_ble_eq_true rfl)⟩ ?_
  refine r_if_ne (tgt := 14) dX6_quote_7 (by decide) (fun c7 => ?_) (fun c7 => ?_)
  · refine r_iload2 dX6_quote_14 ?_
    refine r_bipush (v := 100) dX6_quote_15 (by decide) ?_
    refine r_sipush (v := 2000) dX6_quote_17 (by decide) ?_
    refine r_pS dX6_quote_20 v_X6_29 (M_within hl) rfl rfl rfl (Nat.le_of_ble_eq_true rfl) ⟨(Nat.le_of_ble_eq_true rfl), (Nat.le_of_ble_eq_true rfl)⟩ ⟨(Nat.le_of_ble_eq_true rfl), (Nat.le_of_ble_eq_true rfl)⟩ ?_
    refine r_if_eq (tgt := 30) dX6_quote_23 (by decide) (fun c23 => ?_) (fun c23 => ?_)
    · first | exact absurd (by assumption) (tp_b_0.mp c23) | exact absurd (by assumption) (tp_b_0.mp (Classical.not_not.mp c23)) | exact absurd (tp_b_n c23) (by assumption) | exact absurd (by assumption) c23 | exact absurd c23 (by assumption)
    · refine r_iconst (v := 0) dX6_quote_26 (by decide) ?_
      refine r_goto (tgt := 31) dX6_quote_27 (by decide) ?_
      refine mm_put_thr dX6_quote_31 rfl hT (fun h1 hT => ?_)
      refine r_aload0 dX6_quote_34 ?_
      refine r_getf dX6_quote_35 f_X6_22 (hT.ob) rfl ?_
      refine r_if_le (tgt := 43) dX6_quote_38 (by decide) (fun c38 => ?_) (fun c38 => ?_)
      · refine r_aload0 dX6_quote_43 ?_
        refine r_sV0 dX6_quote_44 v_X6_68 (M_save hl hT hs6) rfl (hT.ob) rfl rfl rfl (Nat.le_of_ble_eq_true rfl) ⟨(Nat.le_of_ble_eq_true rfl), (Nat.le_of_ble_eq_true rfl)⟩ ⟨(Nat.le_of_ble_eq_true rfl), (Nat.le_of_ble_eq_true rfl)⟩ (fun h1 hP => ?_)
        have hT := hT.trans hP
        refine r_aload0 dX6_quote_47 ?_
        refine r_getf dX6_quote_48 f_X6_7 (hT.ob) rfl ?_
        refine r_iconst (v := 4) dX6_quote_51 (by decide) ?_
        refine r_iload1 dX6_quote_52 ?_
        refine r_iadd dX6_quote_53 ?_
        refine r_iald dX6_quote_54 hT.rz (i := (4 + c)) (tp_add 4 c) (by omega) (by decide) ?_
        refine r_istore3 dX6_quote_55 (Nat.le_of_ble_eq_true rfl) rfl ?_
        refine r_aload0 dX6_quote_56 ?_
        refine r_getf dX6_quote_57 f_X6_7 (hT.ob) rfl ?_
        refine r_iconst (v := 4) dX6_quote_60 (by decide) ?_
        refine r_iload1 dX6_quote_61 ?_
        refine r_iadd dX6_quote_62 ?_
        refine r_iload2 dX6_quote_63 ?_
        refine mm_st_z dX6_quote_64 hT (i := (4 + c)) (tp_add 4 c) (by omega) (fun h1 hT => ?_)
        refine r_iload3 dX6_quote_65 ?_
        exact r_iret dX6_quote_66 rfl ⟨(Nat.le_of_ble_eq_true rfl), (Nat.le_of_ble_eq_true rfl)⟩ ⟨rfl, hT⟩
      · exact absurd (show (0 : Int32) ≤ 0 by decide) c38
  · first | exact absurd (by assumption) (tp_b_0.mp c7) | exact absurd (by assumption) (tp_b_0.mp (Classical.not_not.mp c7)) | exact absurd (tp_b_n c7) (by assumption) | exact absurd (by assumption) c7 | exact absurd c7 (by assumption)

set_option maxRecDepth 100000 in
set_option maxHeartbeats 4000000 in
theorem Q_quote_1 {l : Launch} {G : tp_G} {y : Nat} {h0 h : tp_H} {z hi tx pa : Nat → Int32} {st len thr rd nu du : Int32} {hs : Int64} (hl : l.stackTraces = false) (hT0 : mm_S G y h0 z hi tx pa st len thr rd nu du hs h) {c r : Int32} (hbad : ¬ (1 ≤ c ∧ c ≤ 3)) : tp_Met l G mX6_quote 0 0 [.ref y, .int c, .int r] h (tp_PS (some (.int 0)) (fun h1 => mm_S G y h z hi tx pa st len 1 rd nu du hs h1)) tp_NX := by
  have hT := hT0.self
  refine tp_start (L0 := [some (.ref y), some (.int c), some (.int r), none]) (by decide) rfl hl (Nat.le_of_ble_eq_true rfl) rfl ?_
  refine r_aload0 dX6_quote_0 ?_
  refine r_iload1 dX6_quote_1 ?_
  refine r_iconst (v := 1) dX6_quote_2 (by decide) ?_
  refine r_iconst (v := 3) dX6_quote_3 (by decide) ?_
  refine r_pS dX6_quote_4 v_X6_29 (M_within hl) rfl rfl rfl (Nat.le_of_ble_eq_true rfl) ⟨(Nat.le_of_ble_eq_true rfl), (Nat.le_of_ble_eq_true rfl)⟩ ⟨(Nat.le_of_ble_eq_true rfl), (Nat.le_of_ble_eq_true rfl)⟩ ?_
  refine r_if_ne (tgt := 14) dX6_quote_7 (by decide) (fun c7 => ?_) (fun c7 => ?_)
  · first | exact absurd (by assumption) (tp_b_0.mp c7) | exact absurd (by assumption) (tp_b_0.mp (Classical.not_not.mp c7)) | exact absurd (tp_b_n c7) (by assumption) | exact absurd (by assumption) c7 | exact absurd c7 (by assumption)
  · refine r_iconst (v := 1) dX6_quote_10 (by decide) ?_
    refine r_goto (tgt := 31) dX6_quote_11 (by decide) ?_
    refine mm_put_thr dX6_quote_31 rfl hT (fun h1 hT => ?_)
    refine r_aload0 dX6_quote_34 ?_
    refine r_getf dX6_quote_35 f_X6_22 (hT.ob) rfl ?_
    refine r_if_le (tgt := 43) dX6_quote_38 (by decide) (fun c38 => ?_) (fun c38 => ?_)
    · exact absurd c38 (by decide)
    · refine r_iconst (v := 0) dX6_quote_41 (by decide) ?_
      exact r_iret dX6_quote_42 rfl ⟨(Nat.le_of_ble_eq_true rfl), (Nat.le_of_ble_eq_true rfl)⟩ ⟨rfl, hT⟩

set_option maxRecDepth 100000 in
set_option maxHeartbeats 4000000 in
theorem Q_quote_2 {l : Launch} {G : tp_G} {y : Nat} {h0 h : tp_H} {z hi tx pa : Nat → Int32} {st len thr rd nu du : Int32} {hs : Int64} (hl : l.stackTraces = false) (hT0 : mm_S G y h0 z hi tx pa st len thr rd nu du hs h) {c r : Int32} (hc1 : 1 ≤ c ∧ c ≤ 3) (hbad : ¬ (100 ≤ r ∧ r ≤ 2000)) : tp_Met l G mX6_quote 0 0 [.ref y, .int c, .int r] h (tp_PS (some (.int 0)) (fun h1 => mm_S G y h z hi tx pa st len 2 rd nu du hs h1)) tp_NX := by
  have hT := hT0.self
  refine tp_start (L0 := [some (.ref y), some (.int c), some (.int r), none]) (by decide) rfl hl (Nat.le_of_ble_eq_true rfl) rfl ?_
  refine r_aload0 dX6_quote_0 ?_
  refine r_iload1 dX6_quote_1 ?_
  refine r_iconst (v := 1) dX6_quote_2 (by decide) ?_
  refine r_iconst (v := 3) dX6_quote_3 (by decide) ?_
  refine r_pS dX6_quote_4 v_X6_29 (M_within hl) rfl rfl rfl (Nat.le_of_ble_eq_true rfl) ⟨(Nat.le_of_ble_eq_true rfl), (Nat.le_of_ble_eq_true rfl)⟩ ⟨(Nat.le_of_ble_eq_true rfl), (Nat.le_of_ble_eq_true rfl)⟩ ?_
  refine r_if_ne (tgt := 14) dX6_quote_7 (by decide) (fun c7 => ?_) (fun c7 => ?_)
  · refine r_iload2 dX6_quote_14 ?_
    refine r_bipush (v := 100) dX6_quote_15 (by decide) ?_
    refine r_sipush (v := 2000) dX6_quote_17 (by decide) ?_
    refine r_pS dX6_quote_20 v_X6_29 (M_within hl) rfl rfl rfl (Nat.le_of_ble_eq_true rfl) ⟨(Nat.le_of_ble_eq_true rfl), (Nat.le_of_ble_eq_true rfl)⟩ ⟨(Nat.le_of_ble_eq_true rfl), (Nat.le_of_ble_eq_true rfl)⟩ ?_
    refine r_if_eq (tgt := 30) dX6_quote_23 (by decide) (fun c23 => ?_) (fun c23 => ?_)
    · refine r_iconst (v := 2) dX6_quote_30 (by decide) ?_
      refine mm_put_thr dX6_quote_31 rfl hT (fun h1 hT => ?_)
      refine r_aload0 dX6_quote_34 ?_
      refine r_getf dX6_quote_35 f_X6_22 (hT.ob) rfl ?_
      refine r_if_le (tgt := 43) dX6_quote_38 (by decide) (fun c38 => ?_) (fun c38 => ?_)
      · exact absurd c38 (by decide)
      · refine r_iconst (v := 0) dX6_quote_41 (by decide) ?_
        exact r_iret dX6_quote_42 rfl ⟨(Nat.le_of_ble_eq_true rfl), (Nat.le_of_ble_eq_true rfl)⟩ ⟨rfl, hT⟩
    · first | exact absurd (by assumption) (tp_b_0.mp c23) | exact absurd (by assumption) (tp_b_0.mp (Classical.not_not.mp c23)) | exact absurd (tp_b_n c23) (by assumption) | exact absurd (by assumption) c23 | exact absurd c23 (by assumption)
  · first | exact absurd (by assumption) (tp_b_0.mp c7) | exact absurd (by assumption) (tp_b_0.mp (Classical.not_not.mp c7)) | exact absurd (tp_b_n c7) (by assumption) | exact absurd (by assumption) c7 | exact absurd c7 (by assumption)

set_option maxRecDepth 100000 in
set_option maxHeartbeats 4000000 in
theorem Q_lock {s : Nat} {l : Launch} {G : tp_G} {y : Nat} {h0 h : tp_H} {z hi tx pa : Nat → Int32} {len thr rd nu du : Int32} {hs : Int64} (hl : l.stackTraces = false) (hT0 : mm_S G y h0 z hi tx pa (nI s) len thr rd nu du hs h) (hs6 : s ≤ 6) {w c : Nat} (hw : w < 4) (hc : c < 4) (hp : ((0 ≤ nI w ∧ nI w ≤ 3) ∧ (0 ≤ nI c ∧ nI c ≤ 3)) ∧ 0 < nI c) : tp_Met l G mX6_lock 0 0 [.ref y, .int (nI w), .int (nI c)] h (tp_PS (some (.int (z 4 + z 0))) (fun h1 => mm_S G y h (va_up (va_up z (z_at w c + 2) (z (4 + c))) (z_at w c + 3) (z 4 + z 0)) (z_saveH hi z s) tx pa (nI (z_saveN s)) len 0 rd nu du hs h1)) tp_NX := by
  have hT := hT0.self
  refine tp_start (L0 := [some (.ref y), some (.int (nI w)), some (.int (nI c))]) (by decide) rfl hl (Nat.le_of_ble_eq_true rfl) rfl ?_
  refine r_aload0 dX6_lock_0 ?_
  refine r_iload1 dX6_lock_1 ?_
  refine r_iload2 dX6_lock_2 ?_
  refine r_pS dX6_lock_3 v_X6_83 (M_isForeign hl) rfl rfl rfl (Nat.le_of_ble_eq_true rfl) ⟨(Nat.le_of_ble_eq_true rfl), (Nat.le_of_ble_eq_true rfl)⟩ ⟨(Nat.le_of_ble_eq_true rfl), (Nat.le_of_ble_eq_true rfl)⟩ ?_
  refine r_if_eq (tgt := 13) dX6_lock_6 (by decide) (fun c6 => ?_) (fun c6 => ?_)
  · first | exact absurd (by assumption) (tp_b_0.mp c6) | exact absurd (by assumption) (tp_b_0.mp (Classical.not_not.mp c6)) | exact absurd (tp_b_n c6) (by assumption) | exact absurd (by assumption) c6 | exact absurd c6 (by assumption)
  · refine r_iconst (v := 0) dX6_lock_9 (by decide) ?_
    refine r_goto (tgt := 14) dX6_lock_10 (by decide) ?_
    refine mm_put_thr dX6_lock_14 rfl hT (fun h1 hT => ?_)
    refine r_aload0 dX6_lock_17 ?_
    refine r_getf dX6_lock_18 f_X6_22 (hT.ob) rfl ?_
    refine r_if_le (tgt := 26) dX6_lock_21 (by decide) (fun c21 => ?_) (fun c21 => ?_)
    · refine r_aload0 dX6_lock_26 ?_
      refine r_sV0 dX6_lock_27 v_X6_68 (M_save hl hT hs6) rfl (hT.ob) rfl rfl rfl (Nat.le_of_ble_eq_true rfl) ⟨(Nat.le_of_ble_eq_true rfl), (Nat.le_of_ble_eq_true rfl)⟩ ⟨(Nat.le_of_ble_eq_true rfl), (Nat.le_of_ble_eq_true rfl)⟩ (fun h1 hP => ?_)
      have hT := hT.trans hP
      refine r_aload0 dX6_lock_30 ?_
      refine r_getf dX6_lock_31 f_X6_7 (hT.ob) rfl ?_
      refine r_iload1 dX6_lock_34 ?_
      refine r_iload2 dX6_lock_35 ?_
      refine r_pS dX6_lock_36 v_X6_45 (M_at (w := w) (c := c) hl) rfl rfl rfl (Nat.le_of_ble_eq_true rfl) ⟨(Nat.le_of_ble_eq_true rfl), (Nat.le_of_ble_eq_true rfl)⟩ ⟨(Nat.le_of_ble_eq_true rfl), (Nat.le_of_ble_eq_true rfl)⟩ ?_
      refine r_iconst (v := 2) dX6_lock_39 (by decide) ?_
      refine r_iadd dX6_lock_40 ?_
      refine r_aload0 dX6_lock_41 ?_
      refine r_getf dX6_lock_42 f_X6_7 (hT.ob) rfl ?_
      refine r_iconst (v := 4) dX6_lock_45 (by decide) ?_
      refine r_iload2 dX6_lock_46 ?_
      refine r_iadd dX6_lock_47 ?_
      refine r_iald dX6_lock_48 hT.rz (i := (4 + c)) (tp_add 4 c) (by omega) (by decide) ?_
      refine mm_st_z dX6_lock_49 hT (i := z_at w c + 2) (tp_add _ 2) (by unfold z_at; omega) (fun h1 hT => ?_)
      refine r_aload0 dX6_lock_50 ?_
      refine r_getf dX6_lock_51 f_X6_7 (hT.ob) rfl ?_
      refine r_iload1 dX6_lock_54 ?_
      refine r_iload2 dX6_lock_55 ?_
      refine r_pS dX6_lock_56 v_X6_45 (M_at (w := w) (c := c) hl) rfl rfl rfl (Nat.le_of_ble_eq_true rfl) ⟨(Nat.le_of_ble_eq_true rfl), (Nat.le_of_ble_eq_true rfl)⟩ ⟨(Nat.le_of_ble_eq_true rfl), (Nat.le_of_ble_eq_true rfl)⟩ ?_
      refine r_iconst (v := 3) dX6_lock_59 (by decide) ?_
      refine r_iadd dX6_lock_60 ?_
      refine r_aload0 dX6_lock_61 ?_
      refine r_getf dX6_lock_62 f_X6_7 (hT.ob) rfl ?_
      refine r_iconst (v := 4) dX6_lock_65 (by decide) ?_
      refine r_iald dX6_lock_66 hT.rz (i := 4) (rfl) (by omega) (by decide) ?_
      rw [va_c1 4 (by unfold z_at; omega)]
      refine r_aload0 dX6_lock_67 ?_
      refine r_getf dX6_lock_68 f_X6_7 (hT.ob) rfl ?_
      refine r_iconst (v := 0) dX6_lock_71 (by decide) ?_
      refine r_iald dX6_lock_72 hT.rz (i := 0) (rfl) (by omega) (by decide) ?_
      rw [va_c1 0 (by unfold z_at; omega)]
      refine r_iadd dX6_lock_73 ?_
      refine mm_st_z dX6_lock_74 hT (i := z_at w c + 3) (tp_add _ 3) (by unfold z_at; omega) (fun h1 hT => ?_)
      refine r_aload0 dX6_lock_75 ?_
      refine r_getf dX6_lock_76 f_X6_7 (hT.ob) rfl ?_
      refine r_iconst (v := 4) dX6_lock_79 (by decide) ?_
      refine r_iald dX6_lock_80 hT.rz (i := 4) (rfl) (by omega) (by decide) ?_
      rw [va_c1 4 (by unfold z_at; omega), va_c1 4 (by unfold z_at; omega)]
      refine r_aload0 dX6_lock_81 ?_
      refine r_getf dX6_lock_82 f_X6_7 (hT.ob) rfl ?_
      refine r_iconst (v := 0) dX6_lock_85 (by decide) ?_
      refine r_iald dX6_lock_86 hT.rz (i := 0) (rfl) (by omega) (by decide) ?_
      rw [va_c1 0 (by unfold z_at; omega), va_c1 0 (by unfold z_at; omega)]
      refine r_iadd dX6_lock_87 ?_
      exact r_iret dX6_lock_88 rfl ⟨(Nat.le_of_ble_eq_true rfl), (Nat.le_of_ble_eq_true rfl)⟩ ⟨rfl, hT⟩
    · exact absurd (show (0 : Int32) ≤ 0 by decide) c21

set_option maxRecDepth 100000 in
set_option maxHeartbeats 4000000 in
theorem Q_lock_1 {l : Launch} {G : tp_G} {y : Nat} {h0 h : tp_H} {z hi tx pa : Nat → Int32} {st len thr rd nu du : Int32} {hs : Int64} (hl : l.stackTraces = false) (hT0 : mm_S G y h0 z hi tx pa st len thr rd nu du hs h) {w c : Int32} (hbad : ¬ (((0 ≤ w ∧ w ≤ 3) ∧ (0 ≤ c ∧ c ≤ 3)) ∧ 0 < c)) : tp_Met l G mX6_lock 0 0 [.ref y, .int w, .int c] h (tp_PS (some (.int 0)) (fun h1 => mm_S G y h z hi tx pa st len 1 rd nu du hs h1)) tp_NX := by
  have hT := hT0.self
  refine tp_start (L0 := [some (.ref y), some (.int w), some (.int c)]) (by decide) rfl hl (Nat.le_of_ble_eq_true rfl) rfl ?_
  refine r_aload0 dX6_lock_0 ?_
  refine r_iload1 dX6_lock_1 ?_
  refine r_iload2 dX6_lock_2 ?_
  refine r_pS dX6_lock_3 v_X6_83 (M_isForeign hl) rfl rfl rfl (Nat.le_of_ble_eq_true rfl) ⟨(Nat.le_of_ble_eq_true rfl), (Nat.le_of_ble_eq_true rfl)⟩ ⟨(Nat.le_of_ble_eq_true rfl), (Nat.le_of_ble_eq_true rfl)⟩ ?_
  refine r_if_eq (tgt := 13) dX6_lock_6 (by decide) (fun c6 => ?_) (fun c6 => ?_)
  · refine r_iconst (v := 1) dX6_lock_13 (by decide) ?_
    refine mm_put_thr dX6_lock_14 rfl hT (fun h1 hT => ?_)
    refine r_aload0 dX6_lock_17 ?_
    refine r_getf dX6_lock_18 f_X6_22 (hT.ob) rfl ?_
    refine r_if_le (tgt := 26) dX6_lock_21 (by decide) (fun c21 => ?_) (fun c21 => ?_)
    · exact absurd c21 (by decide)
    · refine r_iconst (v := 0) dX6_lock_24 (by decide) ?_
      exact r_iret dX6_lock_25 rfl ⟨(Nat.le_of_ble_eq_true rfl), (Nat.le_of_ble_eq_true rfl)⟩ ⟨rfl, hT⟩
  · first | exact absurd (by assumption) (tp_b_0.mp c6) | exact absurd (by assumption) (tp_b_0.mp (Classical.not_not.mp c6)) | exact absurd (tp_b_n c6) (by assumption) | exact absurd (by assumption) c6 | exact absurd c6 (by assumption)

set_option maxRecDepth 100000 in
set_option maxHeartbeats 4000000 in
theorem Q_set {s : Nat} {l : Launch} {G : tp_G} {y : Nat} {h0 h : tp_H} {z hi tx pa : Nat → Int32} {len thr rd nu du : Int32} {hs : Int64} (hl : l.stackTraces = false) (hT0 : mm_S G y h0 z hi tx pa (nI s) len thr rd nu du hs h) (hs6 : s ≤ 6) {j : Nat} {v : Int32} (hj : j < 4) (hj4 : 0 ≤ nI j ∧ nI j ≤ 3) (hv : 0 ≤ v ∧ v ≤ (if nI j = 1 then 100 else if nI j = 2 then 50 else 60)) : tp_Met l G mX6_set 0 0 [.ref y, .int (nI j), .int v] h (tp_PS (some (.int (z j))) (fun h1 => mm_S G y h (va_up z j v) (z_saveH hi z s) tx pa (nI (z_saveN s)) len 0 rd nu du hs h1)) tp_NX := by
  have hT := hT0.self
  refine tp_start (L0 := [some (.ref y), some (.int (nI j)), some (.int v), none]) (by decide) rfl hl (Nat.le_of_ble_eq_true rfl) rfl ?_
  refine r_aload0 dX6_set_0 ?_
  refine r_iload1 dX6_set_1 ?_
  refine r_pS dX6_set_2 v_X6_158 (M_isSetting hl) rfl rfl rfl (Nat.le_of_ble_eq_true rfl) ⟨(Nat.le_of_ble_eq_true rfl), (Nat.le_of_ble_eq_true rfl)⟩ ⟨(Nat.le_of_ble_eq_true rfl), (Nat.le_of_ble_eq_true rfl)⟩ ?_
  refine r_if_ne (tgt := 12) dX6_set_5 (by decide) (fun c5 => ?_) (fun c5 => ?_)
  · refine r_iload2 dX6_set_12 ?_
    refine r_iconst (v := 0) dX6_set_13 (by decide) ?_
    refine r_iload1 dX6_set_14 ?_
    refine r_pS dX6_set_15 v_X6_161 (M_greatest hl) rfl rfl rfl (Nat.le_of_ble_eq_true rfl) ⟨(Nat.le_of_ble_eq_true rfl), (Nat.le_of_ble_eq_true rfl)⟩ ⟨(Nat.le_of_ble_eq_true rfl), (Nat.le_of_ble_eq_true rfl)⟩ ?_
    refine r_pS dX6_set_18 v_X6_29 (M_within hl) rfl rfl rfl (Nat.le_of_ble_eq_true rfl) ⟨(Nat.le_of_ble_eq_true rfl), (Nat.le_of_ble_eq_true rfl)⟩ ⟨(Nat.le_of_ble_eq_true rfl), (Nat.le_of_ble_eq_true rfl)⟩ ?_
    refine r_if_eq (tgt := 28) dX6_set_21 (by decide) (fun c21 => ?_) (fun c21 => ?_)
    · first | exact absurd (by assumption) (tp_b_0.mp c21) | exact absurd (by assumption) (tp_b_0.mp (Classical.not_not.mp c21)) | exact absurd (tp_b_n c21) (by assumption) | exact absurd (by assumption) c21 | exact absurd c21 (by assumption)
    · refine r_iconst (v := 0) dX6_set_24 (by decide) ?_
      refine r_goto (tgt := 29) dX6_set_25 (by decide) ?_
      refine mm_put_thr dX6_set_29 rfl hT (fun h1 hT => ?_)
      refine r_aload0 dX6_set_32 ?_
      refine r_getf dX6_set_33 f_X6_22 (hT.ob) rfl ?_
      refine r_if_le (tgt := 41) dX6_set_36 (by decide) (fun c36 => ?_) (fun c36 => ?_)
      · refine r_aload0 dX6_set_41 ?_
        refine r_sV0 dX6_set_42 v_X6_68 (M_save hl hT hs6) rfl (hT.ob) rfl rfl rfl (Nat.le_of_ble_eq_true rfl) ⟨(Nat.le_of_ble_eq_true rfl), (Nat.le_of_ble_eq_true rfl)⟩ ⟨(Nat.le_of_ble_eq_true rfl), (Nat.le_of_ble_eq_true rfl)⟩ (fun h1 hP => ?_)
        have hT := hT.trans hP
        refine r_aload0 dX6_set_45 ?_
        refine r_getf dX6_set_46 f_X6_7 (hT.ob) rfl ?_
        refine r_iload1 dX6_set_49 ?_
        refine r_iald dX6_set_50 hT.rz (i := j) (rfl) (by omega) (by decide) ?_
        refine r_istore3 dX6_set_51 (Nat.le_of_ble_eq_true rfl) rfl ?_
        refine r_aload0 dX6_set_52 ?_
        refine r_getf dX6_set_53 f_X6_7 (hT.ob) rfl ?_
        refine r_iload1 dX6_set_56 ?_
        refine r_iload2 dX6_set_57 ?_
        refine mm_st_z dX6_set_58 hT (i := j) (rfl) (by omega) (fun h1 hT => ?_)
        refine r_iload3 dX6_set_59 ?_
        exact r_iret dX6_set_60 rfl ⟨(Nat.le_of_ble_eq_true rfl), (Nat.le_of_ble_eq_true rfl)⟩ ⟨rfl, hT⟩
      · exact absurd (show (0 : Int32) ≤ 0 by decide) c36
  · first | exact absurd (by assumption) (tp_b_0.mp c5) | exact absurd (by assumption) (tp_b_0.mp (Classical.not_not.mp c5)) | exact absurd (tp_b_n c5) (by assumption) | exact absurd (by assumption) c5 | exact absurd c5 (by assumption)

set_option maxRecDepth 100000 in
set_option maxHeartbeats 4000000 in
theorem Q_set_1 {l : Launch} {G : tp_G} {y : Nat} {h0 h : tp_H} {z hi tx pa : Nat → Int32} {st len thr rd nu du : Int32} {hs : Int64} (hl : l.stackTraces = false) (hT0 : mm_S G y h0 z hi tx pa st len thr rd nu du hs h) {j v : Int32} (hbad : ¬ (0 ≤ j ∧ j ≤ 3)) : tp_Met l G mX6_set 0 0 [.ref y, .int j, .int v] h (tp_PS (some (.int 0)) (fun h1 => mm_S G y h z hi tx pa st len 1 rd nu du hs h1)) tp_NX := by
  have hT := hT0.self
  refine tp_start (L0 := [some (.ref y), some (.int j), some (.int v), none]) (by decide) rfl hl (Nat.le_of_ble_eq_true rfl) rfl ?_
  refine r_aload0 dX6_set_0 ?_
  refine r_iload1 dX6_set_1 ?_
  refine r_pS dX6_set_2 v_X6_158 (M_isSetting hl) rfl rfl rfl (Nat.le_of_ble_eq_true rfl) ⟨(Nat.le_of_ble_eq_true rfl), (Nat.le_of_ble_eq_true rfl)⟩ ⟨(Nat.le_of_ble_eq_true rfl), (Nat.le_of_ble_eq_true rfl)⟩ ?_
  refine r_if_ne (tgt := 12) dX6_set_5 (by decide) (fun c5 => ?_) (fun c5 => ?_)
  · first | exact absurd (by assumption) (tp_b_0.mp c5) | exact absurd (by assumption) (tp_b_0.mp (Classical.not_not.mp c5)) | exact absurd (tp_b_n c5) (by assumption) | exact absurd (by assumption) c5 | exact absurd c5 (by assumption)
  · refine r_iconst (v := 1) dX6_set_8 (by decide) ?_
    refine r_goto (tgt := 29) dX6_set_9 (by decide) ?_
    refine mm_put_thr dX6_set_29 rfl hT (fun h1 hT => ?_)
    refine r_aload0 dX6_set_32 ?_
    refine r_getf dX6_set_33 f_X6_22 (hT.ob) rfl ?_
    refine r_if_le (tgt := 41) dX6_set_36 (by decide) (fun c36 => ?_) (fun c36 => ?_)
    · exact absurd c36 (by decide)
    · refine r_iconst (v := 0) dX6_set_39 (by decide) ?_
      exact r_iret dX6_set_40 rfl ⟨(Nat.le_of_ble_eq_true rfl), (Nat.le_of_ble_eq_true rfl)⟩ ⟨rfl, hT⟩

set_option maxRecDepth 100000 in
set_option maxHeartbeats 4000000 in
theorem Q_set_2 {l : Launch} {G : tp_G} {y : Nat} {h0 h : tp_H} {z hi tx pa : Nat → Int32} {st len thr rd nu du : Int32} {hs : Int64} (hl : l.stackTraces = false) (hT0 : mm_S G y h0 z hi tx pa st len thr rd nu du hs h) {j : Nat} {v : Int32} (hj4 : 0 ≤ nI j ∧ nI j ≤ 3) (hbad : ¬ (0 ≤ v ∧ v ≤ (if nI j = 1 then 100 else if nI j = 2 then 50 else 60))) : tp_Met l G mX6_set 0 0 [.ref y, .int (nI j), .int v] h (tp_PS (some (.int 0)) (fun h1 => mm_S G y h z hi tx pa st len 2 rd nu du hs h1)) tp_NX := by
  have hT := hT0.self
  refine tp_start (L0 := [some (.ref y), some (.int (nI j)), some (.int v), none]) (by decide) rfl hl (Nat.le_of_ble_eq_true rfl) rfl ?_
  refine r_aload0 dX6_set_0 ?_
  refine r_iload1 dX6_set_1 ?_
  refine r_pS dX6_set_2 v_X6_158 (M_isSetting hl) rfl rfl rfl (Nat.le_of_ble_eq_true rfl) ⟨(Nat.le_of_ble_eq_true rfl), (Nat.le_of_ble_eq_true rfl)⟩ ⟨(Nat.le_of_ble_eq_true rfl), (Nat.le_of_ble_eq_true rfl)⟩ ?_
  refine r_if_ne (tgt := 12) dX6_set_5 (by decide) (fun c5 => ?_) (fun c5 => ?_)
  · refine r_iload2 dX6_set_12 ?_
    refine r_iconst (v := 0) dX6_set_13 (by decide) ?_
    refine r_iload1 dX6_set_14 ?_
    refine r_pS dX6_set_15 v_X6_161 (M_greatest hl) rfl rfl rfl (Nat.le_of_ble_eq_true rfl) ⟨(Nat.le_of_ble_eq_true rfl), (Nat.le_of_ble_eq_true rfl)⟩ ⟨(Nat.le_of_ble_eq_true rfl), (Nat.le_of_ble_eq_true rfl)⟩ ?_
    refine r_pS dX6_set_18 v_X6_29 (M_within hl) rfl rfl rfl (Nat.le_of_ble_eq_true rfl) ⟨(Nat.le_of_ble_eq_true rfl), (Nat.le_of_ble_eq_true rfl)⟩ ⟨(Nat.le_of_ble_eq_true rfl), (Nat.le_of_ble_eq_true rfl)⟩ ?_
    refine r_if_eq (tgt := 28) dX6_set_21 (by decide) (fun c21 => ?_) (fun c21 => ?_)
    · refine r_iconst (v := 2) dX6_set_28 (by decide) ?_
      refine mm_put_thr dX6_set_29 rfl hT (fun h1 hT => ?_)
      refine r_aload0 dX6_set_32 ?_
      refine r_getf dX6_set_33 f_X6_22 (hT.ob) rfl ?_
      refine r_if_le (tgt := 41) dX6_set_36 (by decide) (fun c36 => ?_) (fun c36 => ?_)
      · exact absurd c36 (by decide)
      · refine r_iconst (v := 0) dX6_set_39 (by decide) ?_
        exact r_iret dX6_set_40 rfl ⟨(Nat.le_of_ble_eq_true rfl), (Nat.le_of_ble_eq_true rfl)⟩ ⟨rfl, hT⟩
    · first | exact absurd (by assumption) (tp_b_0.mp c21) | exact absurd (by assumption) (tp_b_0.mp (Classical.not_not.mp c21)) | exact absurd (tp_b_n c21) (by assumption) | exact absurd (by assumption) c21 | exact absurd c21 (by assumption)
  · first | exact absurd (by assumption) (tp_b_0.mp c5) | exact absurd (by assumption) (tp_b_0.mp (Classical.not_not.mp c5)) | exact absurd (tp_b_n c5) (by assumption) | exact absurd (by assumption) c5 | exact absurd c5 (by assumption)

set_option maxRecDepth 100000 in
set_option maxHeartbeats 4000000 in
theorem Q_append {l : Launch} {G : tp_G} {y : Nat} {h0 h : tp_H} {z hi tx pa : Nat → Int32} {st len thr rd nu du : Int32} {hs : Int64} (hl : l.stackTraces = false) (hT0 : mm_S G y h0 z hi tx pa st len thr rd nu du hs h) {n : Nat} {a : Int32} (hlen : len = nI n) (hn : n < 60) (hf : ¬ len = 60) (ha : 33 ≤ a ∧ a ≤ 126) : tp_Met l G mX6_append 0 0 [.ref y, .int a] h (tp_PS (some (.int (nI (n + 1)))) (fun h1 => mm_S G y h z hi (va_up tx n a) pa st (nI (n + 1)) 0 rd nu du hs h1)) tp_NX := by
  have hT := hT0.self
  refine tp_start (L0 := [some (.ref y), some (.int a)]) (by decide) rfl hl (Nat.le_of_ble_eq_true rfl) rfl ?_
  refine r_aload0 dX6_append_0 ?_
  refine r_iload1 dX6_append_1 ?_
  refine r_bipush (v := 33) dX6_append_2 (by decide) ?_
  refine r_bipush (v := 126) dX6_append_4 (by decide) ?_
  refine r_pS dX6_append_6 v_X6_29 (M_within hl) rfl rfl rfl (Nat.le_of_ble_eq_true rfl) ⟨(Nat.le_of_ble_eq_true rfl), (Nat.le_of_ble_eq_true rfl)⟩ ⟨(Nat.le_of_ble_eq_true rfl), (Nat.le_of_ble_eq_true rfl)⟩ ?_
  refine r_if_ne (tgt := 16) dX6_append_9 (by decide) (fun c9 => ?_) (fun c9 => ?_)
  · refine r_aload0 dX6_append_16 ?_
    refine r_getf dX6_append_17 f_X6_164 (hT.ob) rfl ?_
    refine r_bipush (v := 60) dX6_append_20 (by decide) ?_
    refine r_icmp_ne (tgt := 29) dX6_append_22 (by decide) (fun c22 => ?_) (fun c22 => ?_)
    · refine r_iconst (v := 0) dX6_append_29 (by decide) ?_
      refine mm_put_thr dX6_append_30 rfl hT (fun h1 hT => ?_)
      refine r_aload0 dX6_append_33 ?_
      refine r_getf dX6_append_34 f_X6_22 (hT.ob) rfl ?_
      refine r_if_le (tgt := 42) dX6_append_37 (by decide) (fun c37 => ?_) (fun c37 => ?_)
      · refine r_aload0 dX6_append_42 ?_
        refine r_getf dX6_append_43 f_X6_16 (hT.ob) rfl ?_
        refine r_aload0 dX6_append_46 ?_
        refine r_getf dX6_append_47 f_X6_164 (hT.ob) rfl ?_
        refine r_iload1 dX6_append_50 ?_
        refine mm_st_tx dX6_append_51 hT hlen hn (fun h1 hT => ?_)
        refine r_aload0 dX6_append_52 ?_
        refine r_dup dX6_append_53 rfl ?_
        refine r_getf dX6_append_54 f_X6_164 (hT.ob) rfl ?_
        refine r_iconst (v := 1) dX6_append_57 (by decide) ?_
        refine r_iadd dX6_append_58 ?_
        rw [hlen, tp_1]
        refine mm_put_len dX6_append_59 rfl hT (fun h1 hT => ?_)
        refine r_aload0 dX6_append_62 ?_
        refine r_getf dX6_append_63 f_X6_164 (hT.ob) rfl ?_
        exact r_iret dX6_append_66 rfl ⟨(Nat.le_of_ble_eq_true rfl), (Nat.le_of_ble_eq_true rfl)⟩ ⟨rfl, hT⟩
      · exact absurd (show (0 : Int32) ≤ 0 by decide) c37
    · first | exact absurd (by assumption) (tp_b_0.mp c22) | exact absurd (by assumption) (tp_b_0.mp (Classical.not_not.mp c22)) | exact absurd (tp_b_n c22) (by assumption) | exact absurd (by assumption) c22 | exact absurd c22 (by assumption)
  · first | exact absurd (by assumption) (tp_b_0.mp c9) | exact absurd (by assumption) (tp_b_0.mp (Classical.not_not.mp c9)) | exact absurd (tp_b_n c9) (by assumption) | exact absurd (by assumption) c9 | exact absurd c9 (by assumption)

set_option maxRecDepth 100000 in
set_option maxHeartbeats 4000000 in
theorem Q_append_1 {l : Launch} {G : tp_G} {y : Nat} {h0 h : tp_H} {z hi tx pa : Nat → Int32} {st len thr rd nu du : Int32} {hs : Int64} (hl : l.stackTraces = false) (hT0 : mm_S G y h0 z hi tx pa st len thr rd nu du hs h) {a : Int32} (hbad : ¬ (33 ≤ a ∧ a ≤ 126)) : tp_Met l G mX6_append 0 0 [.ref y, .int a] h (tp_PS (some (.int 0)) (fun h1 => mm_S G y h z hi tx pa st len 1 rd nu du hs h1)) tp_NX := by
  have hT := hT0.self
  refine tp_start (L0 := [some (.ref y), some (.int a)]) (by decide) rfl hl (Nat.le_of_ble_eq_true rfl) rfl ?_
  refine r_aload0 dX6_append_0 ?_
  refine r_iload1 dX6_append_1 ?_
  refine r_bipush (v := 33) dX6_append_2 (by decide) ?_
  refine r_bipush (v := 126) dX6_append_4 (by decide) ?_
  refine r_pS dX6_append_6 v_X6_29 (M_within hl) rfl rfl rfl (Nat.le_of_ble_eq_true rfl) ⟨(Nat.le_of_ble_eq_true rfl), (Nat.le_of_ble_eq_true rfl)⟩ ⟨(Nat.le_of_ble_eq_true rfl), (Nat.le_of_ble_eq_true rfl)⟩ ?_
  refine r_if_ne (tgt := 16) dX6_append_9 (by decide) (fun c9 => ?_) (fun c9 => ?_)
  · first | exact absurd (by assumption) (tp_b_0.mp c9) | exact absurd (by assumption) (tp_b_0.mp (Classical.not_not.mp c9)) | exact absurd (tp_b_n c9) (by assumption) | exact absurd (by assumption) c9 | exact absurd c9 (by assumption)
  · refine r_iconst (v := 1) dX6_append_12 (by decide) ?_
    refine r_goto (tgt := 30) dX6_append_13 (by decide) ?_
    refine mm_put_thr dX6_append_30 rfl hT (fun h1 hT => ?_)
    refine r_aload0 dX6_append_33 ?_
    refine r_getf dX6_append_34 f_X6_22 (hT.ob) rfl ?_
    refine r_if_le (tgt := 42) dX6_append_37 (by decide) (fun c37 => ?_) (fun c37 => ?_)
    · exact absurd c37 (by decide)
    · refine r_iconst (v := 0) dX6_append_40 (by decide) ?_
      exact r_iret dX6_append_41 rfl ⟨(Nat.le_of_ble_eq_true rfl), (Nat.le_of_ble_eq_true rfl)⟩ ⟨rfl, hT⟩

set_option maxRecDepth 100000 in
set_option maxHeartbeats 4000000 in
theorem Q_append_2 {l : Launch} {G : tp_G} {y : Nat} {h0 h : tp_H} {z hi tx pa : Nat → Int32} {st len thr rd nu du : Int32} {hs : Int64} (hl : l.stackTraces = false) (hT0 : mm_S G y h0 z hi tx pa st len thr rd nu du hs h) {a : Int32} (hf : len = 60) (ha : 33 ≤ a ∧ a ≤ 126) : tp_Met l G mX6_append 0 0 [.ref y, .int a] h (tp_PS (some (.int 0)) (fun h1 => mm_S G y h z hi tx pa st len 2 rd nu du hs h1)) tp_NX := by
  have hT := hT0.self
  refine tp_start (L0 := [some (.ref y), some (.int a)]) (by decide) rfl hl (Nat.le_of_ble_eq_true rfl) rfl ?_
  refine r_aload0 dX6_append_0 ?_
  refine r_iload1 dX6_append_1 ?_
  refine r_bipush (v := 33) dX6_append_2 (by decide) ?_
  refine r_bipush (v := 126) dX6_append_4 (by decide) ?_
  refine r_pS dX6_append_6 v_X6_29 (M_within hl) rfl rfl rfl (Nat.le_of_ble_eq_true rfl) ⟨(Nat.le_of_ble_eq_true rfl), (Nat.le_of_ble_eq_true rfl)⟩ ⟨(Nat.le_of_ble_eq_true rfl), (Nat.le_of_ble_eq_true rfl)⟩ ?_
  refine r_if_ne (tgt := 16) dX6_append_9 (by decide) (fun c9 => ?_) (fun c9 => ?_)
  · refine r_aload0 dX6_append_16 ?_
    refine r_getf dX6_append_17 f_X6_164 (hT.ob) rfl ?_
    refine r_bipush (v := 60) dX6_append_20 (by decide) ?_
    refine r_icmp_ne (tgt := 29) dX6_append_22 (by decide) (fun c22 => ?_) (fun c22 => ?_)
    · first | exact absurd (by assumption) (tp_b_0.mp c22) | exact absurd (by assumption) (tp_b_0.mp (Classical.not_not.mp c22)) | exact absurd (tp_b_n c22) (by assumption) | exact absurd (by assumption) c22 | exact absurd c22 (by assumption)
    · refine r_iconst (v := 2) dX6_append_25 (by decide) ?_
      refine r_goto (tgt := 30) dX6_append_26 (by decide) ?_
      refine mm_put_thr dX6_append_30 rfl hT (fun h1 hT => ?_)
      refine r_aload0 dX6_append_33 ?_
      refine r_getf dX6_append_34 f_X6_22 (hT.ob) rfl ?_
      refine r_if_le (tgt := 42) dX6_append_37 (by decide) (fun c37 => ?_) (fun c37 => ?_)
      · exact absurd c37 (by decide)
      · refine r_iconst (v := 0) dX6_append_40 (by decide) ?_
        exact r_iret dX6_append_41 rfl ⟨(Nat.le_of_ble_eq_true rfl), (Nat.le_of_ble_eq_true rfl)⟩ ⟨rfl, hT⟩
  · first | exact absurd (by assumption) (tp_b_0.mp c9) | exact absurd (by assumption) (tp_b_0.mp (Classical.not_not.mp c9)) | exact absurd (tp_b_n c9) (by assumption) | exact absurd (by assumption) c9 | exact absurd c9 (by assumption)

set_option maxRecDepth 100000 in
set_option maxHeartbeats 4000000 in
theorem Q_clearBuffer {l : Launch} {G : tp_G} {y : Nat} {h0 h : tp_H} {z hi tx pa : Nat → Int32} {st len thr rd nu du : Int32} {hs : Int64} (hl : l.stackTraces = false) (hT0 : mm_S G y h0 z hi tx pa st len thr rd nu du hs h)  : tp_Met l G mX6_clearBuffer 0 0 [.ref y] h (tp_PS (some (.int len)) (fun h1 => mm_S G y h z hi tx pa st 0 0 rd nu du hs h1)) tp_NX := by
  have hT := hT0.self
  refine tp_start (L0 := [some (.ref y), none]) (by decide) rfl hl (Nat.le_of_ble_eq_true rfl) rfl ?_
  refine r_aload0 dX6_clearBuffer_0 ?_
  refine r_iconst (v := 0) dX6_clearBuffer_1 (by decide) ?_
  refine mm_put_thr dX6_clearBuffer_2 rfl hT (fun h1 hT => ?_)
  refine r_aload0 dX6_clearBuffer_5 ?_
  refine r_getf dX6_clearBuffer_6 f_X6_164 (hT.ob) rfl ?_
  refine r_istore1 dX6_clearBuffer_9 (Nat.le_of_ble_eq_true rfl) rfl ?_
  refine r_aload0 dX6_clearBuffer_10 ?_
  refine r_iconst (v := 0) dX6_clearBuffer_11 (by decide) ?_
  refine mm_put_len dX6_clearBuffer_12 rfl hT (fun h1 hT => ?_)
  refine r_iload1 dX6_clearBuffer_15 ?_
  exact r_iret dX6_clearBuffer_16 rfl ⟨(Nat.le_of_ble_eq_true rfl), (Nat.le_of_ble_eq_true rfl)⟩ ⟨rfl, hT⟩

set_option maxRecDepth 100000 in
set_option maxHeartbeats 4000000 in
theorem Q_dispute {s : Nat} {l : Launch} {G : tp_G} {y : Nat} {h0 h : tp_H} {z hi tx pa : Nat → Int32} {len thr rd nu du : Int32} {hs : Int64} (hl : l.stackTraces = false) (hT0 : mm_S G y h0 z hi tx pa (nI s) len thr rd nu du hs h) (hs6 : s ≤ 6) {j w c : Nat} (hj : j < 12) (hin : 0 ≤ nI j ∧ nI j ≤ z 9 - 1) (hw : w < 4) (hc : c < 4) (hw0 : z (136 + 5 * j + 0) = nI w) (hc0 : z (136 + 5 * j + 1) = nI c) (hm : z (136 + 5 * j + 4) = 0 ∧ z 4 ≤ z (136 + 5 * j + 3) + 30) : tp_Met l G mX6_dispute 0 0 [.ref y, .int (nI j)] h (tp_PS (some (.int (z_in (va_up z (136 + 5 * j + 4) 1) w c (z (136 + 5 * j + 2)) (z_at w c + 0)))) (fun h1 => mm_S G y h (z_in (va_up z (136 + 5 * j + 4) 1) w c (z (136 + 5 * j + 2))) (z_saveH hi z s) tx pa (nI (z_saveN s)) len 0 rd nu du hs h1)) tp_NX := by
  have hT := hT0.self
  refine tp_start (L0 := [some (.ref y), some (.int (nI j)), none, none]) (by decide) rfl hl (Nat.le_of_ble_eq_true rfl) rfl ?_
  refine r_aload0 dX6_dispute_0 ?_
  refine r_aload0 dX6_dispute_1 ?_
  refine r_iload1 dX6_dispute_2 ?_
  refine r_pV dX6_dispute_3 v_X6_130 (M_isPayment hl hT) rfl (hT.ob) rfl rfl rfl (Nat.le_of_ble_eq_true rfl) ⟨(Nat.le_of_ble_eq_true rfl), (Nat.le_of_ble_eq_true rfl)⟩ ⟨(Nat.le_of_ble_eq_true rfl), (Nat.le_of_ble_eq_true rfl)⟩ ?_
  refine r_if_ne (tgt := 13) dX6_dispute_6 (by decide) (fun c6 => ?_) (fun c6 => ?_)
  · refine r_aload0 dX6_dispute_13 ?_
    refine r_iload1 dX6_dispute_14 ?_
    refine r_pV dX6_dispute_15 v_X6_133 (M_canDispute hl hT (by omega)) rfl (hT.ob) rfl rfl rfl (Nat.le_of_ble_eq_true rfl) ⟨(Nat.le_of_ble_eq_true rfl), (Nat.le_of_ble_eq_true rfl)⟩ ⟨(Nat.le_of_ble_eq_true rfl), (Nat.le_of_ble_eq_true rfl)⟩ ?_
    refine r_if_eq (tgt := 25) dX6_dispute_18 (by decide) (fun c18 => ?_) (fun c18 => ?_)
    · first | exact absurd (by assumption) (tp_b_0.mp c18) | exact absurd (by assumption) (tp_b_0.mp (Classical.not_not.mp c18)) | exact absurd (tp_b_n c18) (by assumption) | exact absurd (by assumption) c18 | exact absurd c18 (by assumption)
    · refine r_iconst (v := 0) dX6_dispute_21 (by decide) ?_
      refine r_goto (tgt := 26) dX6_dispute_22 (by decide) ?_
      refine mm_put_thr dX6_dispute_26 rfl hT (fun h1 hT => ?_)
      refine r_aload0 dX6_dispute_29 ?_
      refine r_getf dX6_dispute_30 f_X6_22 (hT.ob) rfl ?_
      refine r_if_le (tgt := 38) dX6_dispute_33 (by decide) (fun c33 => ?_) (fun c33 => ?_)
      · refine r_aload0 dX6_dispute_38 ?_
        refine r_sV0 dX6_dispute_39 v_X6_68 (M_save hl hT hs6) rfl (hT.ob) rfl rfl rfl (Nat.le_of_ble_eq_true rfl) ⟨(Nat.le_of_ble_eq_true rfl), (Nat.le_of_ble_eq_true rfl)⟩ ⟨(Nat.le_of_ble_eq_true rfl), (Nat.le_of_ble_eq_true rfl)⟩ (fun h1 hP => ?_)
        have hT := hT.trans hP
        refine r_aload0 dX6_dispute_42 ?_
        refine r_iload1 dX6_dispute_43 ?_
        refine r_iconst (v := 0) dX6_dispute_44 (by decide) ?_
        refine r_pV dX6_dispute_45 v_X6_127 (M_ofPayment (j := 0) hl hT (by omega) (by omega)) rfl (hT.ob) rfl rfl rfl (Nat.le_of_ble_eq_true rfl) ⟨(Nat.le_of_ble_eq_true rfl), (Nat.le_of_ble_eq_true rfl)⟩ ⟨(Nat.le_of_ble_eq_true rfl), (Nat.le_of_ble_eq_true rfl)⟩ ?_
        rw [hw0]
        refine r_istore2 dX6_dispute_48 (Nat.le_of_ble_eq_true rfl) rfl ?_
        refine r_aload0 dX6_dispute_49 ?_
        refine r_iload1 dX6_dispute_50 ?_
        refine r_iconst (v := 1) dX6_dispute_51 (by decide) ?_
        refine r_pV dX6_dispute_52 v_X6_127 (M_ofPayment (j := 1) hl hT (by omega) (by omega)) rfl (hT.ob) rfl rfl rfl (Nat.le_of_ble_eq_true rfl) ⟨(Nat.le_of_ble_eq_true rfl), (Nat.le_of_ble_eq_true rfl)⟩ ⟨(Nat.le_of_ble_eq_true rfl), (Nat.le_of_ble_eq_true rfl)⟩ ?_
        rw [hc0]
        refine r_istore3 dX6_dispute_55 (Nat.le_of_ble_eq_true rfl) rfl ?_
        refine r_aload0 dX6_dispute_56 ?_
        refine r_getf dX6_dispute_57 f_X6_7 (hT.ob) rfl ?_
        refine r_sipush (v := 136) dX6_dispute_60 (by decide) ?_
        refine r_iconst (v := 5) dX6_dispute_63 (by decide) ?_
        refine r_iload1 dX6_dispute_64 ?_
        refine r_imul dX6_dispute_65 ?_
        refine r_iadd dX6_dispute_66 ?_
        refine r_iconst (v := 4) dX6_dispute_67 (by decide) ?_
        refine r_iadd dX6_dispute_68 ?_
        refine r_iconst (v := 1) dX6_dispute_69 (by decide) ?_
        refine mm_st_z dX6_dispute_70 hT (i := 136 + 5 * j + 4) (by rw [show (5 : Int32) = nI 5 from rfl, show (136 : Int32) = nI 136 from rfl, tp_mul, tp_add]; exact tp_add (136 + 5 * j) 4) (by omega) (fun h1 hT => ?_)
        refine r_aload0 dX6_dispute_71 ?_
        refine r_iload2 dX6_dispute_72 ?_
        refine r_iload3 dX6_dispute_73 ?_
        refine r_aload0 dX6_dispute_74 ?_
        refine r_iload1 dX6_dispute_75 ?_
        refine r_iconst (v := 2) dX6_dispute_76 (by decide) ?_
        refine r_pV dX6_dispute_77 v_X6_127 (M_ofPayment (j := 2) hl hT (by omega) (by omega)) rfl (hT.ob) rfl rfl rfl (Nat.le_of_ble_eq_true rfl) ⟨(Nat.le_of_ble_eq_true rfl), (Nat.le_of_ble_eq_true rfl)⟩ ⟨(Nat.le_of_ble_eq_true rfl), (Nat.le_of_ble_eq_true rfl)⟩ ?_
        rw [va_c1 (136 + 5 * j + 2) (by omega)]
        refine r_sV0 dX6_dispute_80 v_X6_76 (M_comeIn hl hT hw hc) rfl (hT.ob) rfl rfl rfl (Nat.le_of_ble_eq_true rfl) ⟨(Nat.le_of_ble_eq_true rfl), (Nat.le_of_ble_eq_true rfl)⟩ ⟨(Nat.le_of_ble_eq_true rfl), (Nat.le_of_ble_eq_true rfl)⟩ (fun h1 hP => ?_)
        have hT := hT.trans hP
        refine r_aload0 dX6_dispute_83 ?_
        refine r_iload2 dX6_dispute_84 ?_
        refine r_iload3 dX6_dispute_85 ?_
        refine r_iconst (v := 0) dX6_dispute_86 (by decide) ?_
        refine r_pV dX6_dispute_87 v_X6_55 (M_of (j := 0) hl hT hw hc (by omega)) rfl (hT.ob) rfl rfl rfl (Nat.le_of_ble_eq_true rfl) ⟨(Nat.le_of_ble_eq_true rfl), (Nat.le_of_ble_eq_true rfl)⟩ ⟨(Nat.le_of_ble_eq_true rfl), (Nat.le_of_ble_eq_true rfl)⟩ ?_
        exact r_iret dX6_dispute_90 rfl ⟨(Nat.le_of_ble_eq_true rfl), (Nat.le_of_ble_eq_true rfl)⟩ ⟨rfl, hT⟩
      · exact absurd (show (0 : Int32) ≤ 0 by decide) c33
  · first | exact absurd (by assumption) (tp_b_0.mp c6) | exact absurd (by assumption) (tp_b_0.mp (Classical.not_not.mp c6)) | exact absurd (tp_b_n c6) (by assumption) | exact absurd (by assumption) c6 | exact absurd c6 (by assumption)

set_option maxRecDepth 100000 in
set_option maxHeartbeats 4000000 in
theorem Q_dispute_1 {l : Launch} {G : tp_G} {y : Nat} {h0 h : tp_H} {z hi tx pa : Nat → Int32} {st len thr rd nu du : Int32} {hs : Int64} (hl : l.stackTraces = false) (hT0 : mm_S G y h0 z hi tx pa st len thr rd nu du hs h) {v : Int32} (hbad : ¬ (0 ≤ v ∧ v ≤ z 9 - 1)) : tp_Met l G mX6_dispute 0 0 [.ref y, .int v] h (tp_PS (some (.int 0)) (fun h1 => mm_S G y h z hi tx pa st len 1 rd nu du hs h1)) tp_NX := by
  have hT := hT0.self
  refine tp_start (L0 := [some (.ref y), some (.int v), none, none]) (by decide) rfl hl (Nat.le_of_ble_eq_true rfl) rfl ?_
  refine r_aload0 dX6_dispute_0 ?_
  refine r_aload0 dX6_dispute_1 ?_
  refine r_iload1 dX6_dispute_2 ?_
  refine r_pV dX6_dispute_3 v_X6_130 (M_isPayment hl hT) rfl (hT.ob) rfl rfl rfl (Nat.le_of_ble_eq_true rfl) ⟨(Nat.le_of_ble_eq_true rfl), (Nat.le_of_ble_eq_true rfl)⟩ ⟨(Nat.le_of_ble_eq_true rfl), (Nat.le_of_ble_eq_true rfl)⟩ ?_
  refine r_if_ne (tgt := 13) dX6_dispute_6 (by decide) (fun c6 => ?_) (fun c6 => ?_)
  · first | exact absurd (by assumption) (tp_b_0.mp c6) | exact absurd (by assumption) (tp_b_0.mp (Classical.not_not.mp c6)) | exact absurd (tp_b_n c6) (by assumption) | exact absurd (by assumption) c6 | exact absurd c6 (by assumption)
  · refine r_iconst (v := 1) dX6_dispute_9 (by decide) ?_
    refine r_goto (tgt := 26) dX6_dispute_10 (by decide) ?_
    refine mm_put_thr dX6_dispute_26 rfl hT (fun h1 hT => ?_)
    refine r_aload0 dX6_dispute_29 ?_
    refine r_getf dX6_dispute_30 f_X6_22 (hT.ob) rfl ?_
    refine r_if_le (tgt := 38) dX6_dispute_33 (by decide) (fun c33 => ?_) (fun c33 => ?_)
    · exact absurd c33 (by decide)
    · refine r_iconst (v := 0) dX6_dispute_36 (by decide) ?_
      exact r_iret dX6_dispute_37 rfl ⟨(Nat.le_of_ble_eq_true rfl), (Nat.le_of_ble_eq_true rfl)⟩ ⟨rfl, hT⟩

set_option maxRecDepth 100000 in
set_option maxHeartbeats 4000000 in
theorem Q_dispute_2 {l : Launch} {G : tp_G} {y : Nat} {h0 h : tp_H} {z hi tx pa : Nat → Int32} {st len thr rd nu du : Int32} {hs : Int64} (hl : l.stackTraces = false) (hT0 : mm_S G y h0 z hi tx pa st len thr rd nu du hs h) {j : Nat} (hj : j < 12) (hin : 0 ≤ nI j ∧ nI j ≤ z 9 - 1) (hm : ¬ (z (136 + 5 * j + 4) = 0 ∧ z 4 ≤ z (136 + 5 * j + 3) + 30)) : tp_Met l G mX6_dispute 0 0 [.ref y, .int (nI j)] h (tp_PS (some (.int 0)) (fun h1 => mm_S G y h z hi tx pa st len 2 rd nu du hs h1)) tp_NX := by
  have hT := hT0.self
  refine tp_start (L0 := [some (.ref y), some (.int (nI j)), none, none]) (by decide) rfl hl (Nat.le_of_ble_eq_true rfl) rfl ?_
  refine r_aload0 dX6_dispute_0 ?_
  refine r_aload0 dX6_dispute_1 ?_
  refine r_iload1 dX6_dispute_2 ?_
  refine r_pV dX6_dispute_3 v_X6_130 (M_isPayment hl hT) rfl (hT.ob) rfl rfl rfl (Nat.le_of_ble_eq_true rfl) ⟨(Nat.le_of_ble_eq_true rfl), (Nat.le_of_ble_eq_true rfl)⟩ ⟨(Nat.le_of_ble_eq_true rfl), (Nat.le_of_ble_eq_true rfl)⟩ ?_
  refine r_if_ne (tgt := 13) dX6_dispute_6 (by decide) (fun c6 => ?_) (fun c6 => ?_)
  · refine r_aload0 dX6_dispute_13 ?_
    refine r_iload1 dX6_dispute_14 ?_
    refine r_pV dX6_dispute_15 v_X6_133 (M_canDispute hl hT (by omega)) rfl (hT.ob) rfl rfl rfl (Nat.le_of_ble_eq_true rfl) ⟨(Nat.le_of_ble_eq_true rfl), (Nat.le_of_ble_eq_true rfl)⟩ ⟨(Nat.le_of_ble_eq_true rfl), (Nat.le_of_ble_eq_true rfl)⟩ ?_
    refine r_if_eq (tgt := 25) dX6_dispute_18 (by decide) (fun c18 => ?_) (fun c18 => ?_)
    · refine r_iconst (v := 2) dX6_dispute_25 (by decide) ?_
      refine mm_put_thr dX6_dispute_26 rfl hT (fun h1 hT => ?_)
      refine r_aload0 dX6_dispute_29 ?_
      refine r_getf dX6_dispute_30 f_X6_22 (hT.ob) rfl ?_
      refine r_if_le (tgt := 38) dX6_dispute_33 (by decide) (fun c33 => ?_) (fun c33 => ?_)
      · exact absurd c33 (by decide)
      · refine r_iconst (v := 0) dX6_dispute_36 (by decide) ?_
        exact r_iret dX6_dispute_37 rfl ⟨(Nat.le_of_ble_eq_true rfl), (Nat.le_of_ble_eq_true rfl)⟩ ⟨rfl, hT⟩
    · first | exact absurd (by assumption) (tp_b_0.mp c18) | exact absurd (by assumption) (tp_b_0.mp (Classical.not_not.mp c18)) | exact absurd (tp_b_n c18) (by assumption) | exact absurd (by assumption) c18 | exact absurd c18 (by assumption)
  · first | exact absurd (by assumption) (tp_b_0.mp c6) | exact absurd (by assumption) (tp_b_0.mp (Classical.not_not.mp c6)) | exact absurd (tp_b_n c6) (by assumption) | exact absurd (by assumption) c6 | exact absurd c6 (by assumption)

set_option maxRecDepth 100000 in
set_option maxHeartbeats 4000000 in
theorem Q_decide_w {s : Nat} {l : Launch} {G : tp_G} {y : Nat} {h0 h : tp_H} {z hi tx pa : Nat → Int32} {len thr rd nu du : Int32} {hs : Int64} (hl : l.stackTraces = false) (hT0 : mm_S G y h0 z hi tx pa (nI s) len thr rd nu du hs h) (hs6 : s ≤ 6) {j : Nat} {b : Int32} (hj : j < 12) (hin : 0 ≤ nI j ∧ nI j ≤ z 9 - 1) (hm : z (136 + 5 * j + 4) = 1) (hb : ¬ b = 0) : tp_Met l G mX6_decide 0 0 [.ref y, .int (nI j), .int b] h (tp_PS (some (.int (0))) (fun h1 => mm_S G y h (va_up z (136 + 5 * j + 4) 2) (z_saveH hi z s) tx pa (nI (z_saveN s)) len 0 rd nu du hs h1)) tp_NX := by
  have hT := hT0.self
  refine tp_start (L0 := [some (.ref y), some (.int (nI j)), some (.int b)]) (by decide) rfl hl (Nat.le_of_ble_eq_true rfl) rfl ?_
  refine r_aload0 dX6_decide_0 ?_
  refine r_aload0 dX6_decide_1 ?_
  refine r_iload1 dX6_decide_2 ?_
  refine r_pV dX6_decide_3 v_X6_130 (M_isPayment hl hT) rfl (hT.ob) rfl rfl rfl (Nat.le_of_ble_eq_true rfl) ⟨(Nat.le_of_ble_eq_true rfl), (Nat.le_of_ble_eq_true rfl)⟩ ⟨(Nat.le_of_ble_eq_true rfl), (Nat.le_of_ble_eq_true rfl)⟩ ?_
  refine r_if_ne (tgt := 13) dX6_decide_6 (by decide) (fun c6 => ?_) (fun c6 => ?_)
  · refine r_aload0 dX6_decide_13 ?_
    refine r_iload1 dX6_decide_14 ?_
    refine r_iconst (v := 4) dX6_decide_15 (by decide) ?_
    refine r_pV dX6_decide_16 v_X6_127 (M_ofPayment (j := 4) hl hT (by omega) (by omega)) rfl (hT.ob) rfl rfl rfl (Nat.le_of_ble_eq_true rfl) ⟨(Nat.le_of_ble_eq_true rfl), (Nat.le_of_ble_eq_true rfl)⟩ ⟨(Nat.le_of_ble_eq_true rfl), (Nat.le_of_ble_eq_true rfl)⟩ ?_
    refine r_iconst (v := 1) dX6_decide_19 (by decide) ?_
    refine r_icmp_ne (tgt := 27) dX6_decide_20 (by decide) (fun c20 => ?_) (fun c20 => ?_)
    · first | exact absurd (by assumption) (tp_b_0.mp c20) | exact absurd (by assumption) (tp_b_0.mp (Classical.not_not.mp c20)) | exact absurd (tp_b_n c20) (by assumption) | exact absurd (by assumption) c20 | exact absurd c20 (by assumption)
    · refine r_iconst (v := 0) dX6_decide_23 (by decide) ?_
      refine r_goto (tgt := 28) dX6_decide_24 (by decide) ?_
      refine mm_put_thr dX6_decide_28 rfl hT (fun h1 hT => ?_)
      refine r_aload0 dX6_decide_31 ?_
      refine r_getf dX6_decide_32 f_X6_22 (hT.ob) rfl ?_
      refine r_if_le (tgt := 40) dX6_decide_35 (by decide) (fun c35 => ?_) (fun c35 => ?_)
      · refine r_aload0 dX6_decide_40 ?_
        refine r_sV0 dX6_decide_41 v_X6_68 (M_save hl hT hs6) rfl (hT.ob) rfl rfl rfl (Nat.le_of_ble_eq_true rfl) ⟨(Nat.le_of_ble_eq_true rfl), (Nat.le_of_ble_eq_true rfl)⟩ ⟨(Nat.le_of_ble_eq_true rfl), (Nat.le_of_ble_eq_true rfl)⟩ (fun h1 hP => ?_)
        have hT := hT.trans hP
        refine r_aload0 dX6_decide_44 ?_
        refine r_getf dX6_decide_45 f_X6_7 (hT.ob) rfl ?_
        refine r_sipush (v := 136) dX6_decide_48 (by decide) ?_
        refine r_iconst (v := 5) dX6_decide_51 (by decide) ?_
        refine r_iload1 dX6_decide_52 ?_
        refine r_imul dX6_decide_53 ?_
        refine r_iadd dX6_decide_54 ?_
        refine r_iconst (v := 4) dX6_decide_55 (by decide) ?_
        refine r_iadd dX6_decide_56 ?_
        refine r_iload2 dX6_decide_57 ?_
        refine r_if_eq (tgt := 65) dX6_decide_58 (by decide) (fun c58 => ?_) (fun c58 => ?_)
        · first | exact absurd (by assumption) (tp_b_0.mp c58) | exact absurd (by assumption) (tp_b_0.mp (Classical.not_not.mp c58)) | exact absurd (tp_b_n c58) (by assumption) | exact absurd (by assumption) c58 | exact absurd c58 (by assumption)
        · refine r_iconst (v := 2) dX6_decide_61 (by decide) ?_
          refine r_goto (tgt := 66) dX6_decide_62 (by decide) ?_
          refine mm_st_z dX6_decide_66 hT (i := 136 + 5 * j + 4) (by rw [show (5 : Int32) = nI 5 from rfl, show (136 : Int32) = nI 136 from rfl, tp_mul, tp_add]; exact tp_add (136 + 5 * j) 4) (by omega) (fun h1 hT => ?_)
          refine r_iload2 dX6_decide_67 ?_
          refine r_if_eq (tgt := 75) dX6_decide_68 (by decide) (fun c68 => ?_) (fun c68 => ?_)
          · first | exact absurd (by assumption) (tp_b_0.mp c68) | exact absurd (by assumption) (tp_b_0.mp (Classical.not_not.mp c68)) | exact absurd (tp_b_n c68) (by assumption) | exact absurd (by assumption) c68 | exact absurd c68 (by assumption)
          · refine r_iconst (v := 0) dX6_decide_71 (by decide) ?_
            refine r_goto (tgt := 97) dX6_decide_72 (by decide) ?_
            exact r_iret dX6_decide_97 rfl ⟨(Nat.le_of_ble_eq_true rfl), (Nat.le_of_ble_eq_true rfl)⟩ ⟨rfl, hT⟩
      · exact absurd (show (0 : Int32) ≤ 0 by decide) c35
  · first | exact absurd (by assumption) (tp_b_0.mp c6) | exact absurd (by assumption) (tp_b_0.mp (Classical.not_not.mp c6)) | exact absurd (tp_b_n c6) (by assumption) | exact absurd (by assumption) c6 | exact absurd c6 (by assumption)

set_option maxRecDepth 100000 in
set_option maxHeartbeats 4000000 in
theorem Q_decide_l {s : Nat} {l : Launch} {G : tp_G} {y : Nat} {h0 h : tp_H} {z hi tx pa : Nat → Int32} {len thr rd nu du : Int32} {hs : Int64} (hl : l.stackTraces = false) (hT0 : mm_S G y h0 z hi tx pa (nI s) len thr rd nu du hs h) (hs6 : s ≤ 6) {j w c N : Nat} (hz8 : z 8 = nI N) (hN : N ≤ 8) (hj : j < 12) (hin : 0 ≤ nI j ∧ nI j ≤ z 9 - 1) (hw : w < 4) (hc : c < 4) (hw0 : z (136 + 5 * j + 0) = nI w) (hc0 : z (136 + 5 * j + 1) = nI c) (hm : z (136 + 5 * j + 4) = 1) : tp_Met l G mX6_decide 0 0 [.ref y, .int (nI j), .int 0] h (tp_PS (some (.int (z (136 + 5 * j + 2) - z_taken (va_up z (136 + 5 * j + 4) 3) w c (z (136 + 5 * j + 2))))) (fun h1 => mm_S G y h (z_back (va_up z (136 + 5 * j + 4) 3) w c (z (136 + 5 * j + 2))) (z_saveH hi z s) tx pa (nI (z_saveN s)) len 0 rd nu du hs h1)) tp_NX := by
  have hT := hT0.self
  refine tp_start (L0 := [some (.ref y), some (.int (nI j)), some (.int 0)]) (by decide) rfl hl (Nat.le_of_ble_eq_true rfl) rfl ?_
  refine r_aload0 dX6_decide_0 ?_
  refine r_aload0 dX6_decide_1 ?_
  refine r_iload1 dX6_decide_2 ?_
  refine r_pV dX6_decide_3 v_X6_130 (M_isPayment hl hT) rfl (hT.ob) rfl rfl rfl (Nat.le_of_ble_eq_true rfl) ⟨(Nat.le_of_ble_eq_true rfl), (Nat.le_of_ble_eq_true rfl)⟩ ⟨(Nat.le_of_ble_eq_true rfl), (Nat.le_of_ble_eq_true rfl)⟩ ?_
  refine r_if_ne (tgt := 13) dX6_decide_6 (by decide) (fun c6 => ?_) (fun c6 => ?_)
  · refine r_aload0 dX6_decide_13 ?_
    refine r_iload1 dX6_decide_14 ?_
    refine r_iconst (v := 4) dX6_decide_15 (by decide) ?_
    refine r_pV dX6_decide_16 v_X6_127 (M_ofPayment (j := 4) hl hT (by omega) (by omega)) rfl (hT.ob) rfl rfl rfl (Nat.le_of_ble_eq_true rfl) ⟨(Nat.le_of_ble_eq_true rfl), (Nat.le_of_ble_eq_true rfl)⟩ ⟨(Nat.le_of_ble_eq_true rfl), (Nat.le_of_ble_eq_true rfl)⟩ ?_
    refine r_iconst (v := 1) dX6_decide_19 (by decide) ?_
    refine r_icmp_ne (tgt := 27) dX6_decide_20 (by decide) (fun c20 => ?_) (fun c20 => ?_)
    · first | exact absurd (by assumption) (tp_b_0.mp c20) | exact absurd (by assumption) (tp_b_0.mp (Classical.not_not.mp c20)) | exact absurd (tp_b_n c20) (by assumption) | exact absurd (by assumption) c20 | exact absurd c20 (by assumption)
    · refine r_iconst (v := 0) dX6_decide_23 (by decide) ?_
      refine r_goto (tgt := 28) dX6_decide_24 (by decide) ?_
      refine mm_put_thr dX6_decide_28 rfl hT (fun h1 hT => ?_)
      refine r_aload0 dX6_decide_31 ?_
      refine r_getf dX6_decide_32 f_X6_22 (hT.ob) rfl ?_
      refine r_if_le (tgt := 40) dX6_decide_35 (by decide) (fun c35 => ?_) (fun c35 => ?_)
      · refine r_aload0 dX6_decide_40 ?_
        refine r_sV0 dX6_decide_41 v_X6_68 (M_save hl hT hs6) rfl (hT.ob) rfl rfl rfl (Nat.le_of_ble_eq_true rfl) ⟨(Nat.le_of_ble_eq_true rfl), (Nat.le_of_ble_eq_true rfl)⟩ ⟨(Nat.le_of_ble_eq_true rfl), (Nat.le_of_ble_eq_true rfl)⟩ (fun h1 hP => ?_)
        have hT := hT.trans hP
        refine r_aload0 dX6_decide_44 ?_
        refine r_getf dX6_decide_45 f_X6_7 (hT.ob) rfl ?_
        refine r_sipush (v := 136) dX6_decide_48 (by decide) ?_
        refine r_iconst (v := 5) dX6_decide_51 (by decide) ?_
        refine r_iload1 dX6_decide_52 ?_
        refine r_imul dX6_decide_53 ?_
        refine r_iadd dX6_decide_54 ?_
        refine r_iconst (v := 4) dX6_decide_55 (by decide) ?_
        refine r_iadd dX6_decide_56 ?_
        refine r_iload2 dX6_decide_57 ?_
        refine r_if_eq (tgt := 65) dX6_decide_58 (by decide) (fun c58 => ?_) (fun c58 => ?_)
        · refine r_iconst (v := 3) dX6_decide_65 (by decide) ?_
          refine mm_st_z dX6_decide_66 hT (i := 136 + 5 * j + 4) (by rw [show (5 : Int32) = nI 5 from rfl, show (136 : Int32) = nI 136 from rfl, tp_mul, tp_add]; exact tp_add (136 + 5 * j) 4) (by omega) (fun h1 hT => ?_)
          refine r_iload2 dX6_decide_67 ?_
          refine r_if_eq (tgt := 75) dX6_decide_68 (by decide) (fun c68 => ?_) (fun c68 => ?_)
          · refine r_aload0 dX6_decide_75 ?_
            refine r_aload0 dX6_decide_76 ?_
            refine r_iload1 dX6_decide_77 ?_
            refine r_iconst (v := 0) dX6_decide_78 (by decide) ?_
            refine r_pV dX6_decide_79 v_X6_127 (M_ofPayment (j := 0) hl hT (by omega) (by omega)) rfl (hT.ob) rfl rfl rfl (Nat.le_of_ble_eq_true rfl) ⟨(Nat.le_of_ble_eq_true rfl), (Nat.le_of_ble_eq_true rfl)⟩ ⟨(Nat.le_of_ble_eq_true rfl), (Nat.le_of_ble_eq_true rfl)⟩ ?_
            rw [va_c1 (136 + 5 * j + 0) (by omega), hw0]
            refine r_aload0 dX6_decide_82 ?_
            refine r_iload1 dX6_decide_83 ?_
            refine r_iconst (v := 1) dX6_decide_84 (by decide) ?_
            refine r_pV dX6_decide_85 v_X6_127 (M_ofPayment (j := 1) hl hT (by omega) (by omega)) rfl (hT.ob) rfl rfl rfl (Nat.le_of_ble_eq_true rfl) ⟨(Nat.le_of_ble_eq_true rfl), (Nat.le_of_ble_eq_true rfl)⟩ ⟨(Nat.le_of_ble_eq_true rfl), (Nat.le_of_ble_eq_true rfl)⟩ ?_
            rw [va_c1 (136 + 5 * j + 1) (by omega), hc0]
            refine r_aload0 dX6_decide_88 ?_
            refine r_iload1 dX6_decide_89 ?_
            refine r_iconst (v := 2) dX6_decide_90 (by decide) ?_
            refine r_pV dX6_decide_91 v_X6_127 (M_ofPayment (j := 2) hl hT (by omega) (by omega)) rfl (hT.ob) rfl rfl rfl (Nat.le_of_ble_eq_true rfl) ⟨(Nat.le_of_ble_eq_true rfl), (Nat.le_of_ble_eq_true rfl)⟩ ⟨(Nat.le_of_ble_eq_true rfl), (Nat.le_of_ble_eq_true rfl)⟩ ?_
            rw [va_c1 (136 + 5 * j + 2) (by omega)]
            refine r_sV1 dX6_decide_94 v_X6_136 (M_takesBack hl hT hw hc ((va_c1 8 (by omega)).trans hz8) hN) rfl (hT.ob) rfl rfl rfl (Nat.le_of_ble_eq_true rfl) ⟨(Nat.le_of_ble_eq_true rfl), (Nat.le_of_ble_eq_true rfl)⟩ ⟨(Nat.le_of_ble_eq_true rfl), (Nat.le_of_ble_eq_true rfl)⟩ (fun h1 hP => ?_)
            have hT := hT.trans hP
            exact r_iret dX6_decide_97 rfl ⟨(Nat.le_of_ble_eq_true rfl), (Nat.le_of_ble_eq_true rfl)⟩ ⟨rfl, hT⟩
          · exact absurd rfl c68
        · exact absurd rfl c58
      · exact absurd (show (0 : Int32) ≤ 0 by decide) c35
  · first | exact absurd (by assumption) (tp_b_0.mp c6) | exact absurd (by assumption) (tp_b_0.mp (Classical.not_not.mp c6)) | exact absurd (tp_b_n c6) (by assumption) | exact absurd (by assumption) c6 | exact absurd c6 (by assumption)

set_option maxRecDepth 100000 in
set_option maxHeartbeats 4000000 in
theorem Q_decide_1 {l : Launch} {G : tp_G} {y : Nat} {h0 h : tp_H} {z hi tx pa : Nat → Int32} {st len thr rd nu du : Int32} {hs : Int64} (hl : l.stackTraces = false) (hT0 : mm_S G y h0 z hi tx pa st len thr rd nu du hs h) {v b : Int32} (hbad : ¬ (0 ≤ v ∧ v ≤ z 9 - 1)) : tp_Met l G mX6_decide 0 0 [.ref y, .int v, .int b] h (tp_PS (some (.int 0)) (fun h1 => mm_S G y h z hi tx pa st len 1 rd nu du hs h1)) tp_NX := by
  have hT := hT0.self
  refine tp_start (L0 := [some (.ref y), some (.int v), some (.int b)]) (by decide) rfl hl (Nat.le_of_ble_eq_true rfl) rfl ?_
  refine r_aload0 dX6_decide_0 ?_
  refine r_aload0 dX6_decide_1 ?_
  refine r_iload1 dX6_decide_2 ?_
  refine r_pV dX6_decide_3 v_X6_130 (M_isPayment hl hT) rfl (hT.ob) rfl rfl rfl (Nat.le_of_ble_eq_true rfl) ⟨(Nat.le_of_ble_eq_true rfl), (Nat.le_of_ble_eq_true rfl)⟩ ⟨(Nat.le_of_ble_eq_true rfl), (Nat.le_of_ble_eq_true rfl)⟩ ?_
  refine r_if_ne (tgt := 13) dX6_decide_6 (by decide) (fun c6 => ?_) (fun c6 => ?_)
  · first | exact absurd (by assumption) (tp_b_0.mp c6) | exact absurd (by assumption) (tp_b_0.mp (Classical.not_not.mp c6)) | exact absurd (tp_b_n c6) (by assumption) | exact absurd (by assumption) c6 | exact absurd c6 (by assumption)
  · refine r_iconst (v := 1) dX6_decide_9 (by decide) ?_
    refine r_goto (tgt := 28) dX6_decide_10 (by decide) ?_
    refine mm_put_thr dX6_decide_28 rfl hT (fun h1 hT => ?_)
    refine r_aload0 dX6_decide_31 ?_
    refine r_getf dX6_decide_32 f_X6_22 (hT.ob) rfl ?_
    refine r_if_le (tgt := 40) dX6_decide_35 (by decide) (fun c35 => ?_) (fun c35 => ?_)
    · exact absurd c35 (by decide)
    · refine r_iconst (v := 0) dX6_decide_38 (by decide) ?_
      exact r_iret dX6_decide_39 rfl ⟨(Nat.le_of_ble_eq_true rfl), (Nat.le_of_ble_eq_true rfl)⟩ ⟨rfl, hT⟩

set_option maxRecDepth 100000 in
set_option maxHeartbeats 4000000 in
theorem Q_decide_2 {l : Launch} {G : tp_G} {y : Nat} {h0 h : tp_H} {z hi tx pa : Nat → Int32} {st len thr rd nu du : Int32} {hs : Int64} (hl : l.stackTraces = false) (hT0 : mm_S G y h0 z hi tx pa st len thr rd nu du hs h) {j : Nat} {b : Int32} (hj : j < 12) (hin : 0 ≤ nI j ∧ nI j ≤ z 9 - 1) (hm : ¬ z (136 + 5 * j + 4) = 1) : tp_Met l G mX6_decide 0 0 [.ref y, .int (nI j), .int b] h (tp_PS (some (.int 0)) (fun h1 => mm_S G y h z hi tx pa st len 2 rd nu du hs h1)) tp_NX := by
  have hT := hT0.self
  refine tp_start (L0 := [some (.ref y), some (.int (nI j)), some (.int b)]) (by decide) rfl hl (Nat.le_of_ble_eq_true rfl) rfl ?_
  refine r_aload0 dX6_decide_0 ?_
  refine r_aload0 dX6_decide_1 ?_
  refine r_iload1 dX6_decide_2 ?_
  refine r_pV dX6_decide_3 v_X6_130 (M_isPayment hl hT) rfl (hT.ob) rfl rfl rfl (Nat.le_of_ble_eq_true rfl) ⟨(Nat.le_of_ble_eq_true rfl), (Nat.le_of_ble_eq_true rfl)⟩ ⟨(Nat.le_of_ble_eq_true rfl), (Nat.le_of_ble_eq_true rfl)⟩ ?_
  refine r_if_ne (tgt := 13) dX6_decide_6 (by decide) (fun c6 => ?_) (fun c6 => ?_)
  · refine r_aload0 dX6_decide_13 ?_
    refine r_iload1 dX6_decide_14 ?_
    refine r_iconst (v := 4) dX6_decide_15 (by decide) ?_
    refine r_pV dX6_decide_16 v_X6_127 (M_ofPayment (j := 4) hl hT (by omega) (by omega)) rfl (hT.ob) rfl rfl rfl (Nat.le_of_ble_eq_true rfl) ⟨(Nat.le_of_ble_eq_true rfl), (Nat.le_of_ble_eq_true rfl)⟩ ⟨(Nat.le_of_ble_eq_true rfl), (Nat.le_of_ble_eq_true rfl)⟩ ?_
    refine r_iconst (v := 1) dX6_decide_19 (by decide) ?_
    refine r_icmp_ne (tgt := 27) dX6_decide_20 (by decide) (fun c20 => ?_) (fun c20 => ?_)
    · refine r_iconst (v := 2) dX6_decide_27 (by decide) ?_
      refine mm_put_thr dX6_decide_28 rfl hT (fun h1 hT => ?_)
      refine r_aload0 dX6_decide_31 ?_
      refine r_getf dX6_decide_32 f_X6_22 (hT.ob) rfl ?_
      refine r_if_le (tgt := 40) dX6_decide_35 (by decide) (fun c35 => ?_) (fun c35 => ?_)
      · exact absurd c35 (by decide)
      · refine r_iconst (v := 0) dX6_decide_38 (by decide) ?_
        exact r_iret dX6_decide_39 rfl ⟨(Nat.le_of_ble_eq_true rfl), (Nat.le_of_ble_eq_true rfl)⟩ ⟨rfl, hT⟩
    · first | exact absurd (by assumption) (tp_b_0.mp c20) | exact absurd (by assumption) (tp_b_0.mp (Classical.not_not.mp c20)) | exact absurd (tp_b_n c20) (by assumption) | exact absurd (by assumption) c20 | exact absurd c20 (by assumption)
  · first | exact absurd (by assumption) (tp_b_0.mp c6) | exact absurd (by assumption) (tp_b_0.mp (Classical.not_not.mp c6)) | exact absurd (tp_b_n c6) (by assumption) | exact absurd (by assumption) c6 | exact absurd c6 (by assumption)

