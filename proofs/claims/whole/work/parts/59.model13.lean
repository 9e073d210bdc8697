set_option maxRecDepth 100000 in
set_option maxHeartbeats 4000000 in
theorem Q_purse {l : Launch} {G : tp_G} {y : Nat} {h0 h : tp_H} {z hi tx pa : Nat → Int32} {st len thr rd nu du : Int32} {hs : Int64} (hl : l.stackTraces = false) (hT0 : mm_S G y h0 z hi tx pa st len thr rd nu du hs h) {w c j : Nat} (hI1 : z_I1 z) (hI2 : z_I2 z) (hw : w < 4) (hc : c < 4) (hj : j < 8) (hj7 : 0 ≤ nI j ∧ nI j ≤ 7) : tp_Met l G mX6_purse 0 0 [.ref y, .int (nI w), .int (nI c), .int (nI j)] h (tp_PS (some (.int (z_purse z w c j))) (fun h1 => mm_S G y h z hi tx pa st len 0 rd nu du hs h1)) tp_NX := by
  have hT := hT0.self
  have hp : (0 ≤ nI w ∧ nI w ≤ 3) ∧ (0 ≤ nI c ∧ nI c ≤ 3) := ⟨tp_in4 hw, tp_in4 hc⟩
  refine tp_start (L0 := [some (.ref y), some (.int (nI w)), some (.int (nI c)), some (.int (nI j))]) (by decide) rfl hl (Nat.le_of_ble_eq_true rfl) rfl ?_
  refine r_aload0 dX6_purse_0 ?_
  refine r_iload1 dX6_purse_1 ?_
  refine r_iload2 dX6_purse_2 ?_
  refine r_pS dX6_purse_3 v_X6_40 (M_isPurse hl) rfl rfl rfl (Nat.le_of_ble_eq_true rfl) ⟨(Nat.le_of_ble_eq_true rfl), (Nat.le_of_ble_eq_true rfl)⟩ ⟨(Nat.le_of_ble_eq_true rfl), (Nat.le_of_ble_eq_true rfl)⟩ ?_
  refine r_if_ne (tgt := 13) dX6_purse_6 (by decide) (fun c6 => ?_) (fun c6 => ?_)
  · refine r_iload3 dX6_purse_13 ?_
    refine r_iconst (v := 0) dX6_purse_14 (by decide) ?_
    refine r_bipush (v := 7) dX6_purse_15 (by decide) ?_
    refine r_pS dX6_purse_17 v_X6_29 (M_within hl) rfl rfl rfl (Nat.le_of_ble_eq_true rfl) ⟨(Nat.le_of_ble_eq_true rfl), (Nat.le_of_ble_eq_true rfl)⟩ ⟨(Nat.le_of_ble_eq_true rfl), (Nat.le_of_ble_eq_true rfl)⟩ ?_
    refine r_if_eq (tgt := 27) dX6_purse_20 (by decide) (fun c20 => ?_) (fun c20 => ?_)
    · first | exact absurd (by assumption) (tp_b_0.mp c20) | exact absurd (by assumption) (tp_b_0.mp (Classical.not_not.mp c20)) | exact absurd (tp_b_n c20) (by assumption) | exact absurd (by assumption) c20 | exact absurd c20 (by assumption)
    · refine r_iconst (v := 0) dX6_purse_23 (by decide) ?_
      refine r_goto (tgt := 28) dX6_purse_24 (by decide) ?_
      refine mm_put_thr dX6_purse_28 rfl hT (fun h1 hT => ?_)
      refine r_aload0 dX6_purse_31 ?_
      refine r_getf dX6_purse_32 f_X6_22 (hT.ob) rfl ?_
      refine r_if_le (tgt := 42) dX6_purse_35 (by decide) (fun c35 => ?_) (fun c35 => ?_)
      · refine r_aload0 dX6_purse_42 ?_
        refine r_iload1 dX6_purse_43 ?_
        refine r_iload2 dX6_purse_44 ?_
        refine r_iload3 dX6_purse_45 ?_
        refine r_pV dX6_purse_46 v_X6_194 (M_purseNow_I hl hT hI1 hw hc hj) rfl (hT.ob) rfl rfl rfl (Nat.le_of_ble_eq_true rfl) ⟨(Nat.le_of_ble_eq_true rfl), (Nat.le_of_ble_eq_true rfl)⟩ ⟨(Nat.le_of_ble_eq_true rfl), (Nat.le_of_ble_eq_true rfl)⟩ ?_
        exact r_iret dX6_purse_49 rfl ⟨(Nat.le_of_ble_eq_true rfl), (Nat.le_of_ble_eq_true rfl)⟩ ⟨rfl, hT⟩
      · exact absurd (show (0 : Int32) ≤ 0 by decide) c35
  · first | exact absurd (by assumption) (tp_b_0.mp c6) | exact absurd (by assumption) (tp_b_0.mp (Classical.not_not.mp c6)) | exact absurd (tp_b_n c6) (by assumption) | exact absurd (by assumption) c6 | exact absurd c6 (by assumption)

set_option maxRecDepth 100000 in
set_option maxHeartbeats 4000000 in
theorem Q_purse_1 {l : Launch} {G : tp_G} {y : Nat} {h0 h : tp_H} {z hi tx pa : Nat → Int32} {st len thr rd nu du : Int32} {hs : Int64} (hl : l.stackTraces = false) (hT0 : mm_S G y h0 z hi tx pa st len thr rd nu du hs h) {w c j : Int32} (hbad : ¬ ((0 ≤ w ∧ w ≤ 3) ∧ (0 ≤ c ∧ c ≤ 3))) : tp_Met l G mX6_purse 0 0 [.ref y, .int w, .int c, .int j] h (tp_PS (some (.int 0)) (fun h1 => mm_S G y h z hi tx pa st len 1 rd nu du hs h1)) tp_NX := by
  have hT := hT0.self
  refine tp_start (L0 := [some (.ref y), some (.int w), some (.int c), some (.int j)]) (by decide) rfl hl (Nat.le_of_ble_eq_true rfl) rfl ?_
  refine r_aload0 dX6_purse_0 ?_
  refine r_iload1 dX6_purse_1 ?_
  refine r_iload2 dX6_purse_2 ?_
  refine r_pS dX6_purse_3 v_X6_40 (M_isPurse hl) rfl rfl rfl (Nat.le_of_ble_eq_true rfl) ⟨(Nat.le_of_ble_eq_true rfl), (Nat.le_of_ble_eq_true rfl)⟩ ⟨(Nat.le_of_ble_eq_true rfl), (Nat.le_of_ble_eq_true rfl)⟩ ?_
  refine r_if_ne (tgt := 13) dX6_purse_6 (by decide) (fun c6 => ?_) (fun c6 => ?_)
  · first | exact absurd (by assumption) (tp_b_0.mp c6) | exact absurd (by assumption) (tp_b_0.mp (Classical.not_not.mp c6)) | exact absurd (tp_b_n c6) (by assumption) | exact absurd (by assumption) c6 | exact absurd c6 (by assumption)
  · refine r_iconst (v := 1) dX6_purse_9 (by decide) ?_
    refine r_goto (tgt := 28) dX6_purse_10 (by decide) ?_
    refine mm_put_thr dX6_purse_28 rfl hT (fun h1 hT => ?_)
    refine r_aload0 dX6_purse_31 ?_
    refine r_getf dX6_purse_32 f_X6_22 (hT.ob) rfl ?_
    refine r_if_le (tgt := 42) dX6_purse_35 (by decide) (fun c35 => ?_) (fun c35 => ?_)
    · exact absurd c35 (by decide)
    · refine r_iconst (v := 0) dX6_purse_38 (by decide) ?_
      refine r_goto (tgt := 49) dX6_purse_39 (by decide) ?_
      exact r_iret dX6_purse_49 rfl ⟨(Nat.le_of_ble_eq_true rfl), (Nat.le_of_ble_eq_true rfl)⟩ ⟨rfl, hT⟩

set_option maxRecDepth 100000 in
set_option maxHeartbeats 4000000 in
theorem Q_purse_2 {l : Launch} {G : tp_G} {y : Nat} {h0 h : tp_H} {z hi tx pa : Nat → Int32} {st len thr rd nu du : Int32} {hs : Int64} (hl : l.stackTraces = false) (hT0 : mm_S G y h0 z hi tx pa st len thr rd nu du hs h) {w c j : Int32} (hp : (0 ≤ w ∧ w ≤ 3) ∧ (0 ≤ c ∧ c ≤ 3)) (hbad : ¬ (0 ≤ j ∧ j ≤ 7)) : tp_Met l G mX6_purse 0 0 [.ref y, .int w, .int c, .int j] h (tp_PS (some (.int 0)) (fun h1 => mm_S G y h z hi tx pa st len 2 rd nu du hs h1)) tp_NX := by
  have hT := hT0.self
  refine tp_start (L0 := [some (.ref y), some (.int w), some (.int c), some (.int j)]) (by decide) rfl hl (Nat.le_of_ble_eq_true rfl) rfl ?_
  refine r_aload0 dX6_purse_0 ?_
  refine r_iload1 dX6_purse_1 ?_
  refine r_iload2 dX6_purse_2 ?_
  refine r_pS dX6_purse_3 v_X6_40 (M_isPurse hl) rfl rfl rfl (Nat.le_of_ble_eq_true rfl) ⟨(Nat.le_of_ble_eq_true rfl), (Nat.le_of_ble_eq_true rfl)⟩ ⟨(Nat.le_of_ble_eq_true rfl), (Nat.le_of_ble_eq_true rfl)⟩ ?_
  refine r_if_ne (tgt := 13) dX6_purse_6 (by decide) (fun c6 => ?_) (fun c6 => ?_)
  · refine r_iload3 dX6_purse_13 ?_
    refine r_iconst (v := 0) dX6_purse_14 (by decide) ?_
    refine r_bipush (v := 7) dX6_purse_15 (by decide) ?_
    refine r_pS dX6_purse_17 v_X6_29 (M_within hl) rfl rfl rfl (Nat.le_of_ble_eq_true rfl) ⟨(Nat.le_of_ble_eq_true rfl), (Nat.le_of_ble_eq_true rfl)⟩ ⟨(Nat.le_of_ble_eq_true rfl), (Nat.le_of_ble_eq_true rfl)⟩ ?_
    refine r_if_eq (tgt := 27) dX6_purse_20 (by decide) (fun c20 => ?_) (fun c20 => ?_)
    · refine r_iconst (v := 2) dX6_purse_27 (by decide) ?_
      refine mm_put_thr dX6_purse_28 rfl hT (fun h1 hT => ?_)
      refine r_aload0 dX6_purse_31 ?_
      refine r_getf dX6_purse_32 f_X6_22 (hT.ob) rfl ?_
      refine r_if_le (tgt := 42) dX6_purse_35 (by decide) (fun c35 => ?_) (fun c35 => ?_)
      · exact absurd c35 (by decide)
      · refine r_iconst (v := 0) dX6_purse_38 (by decide) ?_
        refine r_goto (tgt := 49) dX6_purse_39 (by decide) ?_
        exact r_iret dX6_purse_49 rfl ⟨(Nat.le_of_ble_eq_true rfl), (Nat.le_of_ble_eq_true rfl)⟩ ⟨rfl, hT⟩
    · first | exact absurd (by assumption) (tp_b_0.mp c20) | exact absurd (by assumption) (tp_b_0.mp (Classical.not_not.mp c20)) | exact absurd (tp_b_n c20) (by assumption) | exact absurd (by assumption) c20 | exact absurd c20 (by assumption)
  · first | exact absurd (by assumption) (tp_b_0.mp c6) | exact absurd (by assumption) (tp_b_0.mp (Classical.not_not.mp c6)) | exact absurd (tp_b_n c6) (by assumption) | exact absurd (by assumption) c6 | exact absurd c6 (by assumption)

set_option maxRecDepth 100000 in
set_option maxHeartbeats 4000000 in
theorem Q_held {l : Launch} {G : tp_G} {y : Nat} {h0 h : tp_H} {z hi tx pa : Nat → Int32} {st len thr rd nu du : Int32} {hs : Int64} (hl : l.stackTraces = false) (hT0 : mm_S G y h0 z hi tx pa st len thr rd nu du hs h) {j i : Nat} (hj : j < 8) (hin : 0 ≤ nI j ∧ nI j ≤ z 8 - 1) (hi9 : i < 5) (hi4 : 0 ≤ nI i ∧ nI i ≤ 4) : tp_Met l G mX6_held 0 0 [.ref y, .int (nI j), .int (nI i)] h (tp_PS (some (.int (z (96 + 5 * j + i)))) (fun h1 => mm_S G y h z hi tx pa st len 0 rd nu du hs h1)) tp_NX := by
  have hT := hT0.self
  refine tp_start (L0 := [some (.ref y), some (.int (nI j)), some (.int (nI i))]) (by decide) rfl hl (Nat.le_of_ble_eq_true rfl) rfl ?_
  refine r_aload0 dX6_held_0 ?_
  refine r_aload0 dX6_held_1 ?_
  refine r_iload1 dX6_held_2 ?_
  refine r_pV dX6_held_3 v_X6_120 (M_isHold hl hT) rfl (hT.ob) rfl rfl rfl (Nat.le_of_ble_eq_true rfl) ⟨(Nat.le_of_ble_eq_true rfl), (Nat.le_of_ble_eq_true rfl)⟩ ⟨(Nat.le_of_ble_eq_true rfl), (Nat.le_of_ble_eq_true rfl)⟩ ?_
  refine r_if_ne (tgt := 13) dX6_held_6 (by decide) (fun c6 => ?_) (fun c6 => ?_)
  · refine r_iload2 dX6_held_13 ?_
    refine r_iconst (v := 0) dX6_held_14 (by decide) ?_
    refine r_iconst (v := 4) dX6_held_15 (by decide) ?_
    refine r_pS dX6_held_16 v_X6_29 (M_within hl) rfl rfl rfl (Nat.le_of_ble_eq_true rfl) ⟨(Nat.le_of_ble_eq_true rfl), (Nat.le_of_ble_eq_true rfl)⟩ ⟨(Nat.le_of_ble_eq_true rfl), (Nat.le_of_ble_eq_true rfl)⟩ ?_
    refine r_if_eq (tgt := 26) dX6_held_19 (by decide) (fun c19 => ?_) (fun c19 => ?_)
    · first | exact absurd (by assumption) (tp_b_0.mp c19) | exact absurd (by assumption) (tp_b_0.mp (Classical.not_not.mp c19)) | exact absurd (tp_b_n c19) (by assumption) | exact absurd (by assumption) c19 | exact absurd c19 (by assumption)
    · refine r_iconst (v := 0) dX6_held_22 (by decide) ?_
      refine r_goto (tgt := 27) dX6_held_23 (by decide) ?_
      refine mm_put_thr dX6_held_27 rfl hT (fun h1 hT => ?_)
      refine r_aload0 dX6_held_30 ?_
      refine r_getf dX6_held_31 f_X6_22 (hT.ob) rfl ?_
      refine r_if_le (tgt := 41) dX6_held_34 (by decide) (fun c34 => ?_) (fun c34 => ?_)
      · refine r_aload0 dX6_held_41 ?_
        refine r_iload1 dX6_held_42 ?_
        refine r_iload2 dX6_held_43 ?_
        refine r_pV dX6_held_44 v_X6_52 (M_ofHold hl hT hj hi9) rfl (hT.ob) rfl rfl rfl (Nat.le_of_ble_eq_true rfl) ⟨(Nat.le_of_ble_eq_true rfl), (Nat.le_of_ble_eq_true rfl)⟩ ⟨(Nat.le_of_ble_eq_true rfl), (Nat.le_of_ble_eq_true rfl)⟩ ?_
        exact r_iret dX6_held_47 rfl ⟨(Nat.le_of_ble_eq_true rfl), (Nat.le_of_ble_eq_true rfl)⟩ ⟨rfl, hT⟩
      · exact absurd (show (0 : Int32) ≤ 0 by decide) c34
  · first | exact absurd (by assumption) (tp_b_0.mp c6) | exact absurd (by assumption) (tp_b_0.mp (Classical.not_not.mp c6)) | exact absurd (tp_b_n c6) (by assumption) | exact absurd (by assumption) c6 | exact absurd c6 (by assumption)

set_option maxRecDepth 100000 in
set_option maxHeartbeats 4000000 in
theorem Q_held_1 {l : Launch} {G : tp_G} {y : Nat} {h0 h : tp_H} {z hi tx pa : Nat → Int32} {st len thr rd nu du : Int32} {hs : Int64} (hl : l.stackTraces = false) (hT0 : mm_S G y h0 z hi tx pa st len thr rd nu du hs h) {v i : Int32} (hbad : ¬ (0 ≤ v ∧ v ≤ z 8 - 1)) : tp_Met l G mX6_held 0 0 [.ref y, .int v, .int i] h (tp_PS (some (.int 0)) (fun h1 => mm_S G y h z hi tx pa st len 1 rd nu du hs h1)) tp_NX := by
  have hT := hT0.self
  refine tp_start (L0 := [some (.ref y), some (.int v), some (.int i)]) (by decide) rfl hl (Nat.le_of_ble_eq_true rfl) rfl ?_
  refine r_aload0 dX6_held_0 ?_
  refine r_aload0 dX6_held_1 ?_
  refine r_iload1 dX6_held_2 ?_
  refine r_pV dX6_held_3 v_X6_120 (M_isHold hl hT) rfl (hT.ob) rfl rfl rfl (Nat.le_of_ble_eq_true rfl) ⟨(Nat.le_of_ble_eq_true rfl), (Nat.le_of_ble_eq_true rfl)⟩ ⟨(Nat.le_of_ble_eq_true rfl), (Nat.le_of_ble_eq_true rfl)⟩ ?_
  refine r_if_ne (tgt := 13) dX6_held_6 (by decide) (fun c6 => ?_) (fun c6 => ?_)
  · first | exact absurd (by assumption) (tp_b_0.mp c6) | exact absurd (by assumption) (tp_b_0.mp (Classical.not_not.mp c6)) | exact absurd (tp_b_n c6) (by assumption) | exact absurd (by assumption) c6 | exact absurd c6 (by assumption)
  · refine r_iconst (v := 1) dX6_held_9 (by decide) ?_
    refine r_goto (tgt := 27) dX6_held_10 (by decide) ?_
    refine mm_put_thr dX6_held_27 rfl hT (fun h1 hT => ?_)
    refine r_aload0 dX6_held_30 ?_
    refine r_getf dX6_held_31 f_X6_22 (hT.ob) rfl ?_
    refine r_if_le (tgt := 41) dX6_held_34 (by decide) (fun c34 => ?_) (fun c34 => ?_)
    · exact absurd c34 (by decide)
    · refine r_iconst (v := 0) dX6_held_37 (by decide) ?_
      refine r_goto (tgt := 47) dX6_held_38 (by decide) ?_
      exact r_iret dX6_held_47 rfl ⟨(Nat.le_of_ble_eq_true rfl), (Nat.le_of_ble_eq_true rfl)⟩ ⟨rfl, hT⟩

set_option maxRecDepth 100000 in
set_option maxHeartbeats 4000000 in
theorem Q_held_2 {l : Launch} {G : tp_G} {y : Nat} {h0 h : tp_H} {z hi tx pa : Nat → Int32} {st len thr rd nu du : Int32} {hs : Int64} (hl : l.stackTraces = false) (hT0 : mm_S G y h0 z hi tx pa st len thr rd nu du hs h) {v i : Int32} (hin : 0 ≤ v ∧ v ≤ z 8 - 1) (hbad : ¬ (0 ≤ i ∧ i ≤ 4)) : tp_Met l G mX6_held 0 0 [.ref y, .int v, .int i] h (tp_PS (some (.int 0)) (fun h1 => mm_S G y h z hi tx pa st len 2 rd nu du hs h1)) tp_NX := by
  have hT := hT0.self
  refine tp_start (L0 := [some (.ref y), some (.int v), some (.int i)]) (by decide) rfl hl (Nat.le_of_ble_eq_true rfl) rfl ?_
  refine r_aload0 dX6_held_0 ?_
  refine r_aload0 dX6_held_1 ?_
  refine r_iload1 dX6_held_2 ?_
  refine r_pV dX6_held_3 v_X6_120 (M_isHold hl hT) rfl (hT.ob) rfl rfl rfl (Nat.le_of_ble_eq_true rfl) ⟨(Nat.le_of_ble_eq_true rfl), (Nat.le_of_ble_eq_true rfl)⟩ ⟨(Nat.le_of_ble_eq_true rfl), (Nat.le_of_ble_eq_true rfl)⟩ ?_
  refine r_if_ne (tgt := 13) dX6_held_6 (by decide) (fun c6 => ?_) (fun c6 => ?_)
  · refine r_iload2 dX6_held_13 ?_
    refine r_iconst (v := 0) dX6_held_14 (by decide) ?_
    refine r_iconst (v := 4) dX6_held_15 (by decide) ?_
    refine r_pS dX6_held_16 v_X6_29 (M_within hl) rfl rfl rfl (Nat.le_of_ble_eq_true rfl) ⟨(Nat.le_of_ble_eq_true rfl), (Nat.le_of_ble_eq_true rfl)⟩ ⟨(Nat.le_of_ble_eq_true rfl), (Nat.le_of_ble_eq_true rfl)⟩ ?_
    refine r_if_eq (tgt := 26) dX6_held_19 (by decide) (fun c19 => ?_) (fun c19 => ?_)
    · refine r_iconst (v := 2) dX6_held_26 (by decide) ?_
      refine mm_put_thr dX6_held_27 rfl hT (fun h1 hT => ?_)
      refine r_aload0 dX6_held_30 ?_
      refine r_getf dX6_held_31 f_X6_22 (hT.ob) rfl ?_
      refine r_if_le (tgt := 41) dX6_held_34 (by decide) (fun c34 => ?_) (fun c34 => ?_)
      · exact absurd c34 (by decide)
      · refine r_iconst (v := 0) dX6_held_37 (by decide) ?_
        refine r_goto (tgt := 47) dX6_held_38 (by decide) ?_
        exact r_iret dX6_held_47 rfl ⟨(Nat.le_of_ble_eq_true rfl), (Nat.le_of_ble_eq_true rfl)⟩ ⟨rfl, hT⟩
    · first | exact absurd (by assumption) (tp_b_0.mp c19) | exact absurd (by assumption) (tp_b_0.mp (Classical.not_not.mp c19)) | exact absurd (tp_b_n c19) (by assumption) | exact absurd (by assumption) c19 | exact absurd c19 (by assumption)
  · first | exact absurd (by assumption) (tp_b_0.mp c6) | exact absurd (by assumption) (tp_b_0.mp (Classical.not_not.mp c6)) | exact absurd (tp_b_n c6) (by assumption) | exact absurd (by assumption) c6 | exact absurd c6 (by assumption)

set_option maxRecDepth 100000 in
set_option maxHeartbeats 4000000 in
theorem Q_payment {l : Launch} {G : tp_G} {y : Nat} {h0 h : tp_H} {z hi tx pa : Nat → Int32} {st len thr rd nu du : Int32} {hs : Int64} (hl : l.stackTraces = false) (hT0 : mm_S G y h0 z hi tx pa st len thr rd nu du hs h) {j i : Nat} (hj : j < 12) (hin : 0 ≤ nI j ∧ nI j ≤ z 9 - 1) (hi9 : i < 6) (hi4 : 0 ≤ nI i ∧ nI i ≤ 5) : tp_Met l G mX6_payment 0 0 [.ref y, .int (nI j), .int (nI i)] h (tp_PS (some (.int (z_pay z j i))) (fun h1 => mm_S G y h z hi tx pa st len 0 rd nu du hs h1)) tp_NX := by
  have hT := hT0.self
  refine tp_start (L0 := [some (.ref y), some (.int (nI j)), some (.int (nI i))]) (by decide) rfl hl (Nat.le_of_ble_eq_true rfl) rfl ?_
  refine r_aload0 dX6_payment_0 ?_
  refine r_aload0 dX6_payment_1 ?_
  refine r_iload1 dX6_payment_2 ?_
  refine r_pV dX6_payment_3 v_X6_130 (M_isPayment hl hT) rfl (hT.ob) rfl rfl rfl (Nat.le_of_ble_eq_true rfl) ⟨(Nat.le_of_ble_eq_true rfl), (Nat.le_of_ble_eq_true rfl)⟩ ⟨(Nat.le_of_ble_eq_true rfl), (Nat.le_of_ble_eq_true rfl)⟩ ?_
  refine r_if_ne (tgt := 13) dX6_payment_6 (by decide) (fun c6 => ?_) (fun c6 => ?_)
  · refine r_iload2 dX6_payment_13 ?_
    refine r_iconst (v := 0) dX6_payment_14 (by decide) ?_
    refine r_iconst (v := 5) dX6_payment_15 (by decide) ?_
    refine r_pS dX6_payment_16 v_X6_29 (M_within hl) rfl rfl rfl (Nat.le_of_ble_eq_true rfl) ⟨(Nat.le_of_ble_eq_true rfl), (Nat.le_of_ble_eq_true rfl)⟩ ⟨(Nat.le_of_ble_eq_true rfl), (Nat.le_of_ble_eq_true rfl)⟩ ?_
    refine r_if_eq (tgt := 26) dX6_payment_19 (by decide) (fun c19 => ?_) (fun c19 => ?_)
    · first | exact absurd (by assumption) (tp_b_0.mp c19) | exact absurd (by assumption) (tp_b_0.mp (Classical.not_not.mp c19)) | exact absurd (tp_b_n c19) (by assumption) | exact absurd (by assumption) c19 | exact absurd c19 (by assumption)
    · refine r_iconst (v := 0) dX6_payment_22 (by decide) ?_
      refine r_goto (tgt := 27) dX6_payment_23 (by decide) ?_
      refine mm_put_thr dX6_payment_27 rfl hT (fun h1 hT => ?_)
      refine r_aload0 dX6_payment_30 ?_
      refine r_getf dX6_payment_31 f_X6_22 (hT.ob) rfl ?_
      refine r_if_le (tgt := 41) dX6_payment_34 (by decide) (fun c34 => ?_) (fun c34 => ?_)
      · refine r_aload0 dX6_payment_41 ?_
        refine r_iload1 dX6_payment_42 ?_
        refine r_iload2 dX6_payment_43 ?_
        refine r_pV dX6_payment_44 v_X6_197 (M_paymentNow hl hT hj hi9) rfl (hT.ob) rfl rfl rfl (Nat.le_of_ble_eq_true rfl) ⟨(Nat.le_of_ble_eq_true rfl), (Nat.le_of_ble_eq_true rfl)⟩ ⟨(Nat.le_of_ble_eq_true rfl), (Nat.le_of_ble_eq_true rfl)⟩ ?_
        exact r_iret dX6_payment_47 rfl ⟨(Nat.le_of_ble_eq_true rfl), (Nat.le_of_ble_eq_true rfl)⟩ ⟨rfl, hT⟩
      · exact absurd (show (0 : Int32) ≤ 0 by decide) c34
  · first | exact absurd (by assumption) (tp_b_0.mp c6) | exact absurd (by assumption) (tp_b_0.mp (Classical.not_not.mp c6)) | exact absurd (tp_b_n c6) (by assumption) | exact absurd (by assumption) c6 | exact absurd c6 (by assumption)

set_option maxRecDepth 100000 in
set_option maxHeartbeats 4000000 in
theorem Q_payment_1 {l : Launch} {G : tp_G} {y : Nat} {h0 h : tp_H} {z hi tx pa : Nat → Int32} {st len thr rd nu du : Int32} {hs : Int64} (hl : l.stackTraces = false) (hT0 : mm_S G y h0 z hi tx pa st len thr rd nu du hs h) {v i : Int32} (hbad : ¬ (0 ≤ v ∧ v ≤ z 9 - 1)) : tp_Met l G mX6_payment 0 0 [.ref y, .int v, .int i] h (tp_PS (some (.int 0)) (fun h1 => mm_S G y h z hi tx pa st len 1 rd nu du hs h1)) tp_NX := by
  have hT := hT0.self
  refine tp_start (L0 := [some (.ref y), some (.int v), some (.int i)]) (by decide) rfl hl (Nat.le_of_ble_eq_true rfl) rfl ?_
  refine r_aload0 dX6_payment_0 ?_
  refine r_aload0 dX6_payment_1 ?_
  refine r_iload1 dX6_payment_2 ?_
  refine r_pV dX6_payment_3 v_X6_130 (M_isPayment hl hT) rfl (hT.ob) rfl rfl rfl (Nat.le_of_ble_eq_true rfl) ⟨(Nat.le_of_ble_eq_true rfl), (Nat.le_of_ble_eq_true rfl)⟩ ⟨(Nat.le_of_ble_eq_true rfl), (Nat.le_of_ble_eq_true rfl)⟩ ?_
  refine r_if_ne (tgt := 13) dX6_payment_6 (by decide) (fun c6 => ?_) (fun c6 => ?_)
  · first | exact absurd (by assumption) (tp_b_0.mp c6) | exact absurd (by assumption) (tp_b_0.mp (Classical.not_not.mp c6)) | exact absurd (tp_b_n c6) (by assumption) | exact absurd (by assumption) c6 | exact absurd c6 (by assumption)
  · refine r_iconst (v := 1) dX6_payment_9 (by decide) ?_
    refine r_goto (tgt := 27) dX6_payment_10 (by decide) ?_
    refine mm_put_thr dX6_payment_27 rfl hT (fun h1 hT => ?_)
    refine r_aload0 dX6_payment_30 ?_
    refine r_getf dX6_payment_31 f_X6_22 (hT.ob) rfl ?_
    refine r_if_le (tgt := 41) dX6_payment_34 (by decide) (fun c34 => ?_) (fun c34 => ?_)
    · exact absurd c34 (by decide)
    · refine r_iconst (v := 0) dX6_payment_37 (by decide) ?_
      refine r_goto (tgt := 47) dX6_payment_38 (by decide) ?_
      exact r_iret dX6_payment_47 rfl ⟨(Nat.le_of_ble_eq_true rfl), (Nat.le_of_ble_eq_true rfl)⟩ ⟨rfl, hT⟩

set_option maxRecDepth 100000 in
set_option maxHeartbeats 4000000 in
theorem Q_payment_2 {l : Launch} {G : tp_G} {y : Nat} {h0 h : tp_H} {z hi tx pa : Nat → Int32} {st len thr rd nu du : Int32} {hs : Int64} (hl : l.stackTraces = false) (hT0 : mm_S G y h0 z hi tx pa st len thr rd nu du hs h) {v i : Int32} (hin : 0 ≤ v ∧ v ≤ z 9 - 1) (hbad : ¬ (0 ≤ i ∧ i ≤ 5)) : tp_Met l G mX6_payment 0 0 [.ref y, .int v, .int i] h (tp_PS (some (.int 0)) (fun h1 => mm_S G y h z hi tx pa st len 2 rd nu du hs h1)) tp_NX := by
  have hT := hT0.self
  refine tp_start (L0 := [some (.ref y), some (.int v), some (.int i)]) (by decide) rfl hl (Nat.le_of_ble_eq_true rfl) rfl ?_
  refine r_aload0 dX6_payment_0 ?_
  refine r_aload0 dX6_payment_1 ?_
  refine r_iload1 dX6_payment_2 ?_
  refine r_pV dX6_payment_3 v_X6_130 (M_isPayment hl hT) rfl (hT.ob) rfl rfl rfl (Nat.le_of_ble_eq_true rfl) ⟨(Nat.le_of_ble_eq_true rfl), (Nat.le_of_ble_eq_true rfl)⟩ ⟨(Nat.le_of_ble_eq_true rfl), (Nat.le_of_ble_eq_true rfl)⟩ ?_
  refine r_if_ne (tgt := 13) dX6_payment_6 (by decide) (fun c6 => ?_) (fun c6 => ?_)
  · refine r_iload2 dX6_payment_13 ?_
    refine r_iconst (v := 0) dX6_payment_14 (by decide) ?_
    refine r_iconst (v := 5) dX6_payment_15 (by decide) ?_
    refine r_pS dX6_payment_16 v_X6_29 (M_within hl) rfl rfl rfl (Nat.le_of_ble_eq_true rfl) ⟨(Nat.le_of_ble_eq_true rfl), (Nat.le_of_ble_eq_true rfl)⟩ ⟨(Nat.le_of_ble_eq_true rfl), (Nat.le_of_ble_eq_true rfl)⟩ ?_
    refine r_if_eq (tgt := 26) dX6_payment_19 (by decide) (fun c19 => ?_) (fun c19 => ?_)
    · refine r_iconst (v := 2) dX6_payment_26 (by decide) ?_
      refine mm_put_thr dX6_payment_27 rfl hT (fun h1 hT => ?_)
      refine r_aload0 dX6_payment_30 ?_
      refine r_getf dX6_payment_31 f_X6_22 (hT.ob) rfl ?_
      refine r_if_le (tgt := 41) dX6_payment_34 (by decide) (fun c34 => ?_) (fun c34 => ?_)
      · exact absurd c34 (by decide)
      · refine r_iconst (v := 0) dX6_payment_37 (by decide) ?_
        refine r_goto (tgt := 47) dX6_payment_38 (by decide) ?_
        exact r_iret dX6_payment_47 rfl ⟨(Nat.le_of_ble_eq_true rfl), (Nat.le_of_ble_eq_true rfl)⟩ ⟨rfl, hT⟩
    · first | exact absurd (by assumption) (tp_b_0.mp c19) | exact absurd (by assumption) (tp_b_0.mp (Classical.not_not.mp c19)) | exact absurd (tp_b_n c19) (by assumption) | exact absurd (by assumption) c19 | exact absurd c19 (by assumption)
  · first | exact absurd (by assumption) (tp_b_0.mp c6) | exact absurd (by assumption) (tp_b_0.mp (Classical.not_not.mp c6)) | exact absurd (tp_b_n c6) (by assumption) | exact absurd (by assumption) c6 | exact absurd c6 (by assumption)

set_option maxRecDepth 100000 in
set_option maxHeartbeats 4000000 in
theorem Q_count {l : Launch} {G : tp_G} {y : Nat} {h0 h : tp_H} {z hi tx pa : Nat → Int32} {st len thr rd nu du : Int32} {hs : Int64} (hl : l.stackTraces = false) (hT0 : mm_S G y h0 z hi tx pa st len thr rd nu du hs h) {j : Nat} (hI1 : z_I1 z) (hI2 : z_I2 z) (hj : j < 14) (hj13 : 0 ≤ nI j ∧ nI j ≤ 13) : tp_Met l G mX6_count 0 0 [.ref y, .int (nI j)] h (tp_PS (some (.int (z_count z st j))) (fun h1 => mm_S G y h z hi tx pa st len 0 rd nu du hs h1)) tp_NX := by
  have hT := hT0.self
  refine tp_start (L0 := [some (.ref y), some (.int (nI j))]) (by decide) rfl hl (Nat.le_of_ble_eq_true rfl) rfl ?_
  refine r_aload0 dX6_count_0 ?_
  refine r_iload1 dX6_count_1 ?_
  refine r_iconst (v := 0) dX6_count_2 (by decide) ?_
  refine r_bipush (v := 13) dX6_count_3 (by decide) ?_
  refine r_pS dX6_count_5 v_X6_29 (M_within hl) rfl rfl rfl (Nat.le_of_ble_eq_true rfl) ⟨(Nat.le_of_ble_eq_true rfl), (Nat.le_of_ble_eq_true rfl)⟩ ⟨(Nat.le_of_ble_eq_true rfl), (Nat.le_of_ble_eq_true rfl)⟩ ?_
  refine r_if_eq (tgt := 15) dX6_count_8 (by decide) (fun c8 => ?_) (fun c8 => ?_)
  · first | exact absurd (by assumption) (tp_b_0.mp c8) | exact absurd (by assumption) (tp_b_0.mp (Classical.not_not.mp c8)) | exact absurd (tp_b_n c8) (by assumption) | exact absurd (by assumption) c8 | exact absurd c8 (by assumption)
  · refine r_iconst (v := 0) dX6_count_11 (by decide) ?_
    refine r_goto (tgt := 16) dX6_count_12 (by decide) ?_
    refine mm_put_thr dX6_count_16 rfl hT (fun h1 hT => ?_)
    refine r_aload0 dX6_count_19 ?_
    refine r_getf dX6_count_20 f_X6_22 (hT.ob) rfl ?_
    refine r_if_le (tgt := 30) dX6_count_23 (by decide) (fun c23 => ?_) (fun c23 => ?_)
    · refine r_aload0 dX6_count_30 ?_
      refine r_iload1 dX6_count_31 ?_
      refine r_pV dX6_count_32 v_X6_203 (M_counted_I hl hT hI1 hj) rfl (hT.ob) rfl rfl rfl (Nat.le_of_ble_eq_true rfl) ⟨(Nat.le_of_ble_eq_true rfl), (Nat.le_of_ble_eq_true rfl)⟩ ⟨(Nat.le_of_ble_eq_true rfl), (Nat.le_of_ble_eq_true rfl)⟩ ?_
      exact r_iret dX6_count_35 rfl ⟨(Nat.le_of_ble_eq_true rfl), (Nat.le_of_ble_eq_true rfl)⟩ ⟨rfl, hT⟩
    · exact absurd (show (0 : Int32) ≤ 0 by decide) c23

set_option maxRecDepth 100000 in
set_option maxHeartbeats 4000000 in
theorem Q_count_1 {l : Launch} {G : tp_G} {y : Nat} {h0 h : tp_H} {z hi tx pa : Nat → Int32} {st len thr rd nu du : Int32} {hs : Int64} (hl : l.stackTraces = false) (hT0 : mm_S G y h0 z hi tx pa st len thr rd nu du hs h) {v : Int32} (hbad : ¬ (0 ≤ v ∧ v ≤ 13)) : tp_Met l G mX6_count 0 0 [.ref y, .int v] h (tp_PS (some (.int 0)) (fun h1 => mm_S G y h z hi tx pa st len 1 rd nu du hs h1)) tp_NX := by
  have hT := hT0.self
  refine tp_start (L0 := [some (.ref y), some (.int v)]) (by decide) rfl hl (Nat.le_of_ble_eq_true rfl) rfl ?_
  refine r_aload0 dX6_count_0 ?_
  refine r_iload1 dX6_count_1 ?_
  refine r_iconst (v := 0) dX6_count_2 (by decide) ?_
  refine r_bipush (v := 13) dX6_count_3 (by decide) ?_
  refine r_pS dX6_count_5 v_X6_29 (M_within hl) rfl rfl rfl (Nat.le_of_ble_eq_true rfl) ⟨(Nat.le_of_ble_eq_true rfl), (Nat.le_of_ble_eq_true rfl)⟩ ⟨(Nat.le_of_ble_eq_true rfl), (Nat.le_of_ble_eq_true rfl)⟩ ?_
  refine r_if_eq (tgt := 15) dX6_count_8 (by decide) (fun c8 => ?_) (fun c8 => ?_)
  · refine r_iconst (v := 1) dX6_count_15 (by decide) ?_
    refine mm_put_thr dX6_count_16 rfl hT (fun h1 hT => ?_)
    refine r_aload0 dX6_count_19 ?_
    refine r_getf dX6_count_20 f_X6_22 (hT.ob) rfl ?_
    refine r_if_le (tgt := 30) dX6_count_23 (by decide) (fun c23 => ?_) (fun c23 => ?_)
    · exact absurd c23 (by decide)
    · refine r_iconst (v := 0) dX6_count_26 (by decide) ?_
      refine r_goto (tgt := 35) dX6_count_27 (by decide) ?_
      exact r_iret dX6_count_35 rfl ⟨(Nat.le_of_ble_eq_true rfl), (Nat.le_of_ble_eq_true rfl)⟩ ⟨rfl, hT⟩
  · first | exact absurd (by assumption) (tp_b_0.mp c8) | exact absurd (by assumption) (tp_b_0.mp (Classical.not_not.mp c8)) | exact absurd (tp_b_n c8) (by assumption) | exact absurd (by assumption) c8 | exact absurd c8 (by assumption)

set_option maxRecDepth 100000 in
set_option maxHeartbeats 4000000 in
theorem Q_setting {l : Launch} {G : tp_G} {y : Nat} {h0 h : tp_H} {z hi tx pa : Nat → Int32} {st len thr rd nu du : Int32} {hs : Int64} (hl : l.stackTraces = false) (hT0 : mm_S G y h0 z hi tx pa st len thr rd nu du hs h) {j : Nat} (hj : j < 4) (hj4 : 0 ≤ nI j ∧ nI j ≤ 3) : tp_Met l G mX6_setting 0 0 [.ref y, .int (nI j)] h (tp_PS (some (.int (z j))) (fun h1 => mm_S G y h z hi tx pa st len 0 rd nu du hs h1)) tp_NX := by
  have hT := hT0.self
  refine tp_start (L0 := [some (.ref y), some (.int (nI j))]) (by decide) rfl hl (Nat.le_of_ble_eq_true rfl) rfl ?_
  refine r_aload0 dX6_setting_0 ?_
  refine r_iload1 dX6_setting_1 ?_
  refine r_pS dX6_setting_2 v_X6_158 (M_isSetting hl) rfl rfl rfl (Nat.le_of_ble_eq_true rfl) ⟨(Nat.le_of_ble_eq_true rfl), (Nat.le_of_ble_eq_true rfl)⟩ ⟨(Nat.le_of_ble_eq_true rfl), (Nat.le_of_ble_eq_true rfl)⟩ ?_
  refine r_if_eq (tgt := 12) dX6_setting_5 (by decide) (fun c5 => ?_) (fun c5 => ?_)
  · first | exact absurd (by assumption) (tp_b_0.mp c5) | exact absurd (by assumption) (tp_b_0.mp (Classical.not_not.mp c5)) | exact absurd (tp_b_n c5) (by assumption) | exact absurd (by assumption) c5 | exact absurd c5 (by assumption)
  · refine r_iconst (v := 0) dX6_setting_8 (by decide) ?_
    refine r_goto (tgt := 13) dX6_setting_9 (by decide) ?_
    refine mm_put_thr dX6_setting_13 rfl hT (fun h1 hT => ?_)
    refine r_aload0 dX6_setting_16 ?_
    refine r_getf dX6_setting_17 f_X6_22 (hT.ob) rfl ?_
    refine r_if_le (tgt := 27) dX6_setting_20 (by decide) (fun c20 => ?_) (fun c20 => ?_)
    · refine r_aload0 dX6_setting_27 ?_
      refine r_getf dX6_setting_28 f_X6_7 (hT.ob) rfl ?_
      refine r_iload1 dX6_setting_31 ?_
      refine r_iald dX6_setting_32 hT.rz (i := j) (rfl) (by omega) (by decide) ?_
      exact r_iret dX6_setting_33 rfl ⟨(Nat.le_of_ble_eq_true rfl), (Nat.le_of_ble_eq_true rfl)⟩ ⟨rfl, hT⟩
    · exact absurd (show (0 : Int32) ≤ 0 by decide) c20

set_option maxRecDepth 100000 in
set_option maxHeartbeats 4000000 in
theorem Q_setting_1 {l : Launch} {G : tp_G} {y : Nat} {h0 h : tp_H} {z hi tx pa : Nat → Int32} {st len thr rd nu du : Int32} {hs : Int64} (hl : l.stackTraces = false) (hT0 : mm_S G y h0 z hi tx pa st len thr rd nu du hs h) {v : Int32} (hbad : ¬ (0 ≤ v ∧ v ≤ 3)) : tp_Met l G mX6_setting 0 0 [.ref y, .int v] h (tp_PS (some (.int 0)) (fun h1 => mm_S G y h z hi tx pa st len 1 rd nu du hs h1)) tp_NX := by
  have hT := hT0.self
  refine tp_start (L0 := [some (.ref y), some (.int v)]) (by decide) rfl hl (Nat.le_of_ble_eq_true rfl) rfl ?_
  refine r_aload0 dX6_setting_0 ?_
  refine r_iload1 dX6_setting_1 ?_
  refine r_pS dX6_setting_2 v_X6_158 (M_isSetting hl) rfl rfl rfl (Nat.le_of_ble_eq_true rfl) ⟨(Nat.le_of_ble_eq_true rfl), (Nat.le_of_ble_eq_true rfl)⟩ ⟨(Nat.le_of_ble_eq_true rfl), (Nat.le_of_ble_eq_true rfl)⟩ ?_
  refine r_if_eq (tgt := 12) dX6_setting_5 (by decide) (fun c5 => ?_) (fun c5 => ?_)
  · refine r_iconst (v := 1) dX6_setting_12 (by decide) ?_
    refine mm_put_thr dX6_setting_13 rfl hT (fun h1 hT => ?_)
    refine r_aload0 dX6_setting_16 ?_
    refine r_getf dX6_setting_17 f_X6_22 (hT.ob) rfl ?_
    refine r_if_le (tgt := 27) dX6_setting_20 (by decide) (fun c20 => ?_) (fun c20 => ?_)
    · exact absurd c20 (by decide)
    · refine r_iconst (v := 0) dX6_setting_23 (by decide) ?_
      refine r_goto (tgt := 33) dX6_setting_24 (by decide) ?_
      exact r_iret dX6_setting_33 rfl ⟨(Nat.le_of_ble_eq_true rfl), (Nat.le_of_ble_eq_true rfl)⟩ ⟨rfl, hT⟩
  · first | exact absurd (by assumption) (tp_b_0.mp c5) | exact absurd (by assumption) (tp_b_0.mp (Classical.not_not.mp c5)) | exact absurd (tp_b_n c5) (by assumption) | exact absurd (by assumption) c5 | exact absurd c5 (by assumption)

set_option maxRecDepth 100000 in
set_option maxHeartbeats 4000000 in
theorem Q_ifExchanged {l : Launch} {G : tp_G} {y : Nat} {h0 h : tp_H} {z hi tx pa : Nat → Int32} {st len thr rd nu du : Int32} {hs : Int64} (hl : l.stackTraces = false) (hT0 : mm_S G y h0 z hi tx pa st len thr rd nu du hs h) {w f t : Nat} {a : Int32} (hI1 : z_I1 z) (hI2 : z_I2 z) (hw : w < 4) (hf : f < 4) (ht : t < 4) (ha : 1 ≤ a ∧ a ≤ 99999) : tp_Met l G mX6_ifExchanged 0 0 [.ref y, .int (nI w), .int (nI f), .int (nI t), .int a] h (tp_PS (some (.int (z_exThen z w f t a))) (fun h1 => mm_S G y h z hi tx pa st len 0 rd nu du hs h1)) tp_NX := by
  have hT := hT0.self
  have hp : (0 ≤ nI w ∧ nI w ≤ 3) ∧ (0 ≤ nI f ∧ nI f ≤ 3) := ⟨tp_in4 hw, tp_in4 hf⟩
  have ht4 := tp_in4 ht
  refine tp_start (L0 := [some (.ref y), some (.int (nI w)), some (.int (nI f)), some (.int (nI t)), some (.int a)]) (by decide) rfl hl (Nat.le_of_ble_eq_true rfl) rfl ?_
  refine r_aload0 dX6_ifExchanged_0 ?_
  refine r_iload1 dX6_ifExchanged_1 ?_
  refine r_iload2 dX6_ifExchanged_2 ?_
  refine r_pS dX6_ifExchanged_3 v_X6_40 (M_isPurse hl) rfl rfl rfl (Nat.le_of_ble_eq_true rfl) ⟨(Nat.le_of_ble_eq_true rfl), (Nat.le_of_ble_eq_true rfl)⟩ ⟨(Nat.le_of_ble_eq_true rfl), (Nat.le_of_ble_eq_true rfl)⟩ ?_
  refine r_if_eq (tgt := 16) dX6_ifExchanged_6 (by decide) (fun c6 => ?_) (fun c6 => ?_)
  · first | exact absurd (by assumption) (tp_b_0.mp c6) | exact absurd (by assumption) (tp_b_0.mp (Classical.not_not.mp c6)) | exact absurd (tp_b_n c6) (by assumption) | exact absurd (by assumption) c6 | exact absurd c6 (by assumption)
  · refine r_iload3 dX6_ifExchanged_9 ?_
    refine r_pS dX6_ifExchanged_10 v_X6_37 (M_isCurrency hl) rfl rfl rfl (Nat.le_of_ble_eq_true rfl) ⟨(Nat.le_of_ble_eq_true rfl), (Nat.le_of_ble_eq_true rfl)⟩ ⟨(Nat.le_of_ble_eq_true rfl), (Nat.le_of_ble_eq_true rfl)⟩ ?_
    refine r_if_ne (tgt := 20) dX6_ifExchanged_13 (by decide) (fun c13 => ?_) (fun c13 => ?_)
    · refine r_iload4 dX6_ifExchanged_20 ?_
      refine r_pS dX6_ifExchanged_22 v_X6_62 (M_isMoney hl) rfl rfl rfl (Nat.le_of_ble_eq_true rfl) ⟨(Nat.le_of_ble_eq_true rfl), (Nat.le_of_ble_eq_true rfl)⟩ ⟨(Nat.le_of_ble_eq_true rfl), (Nat.le_of_ble_eq_true rfl)⟩ ?_
      refine r_if_eq (tgt := 32) dX6_ifExchanged_25 (by decide) (fun c25 => ?_) (fun c25 => ?_)
      · first | exact absurd (by assumption) (tp_b_0.mp c25) | exact absurd (by assumption) (tp_b_0.mp (Classical.not_not.mp c25)) | exact absurd (tp_b_n c25) (by assumption) | exact absurd (by assumption) c25 | exact absurd c25 (by assumption)
      · refine r_iconst (v := 0) dX6_ifExchanged_28 (by decide) ?_
        refine r_goto (tgt := 33) dX6_ifExchanged_29 (by decide) ?_
        refine mm_put_thr dX6_ifExchanged_33 rfl hT (fun h1 hT => ?_)
        refine r_aload0 dX6_ifExchanged_36 ?_
        refine r_getf dX6_ifExchanged_37 f_X6_22 (hT.ob) rfl ?_
        refine r_if_le (tgt := 47) dX6_ifExchanged_40 (by decide) (fun c40 => ?_) (fun c40 => ?_)
        · refine r_aload0 dX6_ifExchanged_47 ?_
          refine r_iload1 dX6_ifExchanged_48 ?_
          refine r_iload2 dX6_ifExchanged_49 ?_
          refine r_iload3 dX6_ifExchanged_50 ?_
          refine r_iload4 dX6_ifExchanged_51 ?_
          refine r_pV dX6_ifExchanged_53 v_X6_209 (M_exchangedThen hl hT hw hf ht (hI2.ne hw ht)) rfl (hT.ob) rfl rfl rfl (Nat.le_of_ble_eq_true rfl) ⟨(Nat.le_of_ble_eq_true rfl), (Nat.le_of_ble_eq_true rfl)⟩ ⟨(Nat.le_of_ble_eq_true rfl), (Nat.le_of_ble_eq_true rfl)⟩ ?_
          exact r_iret dX6_ifExchanged_56 rfl ⟨(Nat.le_of_ble_eq_true rfl), (Nat.le_of_ble_eq_true rfl)⟩ ⟨rfl, hT⟩
        · exact absurd (show (0 : Int32) ≤ 0 by decide) c40
    · first | exact absurd (by assumption) (tp_b_0.mp c13) | exact absurd (by assumption) (tp_b_0.mp (Classical.not_not.mp c13)) | exact absurd (tp_b_n c13) (by assumption) | exact absurd (by assumption) c13 | exact absurd c13 (by assumption)

set_option maxRecDepth 100000 in
set_option maxHeartbeats 4000000 in
theorem Q_ifExchanged_1 {l : Launch} {G : tp_G} {y : Nat} {h0 h : tp_H} {z hi tx pa : Nat → Int32} {st len thr rd nu du : Int32} {hs : Int64} (hl : l.stackTraces = false) (hT0 : mm_S G y h0 z hi tx pa st len thr rd nu du hs h) {w f t a : Int32} (hbad : ¬ ((0 ≤ w ∧ w ≤ 3) ∧ (0 ≤ f ∧ f ≤ 3))) : tp_Met l G mX6_ifExchanged 0 0 [.ref y, .int w, .int f, .int t, .int a] h (tp_PS (some (.int 0)) (fun h1 => mm_S G y h z hi tx pa st len 1 rd nu du hs h1)) tp_NX := by
  have hT := hT0.self
  refine tp_start (L0 := [some (.ref y), some (.int w), some (.int f), some (.int t), some (.int a)]) (by decide) rfl hl (Nat.le_of_ble_eq_true rfl) rfl ?_
  refine r_aload0 dX6_ifExchanged_0 ?_
  refine r_iload1 dX6_ifExchanged_1 ?_
  refine r_iload2 dX6_ifExchanged_2 ?_
  refine r_pS dX6_ifExchanged_3 v_X6_40 (M_isPurse hl) rfl rfl rfl (Nat.le_of_ble_eq_true rfl) ⟨(Nat.le_of_ble_eq_true rfl), (Nat.le_of_ble_eq_true rfl)⟩ ⟨(Nat.le_of_ble_eq_true rfl), (Nat.le_of_ble_eq_true rfl)⟩ ?_
  refine r_if_eq (tgt := 16) dX6_ifExchanged_6 (by decide) (fun c6 => ?_) (fun c6 => ?_)
  · refine r_iconst (v := 1) dX6_ifExchanged_16 (by decide) ?_
    refine r_goto (tgt := 33) dX6_ifExchanged_17 (by decide) ?_
    refine mm_put_thr dX6_ifExchanged_33 rfl hT (fun h1 hT => ?_)
    refine r_aload0 dX6_ifExchanged_36 ?_
    refine r_getf dX6_ifExchanged_37 f_X6_22 (hT.ob) rfl ?_
    refine r_if_le (tgt := 47) dX6_ifExchanged_40 (by decide) (fun c40 => ?_) (fun c40 => ?_)
    · exact absurd c40 (by decide)
    · refine r_iconst (v := 0) dX6_ifExchanged_43 (by decide) ?_
      refine r_goto (tgt := 56) dX6_ifExchanged_44 (by decide) ?_
      exact r_iret dX6_ifExchanged_56 rfl ⟨(Nat.le_of_ble_eq_true rfl), (Nat.le_of_ble_eq_true rfl)⟩ ⟨rfl, hT⟩
  · first | exact absurd (by assumption) (tp_b_0.mp c6) | exact absurd (by assumption) (tp_b_0.mp (Classical.not_not.mp c6)) | exact absurd (tp_b_n c6) (by assumption) | exact absurd (by assumption) c6 | exact absurd c6 (by assumption)

set_option maxRecDepth 100000 in
set_option maxHeartbeats 4000000 in
theorem Q_ifExchanged_1b {l : Launch} {G : tp_G} {y : Nat} {h0 h : tp_H} {z hi tx pa : Nat → Int32} {st len thr rd nu du : Int32} {hs : Int64} (hl : l.stackTraces = false) (hT0 : mm_S G y h0 z hi tx pa st len thr rd nu du hs h) {w f t a : Int32} (hp : (0 ≤ w ∧ w ≤ 3) ∧ (0 ≤ f ∧ f ≤ 3)) (hbad : ¬ (0 ≤ t ∧ t ≤ 3)) : tp_Met l G mX6_ifExchanged 0 0 [.ref y, .int w, .int f, .int t, .int a] h (tp_PS (some (.int 0)) (fun h1 => mm_S G y h z hi tx pa st len 1 rd nu du hs h1)) tp_NX := by
  have hT := hT0.self
  refine tp_start (L0 := [some (.ref y), some (.int w), some (.int f), some (.int t), some (.int a)]) (by decide) rfl hl (Nat.le_of_ble_eq_true rfl) rfl ?_
  refine r_aload0 dX6_ifExchanged_0 ?_
  refine r_iload1 dX6_ifExchanged_1 ?_
  refine r_iload2 dX6_ifExchanged_2 ?_
  refine r_pS dX6_ifExchanged_3 v_X6_40 (M_isPurse hl) rfl rfl rfl (Nat.le_of_ble_eq_true rfl) ⟨(Nat.le_of_ble_eq_true rfl), (Nat.le_of_ble_eq_true rfl)⟩ ⟨(Nat.le_of_ble_eq_true rfl), (Nat.le_of_ble_eq_true rfl)⟩ ?_
  refine r_if_eq (tgt := 16) dX6_ifExchanged_6 (by decide) (fun c6 => ?_) (fun c6 => ?_)
  · first | exact absurd (by assumption) (tp_b_0.mp c6) | exact absurd (by assumption) (tp_b_0.mp (Classical.not_not.mp c6)) | exact absurd (tp_b_n c6) (by assumption) | exact absurd (by assumption) c6 | exact absurd c6 (by assumption)
  · refine r_iload3 dX6_ifExchanged_9 ?_
    refine r_pS dX6_ifExchanged_10 v_X6_37 (M_isCurrency hl) rfl rfl rfl (Nat.le_of_ble_eq_true rfl) ⟨(Nat.le_of_ble_eq_true rfl), (Nat.le_of_ble_eq_true rfl)⟩ ⟨(Nat.le_of_ble_eq_true rfl), (Nat.le_of_ble_eq_true rfl)⟩ ?_
    refine r_if_ne (tgt := 20) dX6_ifExchanged_13 (by decide) (fun c13 => ?_) (fun c13 => ?_)
    · first | exact absurd (by assumption) (tp_b_0.mp c13) | exact absurd (by assumption) (tp_b_0.mp (Classical.not_not.mp c13)) | exact absurd (tp_b_n c13) (by assumption) | exact absurd (by assumption) c13 | exact absurd c13 (by assumption)
    · refine r_iconst (v := 1) dX6_ifExchanged_16 (by decide) ?_
      refine r_goto (tgt := 33) dX6_ifExchanged_17 (by decide) ?_
      refine mm_put_thr dX6_ifExchanged_33 rfl hT (fun h1 hT => ?_)
      refine r_aload0 dX6_ifExchanged_36 ?_
      refine r_getf dX6_ifExchanged_37 f_X6_22 (hT.ob) rfl ?_
      refine r_if_le (tgt := 47) dX6_ifExchanged_40 (by decide) (fun c40 => ?_) (fun c40 => ?_)
      · exact absurd c40 (by decide)
      · refine r_iconst (v := 0) dX6_ifExchanged_43 (by decide) ?_
        refine r_goto (tgt := 56) dX6_ifExchanged_44 (by decide) ?_
        exact r_iret dX6_ifExchanged_56 rfl ⟨(Nat.le_of_ble_eq_true rfl), (Nat.le_of_ble_eq_true rfl)⟩ ⟨rfl, hT⟩

set_option maxRecDepth 100000 in
set_option maxHeartbeats 4000000 in
theorem Q_ifExchanged_2 {l : Launch} {G : tp_G} {y : Nat} {h0 h : tp_H} {z hi tx pa : Nat → Int32} {st len thr rd nu du : Int32} {hs : Int64} (hl : l.stackTraces = false) (hT0 : mm_S G y h0 z hi tx pa st len thr rd nu du hs h) {w f t a : Int32} (hp : (0 ≤ w ∧ w ≤ 3) ∧ (0 ≤ f ∧ f ≤ 3)) (ht : 0 ≤ t ∧ t ≤ 3) (hbad : ¬ (1 ≤ a ∧ a ≤ 99999)) : tp_Met l G mX6_ifExchanged 0 0 [.ref y, .int w, .int f, .int t, .int a] h (tp_PS (some (.int 0)) (fun h1 => mm_S G y h z hi tx pa st len 2 rd nu du hs h1)) tp_NX := by
  have hT := hT0.self
  refine tp_start (L0 := [some (.ref y), some (.int w), some (.int f), some (.int t), some (.int a)]) (by decide) rfl hl (Nat.le_of_ble_eq_true rfl) rfl ?_
  refine r_aload0 dX6_ifExchanged_0 ?_
  refine r_iload1 dX6_ifExchanged_1 ?_
  refine r_iload2 dX6_ifExchanged_2 ?_
  refine r_pS dX6_ifExchanged_3 v_X6_40 (M_isPurse hl) rfl rfl rfl (Nat.le_of_ble_eq_true rfl) ⟨(Nat.le_of_ble_eq_true rfl), (Nat.le_of_ble_eq_true rfl)⟩ ⟨(Nat.le_of_ble_eq_true rfl), (Nat.le_of_ble_eq_true rfl)⟩ ?_
  refine r_if_eq (tgt := 16) dX6_ifExchanged_6 (by decide) (fun c6 => ?_) (fun c6 => ?_)
  · first | exact absurd (by assumption) (tp_b_0.mp c6) | exact absurd (by assumption) (tp_b_0.mp (Classical.not_not.mp c6)) | exact absurd (tp_b_n c6) (by assumption) | exact absurd (by assumption) c6 | exact absurd c6 (by assumption)
  · refine r_iload3 dX6_ifExchanged_9 ?_
    refine r_pS dX6_ifExchanged_10 v_X6_37 (M_isCurrency hl) rfl rfl rfl (Nat.le_of_ble_eq_true rfl) ⟨(Nat.le_of_ble_eq_true rfl), (Nat.le_of_ble_eq_true rfl)⟩ ⟨(Nat.le_of_ble_eq_true rfl), (Nat.le_of_ble_eq_true rfl)⟩ ?_
    refine r_if_ne (tgt := 20) dX6_ifExchanged_13 (by decide) (fun c13 => ?_) (fun c13 => ?_)
    · refine r_iload4 dX6_ifExchanged_20 ?_
      refine r_pS dX6_ifExchanged_22 v_X6_62 (M_isMoney hl) rfl rfl rfl (Nat.le_of_ble_eq_true rfl) ⟨(Nat.le_of_ble_eq_true rfl), (Nat.le_of_ble_eq_true rfl)⟩ ⟨(Nat.le_of_ble_eq_true rfl), (Nat.le_of_ble_eq_true rfl)⟩ ?_
      refine r_if_eq (tgt := 32) dX6_ifExchanged_25 (by decide) (fun c25 => ?_) (fun c25 => ?_)
      · refine r_iconst (v := 2) dX6_ifExchanged_32 (by decide) ?_
        refine mm_put_thr dX6_ifExchanged_33 rfl hT (fun h1 hT => ?_)
        refine r_aload0 dX6_ifExchanged_36 ?_
        refine r_getf dX6_ifExchanged_37 f_X6_22 (hT.ob) rfl ?_
        refine r_if_le (tgt := 47) dX6_ifExchanged_40 (by decide) (fun c40 => ?_) (fun c40 => ?_)
        · exact absurd c40 (by decide)
        · refine r_iconst (v := 0) dX6_ifExchanged_43 (by decide) ?_
          refine r_goto (tgt := 56) dX6_ifExchanged_44 (by decide) ?_
          exact r_iret dX6_ifExchanged_56 rfl ⟨(Nat.le_of_ble_eq_true rfl), (Nat.le_of_ble_eq_true rfl)⟩ ⟨rfl, hT⟩
      · first | exact absurd (by assumption) (tp_b_0.mp c25) | exact absurd (by assumption) (tp_b_0.mp (Classical.not_not.mp c25)) | exact absurd (tp_b_n c25) (by assumption) | exact absurd (by assumption) c25 | exact absurd c25 (by assumption)
    · first | exact absurd (by assumption) (tp_b_0.mp c13) | exact absurd (by assumption) (tp_b_0.mp (Classical.not_not.mp c13)) | exact absurd (tp_b_n c13) (by assumption) | exact absurd (by assumption) c13 | exact absurd c13 (by assumption)

set_option maxRecDepth 100000 in
set_option maxHeartbeats 4000000 in
theorem Q_needed {l : Launch} {G : tp_G} {y : Nat} {h0 h : tp_H} {z hi tx pa : Nat → Int32} {st len thr rd nu du : Int32} {hs : Int64} (hl : l.stackTraces = false) (hT0 : mm_S G y h0 z hi tx pa st len thr rd nu du hs h) {w c a : Nat} (hI1 : z_I1 z) (hI2 : z_I2 z) (hw : w < 4) (hc : c < 4) (hp : ((0 ≤ nI w ∧ nI w ≤ 3) ∧ (0 ≤ nI c ∧ nI c ≤ 3)) ∧ 0 < nI c) (ha : 1 ≤ a ∧ a ≤ 9999) (ha2 : 1 ≤ nI a ∧ nI a ≤ 9999) : tp_Met l G mX6_needed 0 0 [.ref y, .int (nI w), .int (nI c), .int (nI a)] h (tp_PS (some (.int (nI (z_needOf z w c a)))) (fun h1 => mm_S G y h z hi tx pa st len 0 rd nu du hs h1)) tp_NX := by
  have hT := hT0.self
  refine tp_start (L0 := [some (.ref y), some (.int (nI w)), some (.int (nI c)), some (.int (nI a))]) (by decide) rfl hl (Nat.le_of_ble_eq_true rfl) rfl ?_
  refine r_aload0 dX6_needed_0 ?_
  refine r_iload1 dX6_needed_1 ?_
  refine r_iload2 dX6_needed_2 ?_
  refine r_pS dX6_needed_3 v_X6_83 (M_isForeign hl) rfl rfl rfl (Nat.le_of_ble_eq_true rfl) ⟨(Nat.le_of_ble_eq_true rfl), (Nat.le_of_ble_eq_true rfl)⟩ ⟨(Nat.le_of_ble_eq_true rfl), (Nat.le_of_ble_eq_true rfl)⟩ ?_
  refine r_if_ne (tgt := 13) dX6_needed_6 (by decide) (fun c6 => ?_) (fun c6 => ?_)
  · refine r_iload3 dX6_needed_13 ?_
    refine r_iconst (v := 1) dX6_needed_14 (by decide) ?_
    refine r_sipush (v := 9999) dX6_needed_15 (by decide) ?_
    refine r_pS dX6_needed_18 v_X6_29 (M_within hl) rfl rfl rfl (Nat.le_of_ble_eq_true rfl) ⟨(Nat.le_of_ble_eq_true rfl), (Nat.le_of_ble_eq_true rfl)⟩ ⟨(Nat.le_of_ble_eq_true rfl), (Nat.le_of_ble_eq_true rfl)⟩ ?_
    refine r_if_eq (tgt := 28) dX6_needed_21 (by decide) (fun c21 => ?_) (fun c21 => ?_)
    · first | exact absurd (by assumption) (tp_b_0.mp c21) | exact absurd (by assumption) (tp_b_0.mp (Classical.not_not.mp c21)) | exact absurd (tp_b_n c21) (by assumption) | exact absurd (by assumption) c21 | exact absurd c21 (by assumption)
    · refine r_iconst (v := 0) dX6_needed_24 (by decide) ?_
      refine r_goto (tgt := 29) dX6_needed_25 (by decide) ?_
      refine mm_put_thr dX6_needed_29 rfl hT (fun h1 hT => ?_)
      refine r_aload0 dX6_needed_32 ?_
      refine r_getf dX6_needed_33 f_X6_22 (hT.ob) rfl ?_
      refine r_if_le (tgt := 43) dX6_needed_36 (by decide) (fun c36 => ?_) (fun c36 => ?_)
      · refine r_aload0 dX6_needed_43 ?_
        refine r_iload1 dX6_needed_44 ?_
        refine r_iload2 dX6_needed_45 ?_
        refine r_iload3 dX6_needed_46 ?_
        refine r_pV dX6_needed_47 v_X6_213 (M_need hl hT hI1 hI2 hw hc ha) rfl (hT.ob) rfl rfl rfl (Nat.le_of_ble_eq_true rfl) ⟨(Nat.le_of_ble_eq_true rfl), (Nat.le_of_ble_eq_true rfl)⟩ ⟨(Nat.le_of_ble_eq_true rfl), (Nat.le_of_ble_eq_true rfl)⟩ ?_
        exact r_iret dX6_needed_50 rfl ⟨(Nat.le_of_ble_eq_true rfl), (Nat.le_of_ble_eq_true rfl)⟩ ⟨rfl, hT⟩
      · exact absurd (show (0 : Int32) ≤ 0 by decide) c36
  · first | exact absurd (by assumption) (tp_b_0.mp c6) | exact absurd (by assumption) (tp_b_0.mp (Classical.not_not.mp c6)) | exact absurd (tp_b_n c6) (by assumption) | exact absurd (by assumption) c6 | exact absurd c6 (by assumption)

set_option maxRecDepth 100000 in
set_option maxHeartbeats 4000000 in
theorem Q_needed_1 {l : Launch} {G : tp_G} {y : Nat} {h0 h : tp_H} {z hi tx pa : Nat → Int32} {st len thr rd nu du : Int32} {hs : Int64} (hl : l.stackTraces = false) (hT0 : mm_S G y h0 z hi tx pa st len thr rd nu du hs h) {w c a : Int32} (hbad : ¬ (((0 ≤ w ∧ w ≤ 3) ∧ (0 ≤ c ∧ c ≤ 3)) ∧ 0 < c)) : tp_Met l G mX6_needed 0 0 [.ref y, .int w, .int c, .int a] h (tp_PS (some (.int 0)) (fun h1 => mm_S G y h z hi tx pa st len 1 rd nu du hs h1)) tp_NX := by
  have hT := hT0.self
  refine tp_start (L0 := [some (.ref y), some (.int w), some (.int c), some (.int a)]) (by decide) rfl hl (Nat.le_of_ble_eq_true rfl) rfl ?_
  refine r_aload0 dX6_needed_0 ?_
  refine r_iload1 dX6_needed_1 ?_
  refine r_iload2 dX6_needed_2 ?_
  refine r_pS dX6_needed_3 v_X6_83 (M_isForeign hl) rfl rfl rfl (Nat.le_of_ble_eq_true rfl) ⟨(Nat.le_of_ble_eq_true rfl), (Nat.le_of_ble_eq_true rfl)⟩ ⟨(Nat.le_of_ble_eq_true rfl), (Nat.le_of_ble_eq_true rfl)⟩ ?_
  refine r_if_ne (tgt := 13) dX6_needed_6 (by decide) (fun c6 => ?_) (fun c6 => ?_)
  · first | exact absurd (by assumption) (tp_b_0.mp c6) | exact absurd (by assumption) (tp_b_0.mp (Classical.not_not.mp c6)) | exact absurd (tp_b_n c6) (by assumption) | exact absurd (by assumption) c6 | exact absurd c6 (by assumption)
  · refine r_iconst (v := 1) dX6_needed_9 (by decide) ?_
    refine r_goto (tgt := 29) dX6_needed_10 (by decide) ?_
    refine mm_put_thr dX6_needed_29 rfl hT (fun h1 hT => ?_)
    refine r_aload0 dX6_needed_32 ?_
    refine r_getf dX6_needed_33 f_X6_22 (hT.ob) rfl ?_
    refine r_if_le (tgt := 43) dX6_needed_36 (by decide) (fun c36 => ?_) (fun c36 => ?_)
    · exact absurd c36 (by decide)
    · refine r_iconst (v := 0) dX6_needed_39 (by decide) ?_
      refine r_goto (tgt := 50) dX6_needed_40 (by decide) ?_
      exact r_iret dX6_needed_50 rfl ⟨(Nat.le_of_ble_eq_true rfl), (Nat.le_of_ble_eq_true rfl)⟩ ⟨rfl, hT⟩

set_option maxRecDepth 100000 in
set_option maxHeartbeats 4000000 in
theorem Q_needed_2 {l : Launch} {G : tp_G} {y : Nat} {h0 h : tp_H} {z hi tx pa : Nat → Int32} {st len thr rd nu du : Int32} {hs : Int64} (hl : l.stackTraces = false) (hT0 : mm_S G y h0 z hi tx pa st len thr rd nu du hs h) {w c a : Int32} (hp : ((0 ≤ w ∧ w ≤ 3) ∧ (0 ≤ c ∧ c ≤ 3)) ∧ 0 < c) (hbad : ¬ (1 ≤ a ∧ a ≤ 9999)) : tp_Met l G mX6_needed 0 0 [.ref y, .int w, .int c, .int a] h (tp_PS (some (.int 0)) (fun h1 => mm_S G y h z hi tx pa st len 2 rd nu du hs h1)) tp_NX := by
  have hT := hT0.self
  refine tp_start (L0 := [some (.ref y), some (.int w), some (.int c), some (.int a)]) (by decide) rfl hl (Nat.le_of_ble_eq_true rfl) rfl ?_
  refine r_aload0 dX6_needed_0 ?_
  refine r_iload1 dX6_needed_1 ?_
  refine r_iload2 dX6_needed_2 ?_
  refine r_pS dX6_needed_3 v_X6_83 (M_isForeign hl) rfl rfl rfl (Nat.le_of_ble_eq_true rfl) ⟨(Nat.le_of_ble_eq_true rfl), (Nat.le_of_ble_eq_true rfl)⟩ ⟨(Nat.le_of_ble_eq_true rfl), (Nat.le_of_ble_eq_true rfl)⟩ ?_
  refine r_if_ne (tgt := 13) dX6_needed_6 (by decide) (fun c6 => ?_) (fun c6 => ?_)
  · refine r_iload3 dX6_needed_13 ?_
    refine r_iconst (v := 1) dX6_needed_14 (by decide) ?_
    refine r_sipush (v := 9999) dX6_needed_15 (by decide) ?_
    refine r_pS dX6_needed_18 v_X6_29 (M_within hl) rfl rfl rfl (Nat.le_of_ble_eq_true rfl) ⟨(Nat.le_of_ble_eq_true rfl), (Nat.le_of_ble_eq_true rfl)⟩ ⟨(Nat.le_of_ble_eq_true rfl), (Nat.le_of_ble_eq_true rfl)⟩ ?_
    refine r_if_eq (tgt := 28) dX6_needed_21 (by decide) (fun c21 => ?_) (fun c21 => ?_)
    · refine r_iconst (v := 2) dX6_needed_28 (by decide) ?_
      refine mm_put_thr dX6_needed_29 rfl hT (fun h1 hT => ?_)
      refine r_aload0 dX6_needed_32 ?_
      refine r_getf dX6_needed_33 f_X6_22 (hT.ob) rfl ?_
      refine r_if_le (tgt := 43) dX6_needed_36 (by decide) (fun c36 => ?_) (fun c36 => ?_)
      · exact absurd c36 (by decide)
      · refine r_iconst (v := 0) dX6_needed_39 (by decide) ?_
        refine r_goto (tgt := 50) dX6_needed_40 (by decide) ?_
        exact r_iret dX6_needed_50 rfl ⟨(Nat.le_of_ble_eq_true rfl), (Nat.le_of_ble_eq_true rfl)⟩ ⟨rfl, hT⟩
    · first | exact absurd (by assumption) (tp_b_0.mp c21) | exact absurd (by assumption) (tp_b_0.mp (Classical.not_not.mp c21)) | exact absurd (tp_b_n c21) (by assumption) | exact absurd (by assumption) c21 | exact absurd c21 (by assumption)
  · first | exact absurd (by assumption) (tp_b_0.mp c6) | exact absurd (by assumption) (tp_b_0.mp (Classical.not_not.mp c6)) | exact absurd (tp_b_n c6) (by assumption) | exact absurd (by assumption) c6 | exact absurd c6 (by assumption)

set_option maxRecDepth 100000 in
set_option maxHeartbeats 4000000 in
theorem Q_room {l : Launch} {G : tp_G} {y : Nat} {h0 h : tp_H} {z hi tx pa : Nat → Int32} {st len thr rd nu du : Int32} {hs : Int64} (hl : l.stackTraces = false) (hT0 : mm_S G y h0 z hi tx pa st len thr rd nu du hs h) {w c : Nat} (hI1 : z_I1 z) (hI2 : z_I2 z) (hw : w < 4) (hc : c < 4) : tp_Met l G mX6_room 0 0 [.ref y, .int (nI w), .int (nI c)] h (tp_PS (some (.int (nI (z_roomOf z w c)))) (fun h1 => mm_S G y h z hi tx pa st len 0 rd nu du hs h1)) tp_NX := by
  have hT := hT0.self
  have hp : (0 ≤ nI w ∧ nI w ≤ 3) ∧ (0 ≤ nI c ∧ nI c ≤ 3) := ⟨tp_in4 hw, tp_in4 hc⟩
  refine tp_start (L0 := [some (.ref y), some (.int (nI w)), some (.int (nI c))]) (by decide) rfl hl (Nat.le_of_ble_eq_true rfl) rfl ?_
  refine r_aload0 dX6_room_0 ?_
  refine r_iload1 dX6_room_1 ?_
  refine r_iload2 dX6_room_2 ?_
  refine r_pS dX6_room_3 v_X6_40 (M_isPurse hl) rfl rfl rfl (Nat.le_of_ble_eq_true rfl) ⟨(Nat.le_of_ble_eq_true rfl), (Nat.le_of_ble_eq_true rfl)⟩ ⟨(Nat.le_of_ble_eq_true rfl), (Nat.le_of_ble_eq_true rfl)⟩ ?_
  refine r_if_eq (tgt := 13) dX6_room_6 (by decide) (fun c6 => ?_) (fun c6 => ?_)
  · first | exact absurd (by assumption) (tp_b_0.mp c6) | exact absurd (by assumption) (tp_b_0.mp (Classical.not_not.mp c6)) | exact absurd (tp_b_n c6) (by assumption) | exact absurd (by assumption) c6 | exact absurd c6 (by assumption)
  · refine r_iconst (v := 0) dX6_room_9 (by decide) ?_
    refine r_goto (tgt := 14) dX6_room_10 (by decide) ?_
    refine mm_put_thr dX6_room_14 rfl hT (fun h1 hT => ?_)
    refine r_aload0 dX6_room_17 ?_
    refine r_getf dX6_room_18 f_X6_22 (hT.ob) rfl ?_
    refine r_if_le (tgt := 28) dX6_room_21 (by decide) (fun c21 => ?_) (fun c21 => ?_)
    · refine r_aload0 dX6_room_28 ?_
      refine r_iload1 dX6_room_29 ?_
      refine r_iload2 dX6_room_30 ?_
      refine r_pV dX6_room_31 v_X6_216 (M_room hl hT hI1 hI2 hw hc) rfl (hT.ob) rfl rfl rfl (Nat.le_of_ble_eq_true rfl) ⟨(Nat.le_of_ble_eq_true rfl), (Nat.le_of_ble_eq_true rfl)⟩ ⟨(Nat.le_of_ble_eq_true rfl), (Nat.le_of_ble_eq_true rfl)⟩ ?_
      exact r_iret dX6_room_34 rfl ⟨(Nat.le_of_ble_eq_true rfl), (Nat.le_of_ble_eq_true rfl)⟩ ⟨rfl, hT⟩
    · exact absurd (show (0 : Int32) ≤ 0 by decide) c21

set_option maxRecDepth 100000 in
set_option maxHeartbeats 4000000 in
theorem Q_room_1 {l : Launch} {G : tp_G} {y : Nat} {h0 h : tp_H} {z hi tx pa : Nat → Int32} {st len thr rd nu du : Int32} {hs : Int64} (hl : l.stackTraces = false) (hT0 : mm_S G y h0 z hi tx pa st len thr rd nu du hs h) {w c : Int32} (hbad : ¬ ((0 ≤ w ∧ w ≤ 3) ∧ (0 ≤ c ∧ c ≤ 3))) : tp_Met l G mX6_room 0 0 [.ref y, .int w, .int c] h (tp_PS (some (.int 0)) (fun h1 => mm_S G y h z hi tx pa st len 1 rd nu du hs h1)) tp_NX := by
  have hT := hT0.self
  refine tp_start (L0 := [some (.ref y), some (.int w), some (.int c)]) (by decide) rfl hl (Nat.le_of_ble_eq_true rfl) rfl ?_
  refine r_aload0 dX6_room_0 ?_
  refine r_iload1 dX6_room_1 ?_
  refine r_iload2 dX6_room_2 ?_
  refine r_pS dX6_room_3 v_X6_40 (M_isPurse hl) rfl rfl rfl (Nat.le_of_ble_eq_true rfl) ⟨(Nat.le_of_ble_eq_true rfl), (Nat.le_of_ble_eq_true rfl)⟩ ⟨(Nat.le_of_ble_eq_true rfl), (Nat.le_of_ble_eq_true rfl)⟩ ?_
  refine r_if_eq (tgt := 13) dX6_room_6 (by decide) (fun c6 => ?_) (fun c6 => ?_)
  · refine r_iconst (v := 1) dX6_room_13 (by decide) ?_
    refine mm_put_thr dX6_room_14 rfl hT (fun h1 hT => ?_)
    refine r_aload0 dX6_room_17 ?_
    refine r_getf dX6_room_18 f_X6_22 (hT.ob) rfl ?_
    refine r_if_le (tgt := 28) dX6_room_21 (by decide) (fun c21 => ?_) (fun c21 => ?_)
    · exact absurd c21 (by decide)
    · refine r_iconst (v := 0) dX6_room_24 (by decide) ?_
      refine r_goto (tgt := 34) dX6_room_25 (by decide) ?_
      exact r_iret dX6_room_34 rfl ⟨(Nat.le_of_ble_eq_true rfl), (Nat.le_of_ble_eq_true rfl)⟩ ⟨rfl, hT⟩
  · first | exact absurd (by assumption) (tp_b_0.mp c6) | exact absurd (by assumption) (tp_b_0.mp (Classical.not_not.mp c6)) | exact absurd (tp_b_n c6) (by assumption) | exact absurd (by assumption) c6 | exact absurd c6 (by assumption)

set_option maxRecDepth 100000 in
set_option maxHeartbeats 4000000 in
theorem Q_ifClosed {l : Launch} {G : tp_G} {y : Nat} {h0 h : tp_H} {z hi tx pa : Nat → Int32} {st len thr rd nu du : Int32} {hs : Int64} (hl : l.stackTraces = false) (hT0 : mm_S G y h0 z hi tx pa st len thr rd nu du hs h) {w : Nat} (hI1 : z_I1 z) (hI2 : z_I2 z) (hw : w < 4) : tp_Met l G mX6_ifClosed 0 0 [.ref y, .int (nI w)] h (tp_PS (some (.int (z_closed z w))) (fun h1 => mm_S G y h z hi tx pa st len 0 rd nu du hs h1)) tp_NX := by
  have hT := hT0.self
  have hw4 := tp_in4 hw
  refine tp_start (L0 := [some (.ref y), some (.int (nI w))]) (by decide) rfl hl (Nat.le_of_ble_eq_true rfl) rfl ?_
  refine r_aload0 dX6_ifClosed_0 ?_
  refine r_iload1 dX6_ifClosed_1 ?_
  refine r_pS dX6_ifClosed_2 v_X6_33 (M_isWallet hl) rfl rfl rfl (Nat.le_of_ble_eq_true rfl) ⟨(Nat.le_of_ble_eq_true rfl), (Nat.le_of_ble_eq_true rfl)⟩ ⟨(Nat.le_of_ble_eq_true rfl), (Nat.le_of_ble_eq_true rfl)⟩ ?_
  refine r_if_eq (tgt := 12) dX6_ifClosed_5 (by decide) (fun c5 => ?_) (fun c5 => ?_)
  · first | exact absurd (by assumption) (tp_b_0.mp c5) | exact absurd (by assumption) (tp_b_0.mp (Classical.not_not.mp c5)) | exact absurd (tp_b_n c5) (by assumption) | exact absurd (by assumption) c5 | exact absurd c5 (by assumption)
  · refine r_iconst (v := 0) dX6_ifClosed_8 (by decide) ?_
    refine r_goto (tgt := 13) dX6_ifClosed_9 (by decide) ?_
    refine mm_put_thr dX6_ifClosed_13 rfl hT (fun h1 hT => ?_)
    refine r_aload0 dX6_ifClosed_16 ?_
    refine r_getf dX6_ifClosed_17 f_X6_22 (hT.ob) rfl ?_
    refine r_if_le (tgt := 27) dX6_ifClosed_20 (by decide) (fun c20 => ?_) (fun c20 => ?_)
    · refine r_aload0 dX6_ifClosed_27 ?_
      refine r_iload1 dX6_ifClosed_28 ?_
      refine r_pV dX6_ifClosed_29 v_X6_219 (M_closedThen_I hl hT hI1 hw) rfl (hT.ob) rfl rfl rfl (Nat.le_of_ble_eq_true rfl) ⟨(Nat.le_of_ble_eq_true rfl), (Nat.le_of_ble_eq_true rfl)⟩ ⟨(Nat.le_of_ble_eq_true rfl), (Nat.le_of_ble_eq_true rfl)⟩ ?_
      exact r_iret dX6_ifClosed_32 rfl ⟨(Nat.le_of_ble_eq_true rfl), (Nat.le_of_ble_eq_true rfl)⟩ ⟨rfl, hT⟩
    · exact absurd (show (0 : Int32) ≤ 0 by decide) c20

set_option maxRecDepth 100000 in
set_option maxHeartbeats 4000000 in
theorem Q_ifClosed_1 {l : Launch} {G : tp_G} {y : Nat} {h0 h : tp_H} {z hi tx pa : Nat → Int32} {st len thr rd nu du : Int32} {hs : Int64} (hl : l.stackTraces = false) (hT0 : mm_S G y h0 z hi tx pa st len thr rd nu du hs h) {w : Int32} (hbad : ¬ (0 ≤ w ∧ w ≤ 3)) : tp_Met l G mX6_ifClosed 0 0 [.ref y, .int w] h (tp_PS (some (.int 0)) (fun h1 => mm_S G y h z hi tx pa st len 1 rd nu du hs h1)) tp_NX := by
  have hT := hT0.self
  refine tp_start (L0 := [some (.ref y), some (.int w)]) (by decide) rfl hl (Nat.le_of_ble_eq_true rfl) rfl ?_
  refine r_aload0 dX6_ifClosed_0 ?_
  refine r_iload1 dX6_ifClosed_1 ?_
  refine r_pS dX6_ifClosed_2 v_X6_33 (M_isWallet hl) rfl rfl rfl (Nat.le_of_ble_eq_true rfl) ⟨(Nat.le_of_ble_eq_true rfl), (Nat.le_of_ble_eq_true rfl)⟩ ⟨(Nat.le_of_ble_eq_true rfl), (Nat.le_of_ble_eq_true rfl)⟩ ?_
  refine r_if_eq (tgt := 12) dX6_ifClosed_5 (by decide) (fun c5 => ?_) (fun c5 => ?_)
  · refine r_iconst (v := 1) dX6_ifClosed_12 (by decide) ?_
    refine mm_put_thr dX6_ifClosed_13 rfl hT (fun h1 hT => ?_)
    refine r_aload0 dX6_ifClosed_16 ?_
    refine r_getf dX6_ifClosed_17 f_X6_22 (hT.ob) rfl ?_
    refine r_if_le (tgt := 27) dX6_ifClosed_20 (by decide) (fun c20 => ?_) (fun c20 => ?_)
    · exact absurd c20 (by decide)
    · refine r_iconst (v := 0) dX6_ifClosed_23 (by decide) ?_
      refine r_goto (tgt := 32) dX6_ifClosed_24 (by decide) ?_
      exact r_iret dX6_ifClosed_32 rfl ⟨(Nat.le_of_ble_eq_true rfl), (Nat.le_of_ble_eq_true rfl)⟩ ⟨rfl, hT⟩
  · first | exact absurd (by assumption) (tp_b_0.mp c5) | exact absurd (by assumption) (tp_b_0.mp (Classical.not_not.mp c5)) | exact absurd (tp_b_n c5) (by assumption) | exact absurd (by assumption) c5 | exact absurd c5 (by assumption)

set_option maxRecDepth 100000 in
set_option maxHeartbeats 4000000 in
theorem Q_heldShare {l : Launch} {G : tp_G} {y : Nat} {h0 h : tp_H} {z hi tx pa : Nat → Int32} {st len thr rd nu du : Int32} {hs : Int64} (hl : l.stackTraces = false) (hT0 : mm_S G y h0 z hi tx pa st len thr rd nu du hs h) {w c : Nat} (hI1 : z_I1 z) (hI2 : z_I2 z) (hw : w < 4) (hc : c < 4) : tp_Met l G mX6_heldShare 0 0 [.ref y, .int (nI w), .int (nI c)] h (tp_PS (some (.double (z_share z w c))) (fun h1 => mm_S G y h z hi tx pa st len 0 rd nu du hs h1)) tp_NX := by
  have hT := hT0.self
  have hp : (0 ≤ nI w ∧ nI w ≤ 3) ∧ (0 ≤ nI c ∧ nI c ≤ 3) := ⟨tp_in4 hw, tp_in4 hc⟩
  refine tp_start (L0 := [some (.ref y), some (.int (nI w)), some (.int (nI c))]) (by decide) rfl hl (Nat.le_of_ble_eq_true rfl) rfl ?_
  refine r_aload0 dX6_heldShare_0 ?_
  refine r_iload1 dX6_heldShare_1 ?_
  refine r_iload2 dX6_heldShare_2 ?_
  refine r_pS dX6_heldShare_3 v_X6_40 (M_isPurse hl) rfl rfl rfl (Nat.le_of_ble_eq_true rfl) ⟨(Nat.le_of_ble_eq_true rfl), (Nat.le_of_ble_eq_true rfl)⟩ ⟨(Nat.le_of_ble_eq_true rfl), (Nat.le_of_ble_eq_true rfl)⟩ ?_
  refine r_if_eq (tgt := 13) dX6_heldShare_6 (by decide) (fun c6 => ?_) (fun c6 => ?_)
  · first | exact absurd (by assumption) (tp_b_0.mp c6) | exact absurd (by assumption) (tp_b_0.mp (Classical.not_not.mp c6)) | exact absurd (tp_b_n c6) (by assumption) | exact absurd (by assumption) c6 | exact absurd c6 (by assumption)
  · refine r_iconst (v := 0) dX6_heldShare_9 (by decide) ?_
    refine r_goto (tgt := 14) dX6_heldShare_10 (by decide) ?_
    refine mm_put_thr dX6_heldShare_14 rfl hT (fun h1 hT => ?_)
    refine r_aload0 dX6_heldShare_17 ?_
    refine r_getf dX6_heldShare_18 f_X6_22 (hT.ob) rfl ?_
    refine r_if_le (tgt := 28) dX6_heldShare_21 (by decide) (fun c21 => ?_) (fun c21 => ?_)
    · refine r_aload0 dX6_heldShare_28 ?_
      refine r_iload1 dX6_heldShare_29 ?_
      refine r_iload2 dX6_heldShare_30 ?_
      refine r_pV dX6_heldShare_31 v_X6_222 (M_shareOf hl hT hI1 hI2 hw hc) rfl (hT.ob) rfl rfl rfl (Nat.le_of_ble_eq_true rfl) ⟨(Nat.le_of_ble_eq_true rfl), (Nat.le_of_ble_eq_true rfl)⟩ ⟨(Nat.le_of_ble_eq_true rfl), (Nat.le_of_ble_eq_true rfl)⟩ ?_
      exact r_dret dX6_heldShare_34 rfl ⟨(Nat.le_of_ble_eq_true rfl), (Nat.le_of_ble_eq_true rfl)⟩ ⟨rfl, hT⟩
    · exact absurd (show (0 : Int32) ≤ 0 by decide) c21

set_option maxRecDepth 100000 in
set_option maxHeartbeats 4000000 in
theorem Q_heldShare_1 {l : Launch} {G : tp_G} {y : Nat} {h0 h : tp_H} {z hi tx pa : Nat → Int32} {st len thr rd nu du : Int32} {hs : Int64} (hl : l.stackTraces = false) (hT0 : mm_S G y h0 z hi tx pa st len thr rd nu du hs h) {w c : Int32} (hbad : ¬ ((0 ≤ w ∧ w ≤ 3) ∧ (0 ≤ c ∧ c ≤ 3))) : tp_Met l G mX6_heldShare 0 0 [.ref y, .int w, .int c] h (tp_PS (some (.double FP.dconst0)) (fun h1 => mm_S G y h z hi tx pa st len 1 rd nu du hs h1)) tp_NX := by
  have hT := hT0.self
  refine tp_start (L0 := [some (.ref y), some (.int w), some (.int c)]) (by decide) rfl hl (Nat.le_of_ble_eq_true rfl) rfl ?_
  refine r_aload0 dX6_heldShare_0 ?_
  refine r_iload1 dX6_heldShare_1 ?_
  refine r_iload2 dX6_heldShare_2 ?_
  refine r_pS dX6_heldShare_3 v_X6_40 (M_isPurse hl) rfl rfl rfl (Nat.le_of_ble_eq_true rfl) ⟨(Nat.le_of_ble_eq_true rfl), (Nat.le_of_ble_eq_true rfl)⟩ ⟨(Nat.le_of_ble_eq_true rfl), (Nat.le_of_ble_eq_true rfl)⟩ ?_
  refine r_if_eq (tgt := 13) dX6_heldShare_6 (by decide) (fun c6 => ?_) (fun c6 => ?_)
  · refine r_iconst (v := 1) dX6_heldShare_13 (by decide) ?_
    refine mm_put_thr dX6_heldShare_14 rfl hT (fun h1 hT => ?_)
    refine r_aload0 dX6_heldShare_17 ?_
    refine r_getf dX6_heldShare_18 f_X6_22 (hT.ob) rfl ?_
    refine r_if_le (tgt := 28) dX6_heldShare_21 (by decide) (fun c21 => ?_) (fun c21 => ?_)
    · exact absurd c21 (by decide)
    · refine r_dconst0 dX6_heldShare_24 ?_
      refine r_goto (tgt := 34) dX6_heldShare_25 (by decide) ?_
      exact r_dret dX6_heldShare_34 rfl ⟨(Nat.le_of_ble_eq_true rfl), (Nat.le_of_ble_eq_true rfl)⟩ ⟨rfl, hT⟩
  · first | exact absurd (by assumption) (tp_b_0.mp c6) | exact absurd (by assumption) (tp_b_0.mp (Classical.not_not.mp c6)) | exact absurd (tp_b_n c6) (by assumption) | exact absurd (by assumption) c6 | exact absurd c6 (by assumption)

set_option maxRecDepth 100000 in
set_option maxHeartbeats 4000000 in
theorem Q_whyNot0 {l : Launch} {G : tp_G} {y : Nat} {h0 h : tp_H} {z hi tx pa : Nat → Int32} {st len thr rd nu du : Int32} {hs : Int64} (hl : l.stackTraces = false) (hT0 : mm_S G y h0 z hi tx pa st len thr rd nu du hs h) {w f t N P : Nat} {a : Int32} (hw : w < 4) (hf : f < 4) (ht : t < 4) (hz8 : z 8 = nI N) (hN : N ≤ 8) (hz9 : z 9 = nI P) (hP9 : P ≤ 12) (ha : 1 ≤ a ∧ a ≤ 99999) : tp_Met l G mX6_whyNot 0 0 [.ref y, .int 0, .int (nI w), .int (nI f), .int (nI t), .int a] h (tp_PS (some (.int (z_whyEx z w f t a))) (fun h1 => mm_S G y h z hi tx pa st len 0 rd nu du hs h1)) tp_NX := by
  have hT := hT0.self
  have hp : (0 ≤ nI w ∧ nI w ≤ 3) ∧ (0 ≤ nI f ∧ nI f ≤ 3) := ⟨tp_in4 hw, tp_in4 hf⟩
  have ht4 := tp_in4 ht
  have hj2 : (0 : Int32) ≤ 0 ∧ (0 : Int32) ≤ 2 := by decide
  refine tp_start (L0 := [some (.ref y), some (.int 0), some (.int (nI w)), some (.int (nI f)), some (.int (nI t)), some (.int a)]) (by decide) rfl hl (Nat.le_of_ble_eq_true rfl) rfl ?_
  refine r_aload0 dX6_whyNot_0 ?_
  refine r_iload2 dX6_whyNot_1 ?_
  refine r_iload3 dX6_whyNot_2 ?_
  refine r_pS dX6_whyNot_3 v_X6_40 (M_isPurse hl) rfl rfl rfl (Nat.le_of_ble_eq_true rfl) ⟨(Nat.le_of_ble_eq_true rfl), (Nat.le_of_ble_eq_true rfl)⟩ ⟨(Nat.le_of_ble_eq_true rfl), (Nat.le_of_ble_eq_true rfl)⟩ ?_
  refine r_if_eq (tgt := 17) dX6_whyNot_6 (by decide) (fun c6 => ?_) (fun c6 => ?_)
  · first | exact absurd (by assumption) (tp_b_0.mp c6) | exact absurd (by assumption) (tp_b_0.mp (Classical.not_not.mp c6)) | exact absurd (tp_b_n c6) (by assumption) | exact absurd (by assumption) c6 | exact absurd c6 (by assumption)
  · refine r_iload4 dX6_whyNot_9 ?_
    refine r_pS dX6_whyNot_11 v_X6_37 (M_isCurrency hl) rfl rfl rfl (Nat.le_of_ble_eq_true rfl) ⟨(Nat.le_of_ble_eq_true rfl), (Nat.le_of_ble_eq_true rfl)⟩ ⟨(Nat.le_of_ble_eq_true rfl), (Nat.le_of_ble_eq_true rfl)⟩ ?_
    refine r_if_ne (tgt := 21) dX6_whyNot_14 (by decide) (fun c14 => ?_) (fun c14 => ?_)
    · refine r_iload1 dX6_whyNot_21 ?_
      refine r_iconst (v := 0) dX6_whyNot_22 (by decide) ?_
      refine r_iconst (v := 2) dX6_whyNot_23 (by decide) ?_
      refine r_pS dX6_whyNot_24 v_X6_29 (M_within hl) rfl rfl rfl (Nat.le_of_ble_eq_true rfl) ⟨(Nat.le_of_ble_eq_true rfl), (Nat.le_of_ble_eq_true rfl)⟩ ⟨(Nat.le_of_ble_eq_true rfl), (Nat.le_of_ble_eq_true rfl)⟩ ?_
      refine r_if_eq (tgt := 42) dX6_whyNot_27 (by decide) (fun c27 => ?_) (fun c27 => ?_)
      · first | exact absurd (by assumption) (tp_b_0.mp c27) | exact absurd (by assumption) (tp_b_0.mp (Classical.not_not.mp c27)) | exact absurd (tp_b_n c27) (by assumption) | exact absurd (by assumption) c27 | exact absurd c27 (by assumption)
      · refine r_iload5 dX6_whyNot_30 ?_
        refine r_pS dX6_whyNot_32 v_X6_62 (M_isMoney hl) rfl rfl rfl (Nat.le_of_ble_eq_true rfl) ⟨(Nat.le_of_ble_eq_true rfl), (Nat.le_of_ble_eq_true rfl)⟩ ⟨(Nat.le_of_ble_eq_true rfl), (Nat.le_of_ble_eq_true rfl)⟩ ?_
        refine r_if_eq (tgt := 42) dX6_whyNot_35 (by decide) (fun c35 => ?_) (fun c35 => ?_)
        · first | exact absurd (by assumption) (tp_b_0.mp c35) | exact absurd (by assumption) (tp_b_0.mp (Classical.not_not.mp c35)) | exact absurd (tp_b_n c35) (by assumption) | exact absurd (by assumption) c35 | exact absurd c35 (by assumption)
        · refine r_iconst (v := 0) dX6_whyNot_38 (by decide) ?_
          refine r_goto (tgt := 43) dX6_whyNot_39 (by decide) ?_
          refine mm_put_thr dX6_whyNot_43 rfl hT (fun h1 hT => ?_)
          refine r_aload0 dX6_whyNot_46 ?_
          refine r_getf dX6_whyNot_47 f_X6_22 (hT.ob) rfl ?_
          refine r_if_le (tgt := 55) dX6_whyNot_50 (by decide) (fun c50 => ?_) (fun c50 => ?_)
          · refine r_iload1 dX6_whyNot_55 ?_
            refine r_if_ne (tgt := 72) dX6_whyNot_56 (by decide) (fun c56 => ?_) (fun c56 => ?_)
            · exact absurd rfl c56
            · refine r_aload0 dX6_whyNot_59 ?_
              refine r_iload2 dX6_whyNot_60 ?_
              refine r_iload3 dX6_whyNot_61 ?_
              refine r_iload4 dX6_whyNot_62 ?_
              refine r_iload5 dX6_whyNot_64 ?_
              refine r_pV dX6_whyNot_66 v_X6_105 (M_whyNoExchange hl hT hw hf ht hz8 hN) rfl (hT.ob) rfl rfl rfl (Nat.le_of_ble_eq_true rfl) ⟨(Nat.le_of_ble_eq_true rfl), (Nat.le_of_ble_eq_true rfl)⟩ ⟨(Nat.le_of_ble_eq_true rfl), (Nat.le_of_ble_eq_true rfl)⟩ ?_
              refine r_goto (tgt := 93) dX6_whyNot_69 (by decide) ?_
              exact r_iret dX6_whyNot_93 rfl ⟨(Nat.le_of_ble_eq_true rfl), (Nat.le_of_ble_eq_true rfl)⟩ ⟨rfl, hT⟩
          · exact absurd (show (0 : Int32) ≤ 0 by decide) c50
    · first | exact absurd (by assumption) (tp_b_0.mp c14) | exact absurd (by assumption) (tp_b_0.mp (Classical.not_not.mp c14)) | exact absurd (tp_b_n c14) (by assumption) | exact absurd (by assumption) c14 | exact absurd c14 (by assumption)

set_option maxRecDepth 100000 in
set_option maxHeartbeats 4000000 in
theorem Q_whyNot1 {l : Launch} {G : tp_G} {y : Nat} {h0 h : tp_H} {z hi tx pa : Nat → Int32} {st len thr rd nu du : Int32} {hs : Int64} (hl : l.stackTraces = false) (hT0 : mm_S G y h0 z hi tx pa st len thr rd nu du hs h) {w f t N P : Nat} {a : Int32} (hw : w < 4) (hf : f < 4) (ht : t < 4) (hz8 : z 8 = nI N) (hN : N ≤ 8) (hz9 : z 9 = nI P) (hP9 : P ≤ 12) (ha : 1 ≤ a ∧ a ≤ 99999) : tp_Met l G mX6_whyNot 0 0 [.ref y, .int 1, .int (nI w), .int (nI f), .int (nI t), .int a] h (tp_PS (some (.int (z_whyHold z w f a))) (fun h1 => mm_S G y h z hi tx pa st len 0 rd nu du hs h1)) tp_NX := by
  have hT := hT0.self
  have hp : (0 ≤ nI w ∧ nI w ≤ 3) ∧ (0 ≤ nI f ∧ nI f ≤ 3) := ⟨tp_in4 hw, tp_in4 hf⟩
  have ht4 := tp_in4 ht
  have hj2 : (0 : Int32) ≤ 1 ∧ (1 : Int32) ≤ 2 := by decide
  refine tp_start (L0 := [some (.ref y), some (.int 1), some (.int (nI w)), some (.int (nI f)), some (.int (nI t)), some (.int a)]) (by decide) rfl hl (Nat.le_of_ble_eq_true rfl) rfl ?_
  refine r_aload0 dX6_whyNot_0 ?_
  refine r_iload2 dX6_whyNot_1 ?_
  refine r_iload3 dX6_whyNot_2 ?_
  refine r_pS dX6_whyNot_3 v_X6_40 (M_isPurse hl) rfl rfl rfl (Nat.le_of_ble_eq_true rfl) ⟨(Nat.le_of_ble_eq_true rfl), (Nat.le_of_ble_eq_true rfl)⟩ ⟨(Nat.le_of_ble_eq_true rfl), (Nat.le_of_ble_eq_true rfl)⟩ ?_
  refine r_if_eq (tgt := 17) dX6_whyNot_6 (by decide) (fun c6 => ?_) (fun c6 => ?_)
  · first | exact absurd (by assumption) (tp_b_0.mp c6) | exact absurd (by assumption) (tp_b_0.mp (Classical.not_not.mp c6)) | exact absurd (tp_b_n c6) (by assumption) | exact absurd (by assumption) c6 | exact absurd c6 (by assumption)
  · refine r_iload4 dX6_whyNot_9 ?_
    refine r_pS dX6_whyNot_11 v_X6_37 (M_isCurrency hl) rfl rfl rfl (Nat.le_of_ble_eq_true rfl) ⟨(Nat.le_of_ble_eq_true rfl), (Nat.le_of_ble_eq_true rfl)⟩ ⟨(Nat.le_of_ble_eq_true rfl), (Nat.le_of_ble_eq_true rfl)⟩ ?_
    refine r_if_ne (tgt := 21) dX6_whyNot_14 (by decide) (fun c14 => ?_) (fun c14 => ?_)
    · refine r_iload1 dX6_whyNot_21 ?_
      refine r_iconst (v := 0) dX6_whyNot_22 (by decide) ?_
      refine r_iconst (v := 2) dX6_whyNot_23 (by decide) ?_
      refine r_pS dX6_whyNot_24 v_X6_29 (M_within hl) rfl rfl rfl (Nat.le_of_ble_eq_true rfl) ⟨(Nat.le_of_ble_eq_true rfl), (Nat.le_of_ble_eq_true rfl)⟩ ⟨(Nat.le_of_ble_eq_true rfl), (Nat.le_of_ble_eq_true rfl)⟩ ?_
      refine r_if_eq (tgt := 42) dX6_whyNot_27 (by decide) (fun c27 => ?_) (fun c27 => ?_)
      · first | exact absurd (by assumption) (tp_b_0.mp c27) | exact absurd (by assumption) (tp_b_0.mp (Classical.not_not.mp c27)) | exact absurd (tp_b_n c27) (by assumption) | exact absurd (by assumption) c27 | exact absurd c27 (by assumption)
      · refine r_iload5 dX6_whyNot_30 ?_
        refine r_pS dX6_whyNot_32 v_X6_62 (M_isMoney hl) rfl rfl rfl (Nat.le_of_ble_eq_true rfl) ⟨(Nat.le_of_ble_eq_true rfl), (Nat.le_of_ble_eq_true rfl)⟩ ⟨(Nat.le_of_ble_eq_true rfl), (Nat.le_of_ble_eq_true rfl)⟩ ?_
        refine r_if_eq (tgt := 42) dX6_whyNot_35 (by decide) (fun c35 => ?_) (fun c35 => ?_)
        · first | exact absurd (by assumption) (tp_b_0.mp c35) | exact absurd (by assumption) (tp_b_0.mp (Classical.not_not.mp c35)) | exact absurd (tp_b_n c35) (by assumption) | exact absurd (by assumption) c35 | exact absurd c35 (by assumption)
        · refine r_iconst (v := 0) dX6_whyNot_38 (by decide) ?_
          refine r_goto (tgt := 43) dX6_whyNot_39 (by decide) ?_
          refine mm_put_thr dX6_whyNot_43 rfl hT (fun h1 hT => ?_)
          refine r_aload0 dX6_whyNot_46 ?_
          refine r_getf dX6_whyNot_47 f_X6_22 (hT.ob) rfl ?_
          refine r_if_le (tgt := 55) dX6_whyNot_50 (by decide) (fun c50 => ?_) (fun c50 => ?_)
          · refine r_iload1 dX6_whyNot_55 ?_
            refine r_if_ne (tgt := 72) dX6_whyNot_56 (by decide) (fun c56 => ?_) (fun c56 => ?_)
            · refine r_iload1 dX6_whyNot_72 ?_
              refine r_iconst (v := 1) dX6_whyNot_73 (by decide) ?_
              refine r_icmp_ne (tgt := 88) dX6_whyNot_74 (by decide) (fun c74 => ?_) (fun c74 => ?_)
              · exact absurd rfl c74
              · refine r_aload0 dX6_whyNot_77 ?_
                refine r_iload2 dX6_whyNot_78 ?_
                refine r_iload3 dX6_whyNot_79 ?_
                refine r_iload5 dX6_whyNot_80 ?_
                refine r_pV dX6_whyNot_82 v_X6_114 (M_whyNoHold hl hT hw hf hz8 hN) rfl (hT.ob) rfl rfl rfl (Nat.le_of_ble_eq_true rfl) ⟨(Nat.le_of_ble_eq_true rfl), (Nat.le_of_ble_eq_true rfl)⟩ ⟨(Nat.le_of_ble_eq_true rfl), (Nat.le_of_ble_eq_true rfl)⟩ ?_
                refine r_goto (tgt := 93) dX6_whyNot_85 (by decide) ?_
                exact r_iret dX6_whyNot_93 rfl ⟨(Nat.le_of_ble_eq_true rfl), (Nat.le_of_ble_eq_true rfl)⟩ ⟨rfl, hT⟩
            · exact absurd c56 (by decide)
          · exact absurd (show (0 : Int32) ≤ 0 by decide) c50
    · first | exact absurd (by assumption) (tp_b_0.mp c14) | exact absurd (by assumption) (tp_b_0.mp (Classical.not_not.mp c14)) | exact absurd (tp_b_n c14) (by assumption) | exact absurd (by assumption) c14 | exact absurd c14 (by assumption)

set_option maxRecDepth 100000 in
set_option maxHeartbeats 4000000 in
theorem Q_whyNot2 {l : Launch} {G : tp_G} {y : Nat} {h0 h : tp_H} {z hi tx pa : Nat → Int32} {st len thr rd nu du : Int32} {hs : Int64} (hl : l.stackTraces = false) (hT0 : mm_S G y h0 z hi tx pa st len thr rd nu du hs h) {w f t N P : Nat} {a : Int32} (hw : w < 4) (hf : f < 4) (ht : t < 4) (hz8 : z 8 = nI N) (hN : N ≤ 8) (hz9 : z 9 = nI P) (hP9 : P ≤ 12) (ha : 1 ≤ a ∧ a ≤ 99999) : tp_Met l G mX6_whyNot 0 0 [.ref y, .int 2, .int (nI w), .int (nI f), .int (nI t), .int a] h (tp_PS (some (.int (z_whyClose z w))) (fun h1 => mm_S G y h z hi tx pa st len 0 rd nu du hs h1)) tp_NX := by
  have hT := hT0.self
  have hp : (0 ≤ nI w ∧ nI w ≤ 3) ∧ (0 ≤ nI f ∧ nI f ≤ 3) := ⟨tp_in4 hw, tp_in4 hf⟩
  have ht4 := tp_in4 ht
  have hj2 : (0 : Int32) ≤ 2 ∧ (2 : Int32) ≤ 2 := by decide
  refine tp_start (L0 := [some (.ref y), some (.int 2), some (.int (nI w)), some (.int (nI f)), some (.int (nI t)), some (.int a)]) (by decide) rfl hl (Nat.le_of_ble_eq_true rfl) rfl ?_
  refine r_aload0 dX6_whyNot_0 ?_
  refine r_iload2 dX6_whyNot_1 ?_
  refine r_iload3 dX6_whyNot_2 ?_
  refine r_pS dX6_whyNot_3 v_X6_40 (M_isPurse hl) rfl rfl rfl (Nat.le_of_ble_eq_true rfl) ⟨(Nat.le_of_ble_eq_true rfl), (Nat.le_of_ble_eq_true rfl)⟩ ⟨(Nat.le_of_ble_eq_true rfl), (Nat.le_of_ble_eq_true rfl)⟩ ?_
  refine r_if_eq (tgt := 17) dX6_whyNot_6 (by decide) (fun c6 => ?_) (fun c6 => ?_)
  · first | exact absurd (by assumption) (tp_b_0.mp c6) | exact absurd (by assumption) (tp_b_0.mp (Classical.not_not.mp c6)) | exact absurd (tp_b_n c6) (by assumption) | exact absurd (by assumption) c6 | exact absurd c6 (by assumption)
  · refine r_iload4 dX6_whyNot_9 ?_
    refine r_pS dX6_whyNot_11 v_X6_37 (M_isCurrency hl) rfl rfl rfl (Nat.le_of_ble_eq_true rfl) ⟨(Nat.le_of_ble_eq_true rfl), (Nat.le_of_ble_eq_true rfl)⟩ ⟨(Nat.le_of_ble_eq_true rfl), (Nat.le_of_ble_eq_true rfl)⟩ ?_
    refine r_if_ne (tgt := 21) dX6_whyNot_14 (by decide) (fun c14 => ?_) (fun c14 => ?_)
    · refine r_iload1 dX6_whyNot_21 ?_
      refine r_iconst (v := 0) dX6_whyNot_22 (by decide) ?_
      refine r_iconst (v := 2) dX6_whyNot_23 (by decide) ?_
      refine r_pS dX6_whyNot_24 v_X6_29 (M_within hl) rfl rfl rfl (Nat.le_of_ble_eq_true rfl) ⟨(Nat.le_of_ble_eq_true rfl), (Nat.le_of_ble_eq_true rfl)⟩ ⟨(Nat.le_of_ble_eq_true rfl), (Nat.le_of_ble_eq_true rfl)⟩ ?_
      refine r_if_eq (tgt := 42) dX6_whyNot_27 (by decide) (fun c27 => ?_) (fun c27 => ?_)
      · first | exact absurd (by assumption) (tp_b_0.mp c27) | exact absurd (by assumption) (tp_b_0.mp (Classical.not_not.mp c27)) | exact absurd (tp_b_n c27) (by assumption) | exact absurd (by assumption) c27 | exact absurd c27 (by assumption)
      · refine r_iload5 dX6_whyNot_30 ?_
        refine r_pS dX6_whyNot_32 v_X6_62 (M_isMoney hl) rfl rfl rfl (Nat.le_of_ble_eq_true rfl) ⟨(Nat.le_of_ble_eq_true rfl), (Nat.le_of_ble_eq_true rfl)⟩ ⟨(Nat.le_of_ble_eq_true rfl), (Nat.le_of_ble_eq_true rfl)⟩ ?_
        refine r_if_eq (tgt := 42) dX6_whyNot_35 (by decide) (fun c35 => ?_) (fun c35 => ?_)
        · first | exact absurd (by assumption) (tp_b_0.mp c35) | exact absurd (by assumption) (tp_b_0.mp (Classical.not_not.mp c35)) | exact absurd (tp_b_n c35) (by assumption) | exact absurd (by assumption) c35 | exact absurd c35 (by assumption)
        · refine r_iconst (v := 0) dX6_whyNot_38 (by decide) ?_
          refine r_goto (tgt := 43) dX6_whyNot_39 (by decide) ?_
          refine mm_put_thr dX6_whyNot_43 rfl hT (fun h1 hT => ?_)
          refine r_aload0 dX6_whyNot_46 ?_
          refine r_getf dX6_whyNot_47 f_X6_22 (hT.ob) rfl ?_
          refine r_if_le (tgt := 55) dX6_whyNot_50 (by decide) (fun c50 => ?_) (fun c50 => ?_)
          · refine r_iload1 dX6_whyNot_55 ?_
            refine r_if_ne (tgt := 72) dX6_whyNot_56 (by decide) (fun c56 => ?_) (fun c56 => ?_)
            · refine r_iload1 dX6_whyNot_72 ?_
              refine r_iconst (v := 1) dX6_whyNot_73 (by decide) ?_
              refine r_icmp_ne (tgt := 88) dX6_whyNot_74 (by decide) (fun c74 => ?_) (fun c74 => ?_)
              · refine r_aload0 dX6_whyNot_88 ?_
                refine r_iload2 dX6_whyNot_89 ?_
                refine r_pV dX6_whyNot_90 v_X6_148 (M_whyNoClosing hl hT hw hz8 hN hz9 hP9) rfl (hT.ob) rfl rfl rfl (Nat.le_of_ble_eq_true rfl) ⟨(Nat.le_of_ble_eq_true rfl), (Nat.le_of_ble_eq_true rfl)⟩ ⟨(Nat.le_of_ble_eq_true rfl), (Nat.le_of_ble_eq_true rfl)⟩ ?_
                exact r_iret dX6_whyNot_93 rfl ⟨(Nat.le_of_ble_eq_true rfl), (Nat.le_of_ble_eq_true rfl)⟩ ⟨rfl, hT⟩
              · exact absurd c74 (by decide)
            · exact absurd c56 (by decide)
          · exact absurd (show (0 : Int32) ≤ 0 by decide) c50
    · first | exact absurd (by assumption) (tp_b_0.mp c14) | exact absurd (by assumption) (tp_b_0.mp (Classical.not_not.mp c14)) | exact absurd (tp_b_n c14) (by assumption) | exact absurd (by assumption) c14 | exact absurd c14 (by assumption)

set_option maxRecDepth 100000 in
set_option maxHeartbeats 4000000 in
theorem Q_whyNot_1 {l : Launch} {G : tp_G} {y : Nat} {h0 h : tp_H} {z hi tx pa : Nat → Int32} {st len thr rd nu du : Int32} {hs : Int64} (hl : l.stackTraces = false) (hT0 : mm_S G y h0 z hi tx pa st len thr rd nu du hs h) {j w f t a : Int32} (hbad : ¬ ((0 ≤ w ∧ w ≤ 3) ∧ (0 ≤ f ∧ f ≤ 3))) : tp_Met l G mX6_whyNot 0 0 [.ref y, .int j, .int w, .int f, .int t, .int a] h (tp_PS (some (.int 0)) (fun h1 => mm_S G y h z hi tx pa st len 1 rd nu du hs h1)) tp_NX := by
  have hT := hT0.self
  refine tp_start (L0 := [some (.ref y), some (.int j), some (.int w), some (.int f), some (.int t), some (.int a)]) (by decide) rfl hl (Nat.le_of_ble_eq_true rfl) rfl ?_
  refine r_aload0 dX6_whyNot_0 ?_
  refine r_iload2 dX6_whyNot_1 ?_
  refine r_iload3 dX6_whyNot_2 ?_
  refine r_pS dX6_whyNot_3 v_X6_40 (M_isPurse hl) rfl rfl rfl (Nat.le_of_ble_eq_true rfl) ⟨(Nat.le_of_ble_eq_true rfl), (Nat.le_of_ble_eq_true rfl)⟩ ⟨(Nat.le_of_ble_eq_true rfl), (Nat.le_of_ble_eq_true rfl)⟩ ?_
  refine r_if_eq (tgt := 17) dX6_whyNot_6 (by decide) (fun c6 => ?_) (fun c6 => ?_)
  · refine r_iconst (v := 1) dX6_whyNot_17 (by decide) ?_
    refine r_goto (tgt := 43) dX6_whyNot_18 (by decide) ?_
    refine mm_put_thr dX6_whyNot_43 rfl hT (fun h1 hT => ?_)
    refine r_aload0 dX6_whyNot_46 ?_
    refine r_getf dX6_whyNot_47 f_X6_22 (hT.ob) rfl ?_
    refine r_if_le (tgt := 55) dX6_whyNot_50 (by decide) (fun c50 => ?_) (fun c50 => ?_)
    · exact absurd c50 (by decide)
    · refine r_iconst (v := 0) dX6_whyNot_53 (by decide) ?_
      exact r_iret dX6_whyNot_54 rfl ⟨(Nat.le_of_ble_eq_true rfl), (Nat.le_of_ble_eq_true rfl)⟩ ⟨rfl, hT⟩
  · first | exact absurd (by assumption) (tp_b_0.mp c6) | exact absurd (by assumption) (tp_b_0.mp (Classical.not_not.mp c6)) | exact absurd (tp_b_n c6) (by assumption) | exact absurd (by assumption) c6 | exact absurd c6 (by assumption)

set_option maxRecDepth 100000 in
set_option maxHeartbeats 4000000 in
theorem Q_whyNot_1b {l : Launch} {G : tp_G} {y : Nat} {h0 h : tp_H} {z hi tx pa : Nat → Int32} {st len thr rd nu du : Int32} {hs : Int64} (hl : l.stackTraces = false) (hT0 : mm_S G y h0 z hi tx pa st len thr rd nu du hs h) {j w f t a : Int32} (hp : (0 ≤ w ∧ w ≤ 3) ∧ (0 ≤ f ∧ f ≤ 3)) (hbad : ¬ (0 ≤ t ∧ t ≤ 3)) : tp_Met l G mX6_whyNot 0 0 [.ref y, .int j, .int w, .int f, .int t, .int a] h (tp_PS (some (.int 0)) (fun h1 => mm_S G y h z hi tx pa st len 1 rd nu du hs h1)) tp_NX := by
  have hT := hT0.self
  refine tp_start (L0 := [some (.ref y), some (.int j), some (.int w), some (.int f), some (.int t), some (.int a)]) (by decide) rfl hl (Nat.le_of_ble_eq_true rfl) rfl ?_
  refine r_aload0 dX6_whyNot_0 ?_
  refine r_iload2 dX6_whyNot_1 ?_
  refine r_iload3 dX6_whyNot_2 ?_
  refine r_pS dX6_whyNot_3 v_X6_40 (M_isPurse hl) rfl rfl rfl (Nat.le_of_ble_eq_true rfl) ⟨(Nat.le_of_ble_eq_true rfl), (Nat.le_of_ble_eq_true rfl)⟩ ⟨(Nat.le_of_ble_eq_true rfl), (Nat.le_of_ble_eq_true rfl)⟩ ?_
  refine r_if_eq (tgt := 17) dX6_whyNot_6 (by decide) (fun c6 => ?_) (fun c6 => ?_)
  · first | exact absurd (by assumption) (tp_b_0.mp c6) | exact absurd (by assumption) (tp_b_0.mp (Classical.not_not.mp c6)) | exact absurd (tp_b_n c6) (by assumption) | exact absurd (by assumption) c6 | exact absurd c6 (by assumption)
  · refine r_iload4 dX6_whyNot_9 ?_
    refine r_pS dX6_whyNot_11 v_X6_37 (M_isCurrency hl) rfl rfl rfl (Nat.le_of_ble_eq_true rfl) ⟨(Nat.le_of_ble_eq_true rfl), (Nat.le_of_ble_eq_true rfl)⟩ ⟨(Nat.le_of_ble_eq_true rfl), (Nat.le_of_ble_eq_true rfl)⟩ ?_
    refine r_if_ne (tgt := 21) dX6_whyNot_14 (by decide) (fun c14 => ?_) (fun c14 => ?_)
    · first | exact absurd (by assumption) (tp_b_0.mp c14) | exact absurd (by assumption) (tp_b_0.mp (Classical.not_not.mp c14)) | exact absurd (tp_b_n c14) (by assumption) | exact absurd (by assumption) c14 | exact absurd c14 (by assumption)
    · refine r_iconst (v := 1) dX6_whyNot_17 (by decide) ?_
      refine r_goto (tgt := 43) dX6_whyNot_18 (by decide) ?_
      refine mm_put_thr dX6_whyNot_43 rfl hT (fun h1 hT => ?_)
      refine r_aload0 dX6_whyNot_46 ?_
      refine r_getf dX6_whyNot_47 f_X6_22 (hT.ob) rfl ?_
      refine r_if_le (tgt := 55) dX6_whyNot_50 (by decide) (fun c50 => ?_) (fun c50 => ?_)
      · exact absurd c50 (by decide)
      · refine r_iconst (v := 0) dX6_whyNot_53 (by decide) ?_
        exact r_iret dX6_whyNot_54 rfl ⟨(Nat.le_of_ble_eq_true rfl), (Nat.le_of_ble_eq_true rfl)⟩ ⟨rfl, hT⟩

set_option maxRecDepth 100000 in
set_option maxHeartbeats 4000000 in
theorem Q_whyNot_2b {l : Launch} {G : tp_G} {y : Nat} {h0 h : tp_H} {z hi tx pa : Nat → Int32} {st len thr rd nu du : Int32} {hs : Int64} (hl : l.stackTraces = false) (hT0 : mm_S G y h0 z hi tx pa st len thr rd nu du hs h) {j w f t a : Int32} (hp : (0 ≤ w ∧ w ≤ 3) ∧ (0 ≤ f ∧ f ≤ 3)) (ht : 0 ≤ t ∧ t ≤ 3) (hbad : ¬ (0 ≤ j ∧ j ≤ 2)) : tp_Met l G mX6_whyNot 0 0 [.ref y, .int j, .int w, .int f, .int t, .int a] h (tp_PS (some (.int 0)) (fun h1 => mm_S G y h z hi tx pa st len 2 rd nu du hs h1)) tp_NX := by
  have hT := hT0.self
  refine tp_start (L0 := [some (.ref y), some (.int j), some (.int w), some (.int f), some (.int t), some (.int a)]) (by decide) rfl hl (Nat.le_of_ble_eq_true rfl) rfl ?_
  refine r_aload0 dX6_whyNot_0 ?_
  refine r_iload2 dX6_whyNot_1 ?_
  refine r_iload3 dX6_whyNot_2 ?_
  refine r_pS dX6_whyNot_3 v_X6_40 (M_isPurse hl) rfl rfl rfl (Nat.le_of_ble_eq_true rfl) ⟨(Nat.le_of_ble_eq_true rfl), (Nat.le_of_ble_eq_true rfl)⟩ ⟨(Nat.le_of_ble_eq_true rfl), (Nat.le_of_ble_eq_true rfl)⟩ ?_
  refine r_if_eq (tgt := 17) dX6_whyNot_6 (by decide) (fun c6 => ?_) (fun c6 => ?_)
  · first | exact absurd (by assumption) (tp_b_0.mp c6) | exact absurd (by assumption) (tp_b_0.mp (Classical.not_not.mp c6)) | exact absurd (tp_b_n c6) (by assumption) | exact absurd (by assumption) c6 | exact absurd c6 (by assumption)
  · refine r_iload4 dX6_whyNot_9 ?_
    refine r_pS dX6_whyNot_11 v_X6_37 (M_isCurrency hl) rfl rfl rfl (Nat.le_of_ble_eq_true rfl) ⟨(Nat.le_of_ble_eq_true rfl), (Nat.le_of_ble_eq_true rfl)⟩ ⟨(Nat.le_of_ble_eq_true rfl), (Nat.le_of_ble_eq_true rfl)⟩ ?_
    refine r_if_ne (tgt := 21) dX6_whyNot_14 (by decide) (fun c14 => ?_) (fun c14 => ?_)
    · refine r_iload1 dX6_whyNot_21 ?_
      refine r_iconst (v := 0) dX6_whyNot_22 (by decide) ?_
      refine r_iconst (v := 2) dX6_whyNot_23 (by decide) ?_
      refine r_pS dX6_whyNot_24 v_X6_29 (M_within hl) rfl rfl rfl (Nat.le_of_ble_eq_true rfl) ⟨(Nat.le_of_ble_eq_true rfl), (Nat.le_of_ble_eq_true rfl)⟩ ⟨(Nat.le_of_ble_eq_true rfl), (Nat.le_of_ble_eq_true rfl)⟩ ?_
      refine r_if_eq (tgt := 42) dX6_whyNot_27 (by decide) (fun c27 => ?_) (fun c27 => ?_)
      · refine r_iconst (v := 2) dX6_whyNot_42 (by decide) ?_
        refine mm_put_thr dX6_whyNot_43 rfl hT (fun h1 hT => ?_)
        refine r_aload0 dX6_whyNot_46 ?_
        refine r_getf dX6_whyNot_47 f_X6_22 (hT.ob) rfl ?_
        refine r_if_le (tgt := 55) dX6_whyNot_50 (by decide) (fun c50 => ?_) (fun c50 => ?_)
        · exact absurd c50 (by decide)
        · refine r_iconst (v := 0) dX6_whyNot_53 (by decide) ?_
          exact r_iret dX6_whyNot_54 rfl ⟨(Nat.le_of_ble_eq_true rfl), (Nat.le_of_ble_eq_true rfl)⟩ ⟨rfl, hT⟩
      · first | exact absurd (by assumption) (tp_b_0.mp c27) | exact absurd (by assumption) (tp_b_0.mp (Classical.not_not.mp c27)) | exact absurd (tp_b_n c27) (by assumption) | exact absurd (by assumption) c27 | exact absurd c27 (by assumption)
    · first | exact absurd (by assumption) (tp_b_0.mp c14) | exact absurd (by assumption) (tp_b_0.mp (Classical.not_not.mp c14)) | exact absurd (tp_b_n c14) (by assumption) | exact absurd (by assumption) c14 | exact absurd c14 (by assumption)

set_option maxRecDepth 100000 in
set_option maxHeartbeats 4000000 in
theorem Q_whyNot_2 {l : Launch} {G : tp_G} {y : Nat} {h0 h : tp_H} {z hi tx pa : Nat → Int32} {st len thr rd nu du : Int32} {hs : Int64} (hl : l.stackTraces = false) (hT0 : mm_S G y h0 z hi tx pa st len thr rd nu du hs h) {j w f t a : Int32} (hp : (0 ≤ w ∧ w ≤ 3) ∧ (0 ≤ f ∧ f ≤ 3)) (ht : 0 ≤ t ∧ t ≤ 3) (hj : 0 ≤ j ∧ j ≤ 2) (hbad : ¬ (1 ≤ a ∧ a ≤ 99999)) : tp_Met l G mX6_whyNot 0 0 [.ref y, .int j, .int w, .int f, .int t, .int a] h (tp_PS (some (.int 0)) (fun h1 => mm_S G y h z hi tx pa st len 2 rd nu du hs h1)) tp_NX := by
  have hT := hT0.self
  refine tp_start (L0 := [some (.ref y), some (.int j), some (.int w), some (.int f), some (.int t), some (.int a)]) (by decide) rfl hl (Nat.le_of_ble_eq_true rfl) rfl ?_
  refine r_aload0 dX6_whyNot_0 ?_
  refine r_iload2 dX6_whyNot_1 ?_
  refine r_iload3 dX6_whyNot_2 ?_
  refine r_pS dX6_whyNot_3 v_X6_40 (M_isPurse hl) rfl rfl rfl (Nat.le_of_ble_eq_true rfl) ⟨(Nat.le_of_ble_eq_true rfl), (Nat.le_of_ble_eq_true rfl)⟩ ⟨(Nat.le_of_ble_eq_true rfl), (Nat.le_of_ble_eq_true rfl)⟩ ?_
  refine r_if_eq (tgt := 17) dX6_whyNot_6 (by decide) (fun c6 => ?_) (fun c6 => ?_)
  · first | exact absurd (by assumption) (tp_b_0.mp c6) | exact absurd (by assumption) (tp_b_0.mp (Classical.not_not.mp c6)) | exact absurd (tp_b_n c6) (by assumption) | exact absurd (by assumption) c6 | exact absurd c6 (by assumption)
  · refine r_iload4 dX6_whyNot_9 ?_
    refine r_pS dX6_whyNot_11 v_X6_37 (M_isCurrency hl) rfl rfl rfl (Nat.le_of_ble_eq_true rfl) ⟨(Nat.le_of_ble_eq_true rfl), (Nat.le_of_ble_eq_true rfl)⟩ ⟨(Nat.le_of_ble_eq_true rfl), (Nat.le_of_ble_eq_true rfl)⟩ ?_
    refine r_if_ne (tgt := 21) dX6_whyNot_14 (by decide) (fun c14 => ?_) (fun c14 => ?_)
    · refine r_iload1 dX6_whyNot_21 ?_
      refine r_iconst (v := 0) dX6_whyNot_22 (by decide) ?_
      refine r_iconst (v := 2) dX6_whyNot_23 (by decide) ?_
      refine r_pS dX6_whyNot_24 v_X6_29 (M_within hl) rfl rfl rfl (Nat.le_of_ble_eq_true rfl) ⟨(Nat.le_of_ble_eq_true rfl), (Nat.le_of_ble_eq_true rfl)⟩ ⟨(Nat.le_of_ble_eq_true rfl), (Nat.le_of_ble_eq_true rfl)⟩ ?_
      refine r_if_eq (tgt := 42) dX6_whyNot_27 (by decide) (fun c27 => ?_) (fun c27 => ?_)
      · first | exact absurd (by assumption) (tp_b_0.mp c27) | exact absurd (by assumption) (tp_b_0.mp (Classical.not_not.mp c27)) | exact absurd (tp_b_n c27) (by assumption) | exact absurd (by assumption) c27 | exact absurd c27 (by assumption)
      · refine r_iload5 dX6_whyNot_30 ?_
        refine r_pS dX6_whyNot_32 v_X6_62 (M_isMoney hl) rfl rfl rfl (Nat.le_of_ble_eq_true rfl) ⟨(Nat.le_of_ble_eq_true rfl), (Nat.le_of_ble_eq_true rfl)⟩ ⟨(Nat.le_of_ble_eq_true rfl), (Nat.le_of_ble_eq_true rfl)⟩ ?_
        refine r_if_eq (tgt := 42) dX6_whyNot_35 (by decide) (fun c35 => ?_) (fun c35 => ?_)
        · refine r_iconst (v := 2) dX6_whyNot_42 (by decide) ?_
          refine mm_put_thr dX6_whyNot_43 rfl hT (fun h1 hT => ?_)
          refine r_aload0 dX6_whyNot_46 ?_
          refine r_getf dX6_whyNot_47 f_X6_22 (hT.ob) rfl ?_
          refine r_if_le (tgt := 55) dX6_whyNot_50 (by decide) (fun c50 => ?_) (fun c50 => ?_)
          · exact absurd c50 (by decide)
          · refine r_iconst (v := 0) dX6_whyNot_53 (by decide) ?_
            exact r_iret dX6_whyNot_54 rfl ⟨(Nat.le_of_ble_eq_true rfl), (Nat.le_of_ble_eq_true rfl)⟩ ⟨rfl, hT⟩
        · first | exact absurd (by assumption) (tp_b_0.mp c35) | exact absurd (by assumption) (tp_b_0.mp (Classical.not_not.mp c35)) | exact absurd (tp_b_n c35) (by assumption) | exact absurd (by assumption) c35 | exact absurd c35 (by assumption)
    · first | exact absurd (by assumption) (tp_b_0.mp c14) | exact absurd (by assumption) (tp_b_0.mp (Classical.not_not.mp c14)) | exact absurd (tp_b_n c14) (by assumption) | exact absurd (by assumption) c14 | exact absurd c14 (by assumption)

