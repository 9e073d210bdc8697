set_option maxRecDepth 100000 in
set_option maxHeartbeats 4000000 in
theorem M_hasHold_lp {l : Launch} {G : tp_G} {y : Nat} {h0 h : tp_H} {z hi tx pa : Nat → Int32} {st len thr rd nu du : Int32} {hs : Int64} (hl : l.stackTraces = false) (hT0 : mm_S G y h0 z hi tx pa st len thr rd nu du hs h) {w N : Nat} (hw : w < 4) (hz8 : z 8 = nI N) (hN : N ≤ 8) : ∀ d (i : Nat), i + d = N → tp_Run l G mX6_hasHold (tp_rm mX6_hasHold 0 0) (tp_QM G 0 0 (tp_PR (.int (tp_b (z_hasH z w N = true))) h) tp_NX) 0 0 h 4 [some (.ref y), some (.int (nI w)), some (.int (tp_b (z_hasH z w i = true))), some (.int (nI i))] [] := by
  intro d
  have hT := hT0.self
  induction d with
  | zero =>
    intro i hi
    refine r_iload3 dX6_hasHold_4 ?_
    refine r_aload0 dX6_hasHold_5 ?_
    refine r_getf dX6_hasHold_6 f_X6_7 (hT.ob) rfl ?_
    refine r_bipush (v := 8) dX6_hasHold_9 (by decide) ?_
    refine r_iald dX6_hasHold_11 hT.rz (i := 8) (rfl) (by omega) (by decide) ?_
    refine r_icmp_ge (tgt := 41) dX6_hasHold_12 (by decide) (fun c12 => ?_) (fun c12 => ?_)
    · refine r_iload2 dX6_hasHold_41 ?_
      exact r_zret dX6_hasHold_42 rfl ⟨(Nat.le_of_ble_eq_true rfl), (Nat.le_of_ble_eq_true rfl)⟩ tp_b_z ⟨by rw [show i = N by omega], rfl⟩
    · rw [hz8, tp_le (by omega) (by omega)] at c12; omega
  | succ d ih =>
    intro i hi
    refine r_iload3 dX6_hasHold_4 ?_
    refine r_aload0 dX6_hasHold_5 ?_
    refine r_getf dX6_hasHold_6 f_X6_7 (hT.ob) rfl ?_
    refine r_bipush (v := 8) dX6_hasHold_9 (by decide) ?_
    refine r_iald dX6_hasHold_11 hT.rz (i := 8) (rfl) (by omega) (by decide) ?_
    refine r_icmp_ge (tgt := 41) dX6_hasHold_12 (by decide) (fun c12 => ?_) (fun c12 => ?_)
    · rw [hz8, tp_le (by omega) (by omega)] at c12; omega
    · refine r_iload2 dX6_hasHold_15 ?_
      refine r_if_ne (tgt := 29) dX6_hasHold_16 (by decide) (fun c16 => ?_) (fun c16 => ?_)
      · refine r_iconst (v := 1) dX6_hasHold_29 (by decide) ?_
        refine r_goto (tgt := 34) dX6_hasHold_30 (by decide) ?_
        refine r_istore2 dX6_hasHold_34 (Nat.le_of_ble_eq_true rfl) rfl ?_
        refine r_iinc3 (v := nI (i + 1)) dX6_hasHold_35 (Nat.le_of_ble_eq_true rfl) rfl (tp_inc i) ?_
        exact r_goto (tgt := 4) dX6_hasHold_38 (by decide) (tp_cong (by have q : z_hasH z w (i + 1) = (z_hasH z w i || _) := rfl; rw [q]; simp_all [tp_b]) rfl (ih (i + 1) (by omega)))
      · refine r_aload0 dX6_hasHold_19 ?_
        refine r_iload3 dX6_hasHold_20 ?_
        refine r_iconst (v := 0) dX6_hasHold_21 (by decide) ?_
        refine r_pV dX6_hasHold_22 v_X6_52 (M_ofHold (j := 0) hl hT (by omega) (by omega)) rfl (hT.ob) rfl rfl rfl (Nat.le_of_ble_eq_true rfl) ⟨(Nat.le_of_ble_eq_true rfl), (Nat.le_of_ble_eq_true rfl)⟩ ⟨(Nat.le_of_ble_eq_true rfl), (Nat.le_of_ble_eq_true rfl)⟩ ?_
        refine r_iload1 dX6_hasHold_25 ?_
        refine r_icmp_ne (tgt := 33) dX6_hasHold_26 (by decide) (fun c26 => ?_) (fun c26 => ?_)
        · refine r_iconst (v := 0) dX6_hasHold_33 (by decide) ?_
          refine r_istore2 dX6_hasHold_34 (Nat.le_of_ble_eq_true rfl) rfl ?_
          refine r_iinc3 (v := nI (i + 1)) dX6_hasHold_35 (Nat.le_of_ble_eq_true rfl) rfl (tp_inc i) ?_
          exact r_goto (tgt := 4) dX6_hasHold_38 (by decide) (tp_cong (by have q : z_hasH z w (i + 1) = (z_hasH z w i || _) := rfl; rw [q]; simp_all [tp_b]) rfl (ih (i + 1) (by omega)))
        · refine r_iconst (v := 1) dX6_hasHold_29 (by decide) ?_
          refine r_goto (tgt := 34) dX6_hasHold_30 (by decide) ?_
          refine r_istore2 dX6_hasHold_34 (Nat.le_of_ble_eq_true rfl) rfl ?_
          refine r_iinc3 (v := nI (i + 1)) dX6_hasHold_35 (Nat.le_of_ble_eq_true rfl) rfl (tp_inc i) ?_
          exact r_goto (tgt := 4) dX6_hasHold_38 (by decide) (tp_cong (by have q : z_hasH z w (i + 1) = (z_hasH z w i || _) := rfl; rw [q]; simp_all [tp_b]) rfl (ih (i + 1) (by omega)))

set_option maxRecDepth 100000 in
set_option maxHeartbeats 4000000 in
theorem M_hasHold {l : Launch} {G : tp_G} {y : Nat} {h0 h : tp_H} {z hi tx pa : Nat → Int32} {st len thr rd nu du : Int32} {hs : Int64} (hl : l.stackTraces = false) (hT0 : mm_S G y h0 z hi tx pa st len thr rd nu du hs h) {w N : Nat} (hw : w < 4) (hz8 : z 8 = nI N) (hN : N ≤ 8) : tp_Met l G mX6_hasHold 0 0 [.ref y, .int (nI w)] h (tp_PR (.int (tp_b (z_hasH z w N = true))) h) tp_NX := by
  have hT := hT0.self
  refine tp_start (L0 := [some (.ref y), some (.int (nI w)), none, none]) (by decide) rfl hl (Nat.le_of_ble_eq_true rfl) rfl ?_
  refine r_iconst (v := 0) dX6_hasHold_0 (by decide) ?_
  refine r_istore2 dX6_hasHold_1 (Nat.le_of_ble_eq_true rfl) rfl ?_
  refine r_iconst (v := 0) dX6_hasHold_2 (by decide) ?_
  refine r_istore3 dX6_hasHold_3 (Nat.le_of_ble_eq_true rfl) rfl ?_
  exact M_hasHold_lp hl hT hw hz8 hN N 0 (by omega)

set_option maxRecDepth 100000 in
set_option maxHeartbeats 4000000 in
theorem M_hasDispute_lp {l : Launch} {G : tp_G} {y : Nat} {h0 h : tp_H} {z hi tx pa : Nat → Int32} {st len thr rd nu du : Int32} {hs : Int64} (hl : l.stackTraces = false) (hT0 : mm_S G y h0 z hi tx pa st len thr rd nu du hs h) {w P : Nat} (hw : w < 4) (hz9 : z 9 = nI P) (hP9 : P ≤ 12) : ∀ d (i : Nat), i + d = P → tp_Run l G mX6_hasDispute (tp_rm mX6_hasDispute 0 0) (tp_QM G 0 0 (tp_PR (.int (tp_b (z_hasD z w P = true))) h) tp_NX) 0 0 h 4 [some (.ref y), some (.int (nI w)), some (.int (tp_b (z_hasD z w i = true))), some (.int (nI i))] [] := by
  intro d
  have hT := hT0.self
  induction d with
  | zero =>
    intro i hi
    refine r_iload3 dX6_hasDispute_4 ?_
    refine r_aload0 dX6_hasDispute_5 ?_
    refine r_getf dX6_hasDispute_6 f_X6_7 (hT.ob) rfl ?_
    refine r_bipush (v := 9) dX6_hasDispute_9 (by decide) ?_
    refine r_iald dX6_hasDispute_11 hT.rz (i := 9) (rfl) (by omega) (by decide) ?_
    refine r_icmp_ge (tgt := 51) dX6_hasDispute_12 (by decide) (fun c12 => ?_) (fun c12 => ?_)
    · refine r_iload2 dX6_hasDispute_51 ?_
      exact r_zret dX6_hasDispute_52 rfl ⟨(Nat.le_of_ble_eq_true rfl), (Nat.le_of_ble_eq_true rfl)⟩ tp_b_z ⟨by rw [show i = P by omega], rfl⟩
    · rw [hz9, tp_le (by omega) (by omega)] at c12; omega
  | succ d ih =>
    intro i hi
    refine r_iload3 dX6_hasDispute_4 ?_
    refine r_aload0 dX6_hasDispute_5 ?_
    refine r_getf dX6_hasDispute_6 f_X6_7 (hT.ob) rfl ?_
    refine r_bipush (v := 9) dX6_hasDispute_9 (by decide) ?_
    refine r_iald dX6_hasDispute_11 hT.rz (i := 9) (rfl) (by omega) (by decide) ?_
    refine r_icmp_ge (tgt := 51) dX6_hasDispute_12 (by decide) (fun c12 => ?_) (fun c12 => ?_)
    · rw [hz9, tp_le (by omega) (by omega)] at c12; omega
    · refine r_iload2 dX6_hasDispute_15 ?_
      refine r_if_ne (tgt := 39) dX6_hasDispute_16 (by decide) (fun c16 => ?_) (fun c16 => ?_)
      · refine r_iconst (v := 1) dX6_hasDispute_39 (by decide) ?_
        refine r_goto (tgt := 44) dX6_hasDispute_40 (by decide) ?_
        refine r_istore2 dX6_hasDispute_44 (Nat.le_of_ble_eq_true rfl) rfl ?_
        refine r_iinc3 (v := nI (i + 1)) dX6_hasDispute_45 (Nat.le_of_ble_eq_true rfl) rfl (tp_inc i) ?_
        exact r_goto (tgt := 4) dX6_hasDispute_48 (by decide) (tp_cong (by have q : z_hasD z w (i + 1) = (z_hasD z w i || _) := rfl; rw [q]; simp_all [tp_b]) rfl (ih (i + 1) (by omega)))
      · refine r_aload0 dX6_hasDispute_19 ?_
        refine r_iload3 dX6_hasDispute_20 ?_
        refine r_iconst (v := 0) dX6_hasDispute_21 (by decide) ?_
        refine r_pV dX6_hasDispute_22 v_X6_127 (M_ofPayment (j := 0) hl hT (by omega) (by omega)) rfl (hT.ob) rfl rfl rfl (Nat.le_of_ble_eq_true rfl) ⟨(Nat.le_of_ble_eq_true rfl), (Nat.le_of_ble_eq_true rfl)⟩ ⟨(Nat.le_of_ble_eq_true rfl), (Nat.le_of_ble_eq_true rfl)⟩ ?_
        refine r_iload1 dX6_hasDispute_25 ?_
        refine r_icmp_ne (tgt := 43) dX6_hasDispute_26 (by decide) (fun c26 => ?_) (fun c26 => ?_)
        · refine r_iconst (v := 0) dX6_hasDispute_43 (by decide) ?_
          refine r_istore2 dX6_hasDispute_44 (Nat.le_of_ble_eq_true rfl) rfl ?_
          refine r_iinc3 (v := nI (i + 1)) dX6_hasDispute_45 (Nat.le_of_ble_eq_true rfl) rfl (tp_inc i) ?_
          exact r_goto (tgt := 4) dX6_hasDispute_48 (by decide) (tp_cong (by have q : z_hasD z w (i + 1) = (z_hasD z w i || _) := rfl; rw [q]; simp_all [tp_b]) rfl (ih (i + 1) (by omega)))
        · refine r_aload0 dX6_hasDispute_29 ?_
          refine r_iload3 dX6_hasDispute_30 ?_
          refine r_iconst (v := 4) dX6_hasDispute_31 (by decide) ?_
          refine r_pV dX6_hasDispute_32 v_X6_127 (M_ofPayment (j := 4) hl hT (by omega) (by omega)) rfl (hT.ob) rfl rfl rfl (Nat.le_of_ble_eq_true rfl) ⟨(Nat.le_of_ble_eq_true rfl), (Nat.le_of_ble_eq_true rfl)⟩ ⟨(Nat.le_of_ble_eq_true rfl), (Nat.le_of_ble_eq_true rfl)⟩ ?_
          refine r_iconst (v := 1) dX6_hasDispute_35 (by decide) ?_
          refine r_icmp_ne (tgt := 43) dX6_hasDispute_36 (by decide) (fun c36 => ?_) (fun c36 => ?_)
          · refine r_iconst (v := 0) dX6_hasDispute_43 (by decide) ?_
            refine r_istore2 dX6_hasDispute_44 (Nat.le_of_ble_eq_true rfl) rfl ?_
            refine r_iinc3 (v := nI (i + 1)) dX6_hasDispute_45 (Nat.le_of_ble_eq_true rfl) rfl (tp_inc i) ?_
            exact r_goto (tgt := 4) dX6_hasDispute_48 (by decide) (tp_cong (by have q : z_hasD z w (i + 1) = (z_hasD z w i || _) := rfl; rw [q]; simp_all [tp_b]) rfl (ih (i + 1) (by omega)))
          · refine r_iconst (v := 1) dX6_hasDispute_39 (by decide) ?_
            refine r_goto (tgt := 44) dX6_hasDispute_40 (by decide) ?_
            refine r_istore2 dX6_hasDispute_44 (Nat.le_of_ble_eq_true rfl) rfl ?_
            refine r_iinc3 (v := nI (i + 1)) dX6_hasDispute_45 (Nat.le_of_ble_eq_true rfl) rfl (tp_inc i) ?_
            exact r_goto (tgt := 4) dX6_hasDispute_48 (by decide) (tp_cong (by have q : z_hasD z w (i + 1) = (z_hasD z w i || _) := rfl; rw [q]; simp_all [tp_b]) rfl (ih (i + 1) (by omega)))

set_option maxRecDepth 100000 in
set_option maxHeartbeats 4000000 in
theorem M_hasDispute {l : Launch} {G : tp_G} {y : Nat} {h0 h : tp_H} {z hi tx pa : Nat → Int32} {st len thr rd nu du : Int32} {hs : Int64} (hl : l.stackTraces = false) (hT0 : mm_S G y h0 z hi tx pa st len thr rd nu du hs h) {w P : Nat} (hw : w < 4) (hz9 : z 9 = nI P) (hP9 : P ≤ 12) : tp_Met l G mX6_hasDispute 0 0 [.ref y, .int (nI w)] h (tp_PR (.int (tp_b (z_hasD z w P = true))) h) tp_NX := by
  have hT := hT0.self
  refine tp_start (L0 := [some (.ref y), some (.int (nI w)), none, none]) (by decide) rfl hl (Nat.le_of_ble_eq_true rfl) rfl ?_
  refine r_iconst (v := 0) dX6_hasDispute_0 (by decide) ?_
  refine r_istore2 dX6_hasDispute_1 (Nat.le_of_ble_eq_true rfl) rfl ?_
  refine r_iconst (v := 0) dX6_hasDispute_2 (by decide) ?_
  refine r_istore3 dX6_hasDispute_3 (Nat.le_of_ble_eq_true rfl) rfl ?_
  exact M_hasDispute_lp hl hT hw hz9 hP9 P 0 (by omega)

set_option maxRecDepth 100000 in
set_option maxHeartbeats 4000000 in
theorem M_hasDebt_lp {l : Launch} {G : tp_G} {y : Nat} {h0 h : tp_H} {z hi tx pa : Nat → Int32} {st len thr rd nu du : Int32} {hs : Int64} (hl : l.stackTraces = false) (hT0 : mm_S G y h0 z hi tx pa st len thr rd nu du hs h) {w : Nat} (hw : w < 4) : ∀ d (i : Nat), i + d = 4 → tp_Run l G mX6_hasDebt (tp_rm mX6_hasDebt 0 0) (tp_QM G 0 0 (tp_PR (.int (tp_b (z_hasB z w 4 = true))) h) tp_NX) 0 0 h 4 [some (.ref y), some (.int (nI w)), some (.int (tp_b (z_hasB z w i = true))), some (.int (nI i))] [] := by
  intro d
  have hT := hT0.self
  induction d with
  | zero =>
    intro i hi
    refine r_iload3 dX6_hasDebt_4 ?_
    refine r_iconst (v := 4) dX6_hasDebt_5 (by decide) ?_
    refine r_icmp_ge (tgt := 35) dX6_hasDebt_6 (by decide) (fun c6 => ?_) (fun c6 => ?_)
    · refine r_iload2 dX6_hasDebt_35 ?_
      exact r_zret dX6_hasDebt_36 rfl ⟨(Nat.le_of_ble_eq_true rfl), (Nat.le_of_ble_eq_true rfl)⟩ tp_b_z ⟨by rw [show i = 4 by omega], rfl⟩
    · rw [show (4 : Int32) = nI 4 from rfl, tp_le (by omega) (by omega)] at c6; omega
  | succ d ih =>
    intro i hi
    refine r_iload3 dX6_hasDebt_4 ?_
    refine r_iconst (v := 4) dX6_hasDebt_5 (by decide) ?_
    refine r_icmp_ge (tgt := 35) dX6_hasDebt_6 (by decide) (fun c6 => ?_) (fun c6 => ?_)
    · rw [show (4 : Int32) = nI 4 from rfl, tp_le (by omega) (by omega)] at c6; omega
    · refine r_iload2 dX6_hasDebt_9 ?_
      refine r_if_ne (tgt := 23) dX6_hasDebt_10 (by decide) (fun c10 => ?_) (fun c10 => ?_)
      · refine r_iconst (v := 1) dX6_hasDebt_23 (by decide) ?_
        refine r_goto (tgt := 28) dX6_hasDebt_24 (by decide) ?_
        refine r_istore2 dX6_hasDebt_28 (Nat.le_of_ble_eq_true rfl) rfl ?_
        refine r_iinc3 (v := nI (i + 1)) dX6_hasDebt_29 (Nat.le_of_ble_eq_true rfl) rfl (tp_inc i) ?_
        exact r_goto (tgt := 4) dX6_hasDebt_32 (by decide) (tp_cong (by have q : z_hasB z w (i + 1) = (z_hasB z w i || _) := rfl; rw [q]; simp_all [tp_b]) rfl (ih (i + 1) (by omega)))
      · refine r_aload0 dX6_hasDebt_13 ?_
        refine r_iload1 dX6_hasDebt_14 ?_
        refine r_iload3 dX6_hasDebt_15 ?_
        refine r_iconst (v := 1) dX6_hasDebt_16 (by decide) ?_
        refine r_pV dX6_hasDebt_17 v_X6_55 (M_of (j := 1) hl hT hw (by omega) (by omega)) rfl (hT.ob) rfl rfl rfl (Nat.le_of_ble_eq_true rfl) ⟨(Nat.le_of_ble_eq_true rfl), (Nat.le_of_ble_eq_true rfl)⟩ ⟨(Nat.le_of_ble_eq_true rfl), (Nat.le_of_ble_eq_true rfl)⟩ ?_
        refine r_if_le (tgt := 27) dX6_hasDebt_20 (by decide) (fun c20 => ?_) (fun c20 => ?_)
        · refine r_iconst (v := 0) dX6_hasDebt_27 (by decide) ?_
          refine r_istore2 dX6_hasDebt_28 (Nat.le_of_ble_eq_true rfl) rfl ?_
          refine r_iinc3 (v := nI (i + 1)) dX6_hasDebt_29 (Nat.le_of_ble_eq_true rfl) rfl (tp_inc i) ?_
          exact r_goto (tgt := 4) dX6_hasDebt_32 (by decide) (tp_cong (by have q : z_hasB z w (i + 1) = (z_hasB z w i || _) := rfl; rw [q]; simp_all [tp_b]) rfl (ih (i + 1) (by omega)))
        · refine r_iconst (v := 1) dX6_hasDebt_23 (by decide) ?_
          refine r_goto (tgt := 28) dX6_hasDebt_24 (by decide) ?_
          refine r_istore2 dX6_hasDebt_28 (Nat.le_of_ble_eq_true rfl) rfl ?_
          refine r_iinc3 (v := nI (i + 1)) dX6_hasDebt_29 (Nat.le_of_ble_eq_true rfl) rfl (tp_inc i) ?_
          exact r_goto (tgt := 4) dX6_hasDebt_32 (by decide) (tp_cong (by have q : z_hasB z w (i + 1) = (z_hasB z w i || _) := rfl; rw [q]; simp_all [tp_b]) rfl (ih (i + 1) (by omega)))

set_option maxRecDepth 100000 in
set_option maxHeartbeats 4000000 in
theorem M_hasDebt {l : Launch} {G : tp_G} {y : Nat} {h0 h : tp_H} {z hi tx pa : Nat → Int32} {st len thr rd nu du : Int32} {hs : Int64} (hl : l.stackTraces = false) (hT0 : mm_S G y h0 z hi tx pa st len thr rd nu du hs h) {w : Nat} (hw : w < 4) : tp_Met l G mX6_hasDebt 0 0 [.ref y, .int (nI w)] h (tp_PR (.int (tp_b (z_hasB z w 4 = true))) h) tp_NX := by
  have hT := hT0.self
  refine tp_start (L0 := [some (.ref y), some (.int (nI w)), none, none]) (by decide) rfl hl (Nat.le_of_ble_eq_true rfl) rfl ?_
  refine r_iconst (v := 0) dX6_hasDebt_0 (by decide) ?_
  refine r_istore2 dX6_hasDebt_1 (Nat.le_of_ble_eq_true rfl) rfl ?_
  refine r_iconst (v := 0) dX6_hasDebt_2 (by decide) ?_
  refine r_istore3 dX6_hasDebt_3 (Nat.le_of_ble_eq_true rfl) rfl ?_
  exact M_hasDebt_lp hl hT hw 4 0 (by omega)

set_option maxRecDepth 100000 in
set_option maxHeartbeats 4000000 in
theorem M_whyNoClosing {l : Launch} {G : tp_G} {y : Nat} {h0 h : tp_H} {z hi tx pa : Nat → Int32} {st len thr rd nu du : Int32} {hs : Int64} (hl : l.stackTraces = false) (hT0 : mm_S G y h0 z hi tx pa st len thr rd nu du hs h) {w N P : Nat} (hw : w < 4) (hz8 : z 8 = nI N) (hN : N ≤ 8) (hz9 : z 9 = nI P) (hP9 : P ≤ 12) : tp_Met l G mX6_whyNoClosing 0 0 [.ref y, .int (nI w)] h (tp_PR (.int (z_whyClose z w)) h) tp_NX := by
  have hT := hT0.self
  refine tp_start (L0 := [some (.ref y), some (.int (nI w))]) (by decide) rfl hl (Nat.le_of_ble_eq_true rfl) rfl ?_
  refine r_aload0 dX6_whyNoClosing_0 ?_
  refine r_iload1 dX6_whyNoClosing_1 ?_
  refine r_pV dX6_whyNoClosing_2 v_X6_139 (M_hasHold hl hT hw hz8 hN) rfl (hT.ob) rfl rfl rfl (Nat.le_of_ble_eq_true rfl) ⟨(Nat.le_of_ble_eq_true rfl), (Nat.le_of_ble_eq_true rfl)⟩ ⟨(Nat.le_of_ble_eq_true rfl), (Nat.le_of_ble_eq_true rfl)⟩ ?_
  refine r_if_eq (tgt := 12) dX6_whyNoClosing_5 (by decide) (fun c5 => ?_) (fun c5 => ?_)
  · refine r_aload0 dX6_whyNoClosing_12 ?_
    refine r_iload1 dX6_whyNoClosing_13 ?_
    refine r_pV dX6_whyNoClosing_14 v_X6_142 (M_hasDispute hl hT hw hz9 hP9) rfl (hT.ob) rfl rfl rfl (Nat.le_of_ble_eq_true rfl) ⟨(Nat.le_of_ble_eq_true rfl), (Nat.le_of_ble_eq_true rfl)⟩ ⟨(Nat.le_of_ble_eq_true rfl), (Nat.le_of_ble_eq_true rfl)⟩ ?_
    refine r_if_eq (tgt := 24) dX6_whyNoClosing_17 (by decide) (fun c17 => ?_) (fun c17 => ?_)
    · refine r_aload0 dX6_whyNoClosing_24 ?_
      refine r_iload1 dX6_whyNoClosing_25 ?_
      refine r_pV dX6_whyNoClosing_26 v_X6_145 (M_hasDebt hl hT hw) rfl (hT.ob) rfl rfl rfl (Nat.le_of_ble_eq_true rfl) ⟨(Nat.le_of_ble_eq_true rfl), (Nat.le_of_ble_eq_true rfl)⟩ ⟨(Nat.le_of_ble_eq_true rfl), (Nat.le_of_ble_eq_true rfl)⟩ ?_
      refine r_if_eq (tgt := 37) dX6_whyNoClosing_29 (by decide) (fun c29 => ?_) (fun c29 => ?_)
      · refine r_iconst (v := 0) dX6_whyNoClosing_37 (by decide) ?_
        exact r_iret dX6_whyNoClosing_38 rfl ⟨(Nat.le_of_ble_eq_true rfl), (Nat.le_of_ble_eq_true rfl)⟩ ⟨by unfold z_whyClose; rw [hz8, hz9, z_nI (by omega), z_nI (by omega)]; first | (rw [if_pos (tp_b_n c5)]; done) | (rw [if_neg (tp_b_0.mp c5), if_pos (tp_b_n c17)]; done) | (rw [if_neg (tp_b_0.mp c5), if_neg (tp_b_0.mp c17), if_pos (tp_b_n c29)]; done) | (rw [if_neg (tp_b_0.mp c5), if_neg (tp_b_0.mp c17), if_neg (tp_b_0.mp c29)]; done), rfl⟩
      · refine r_bipush (v := 6) dX6_whyNoClosing_32 (by decide) ?_
        refine r_goto (tgt := 38) dX6_whyNoClosing_34 (by decide) ?_
        exact r_iret dX6_whyNoClosing_38 rfl ⟨(Nat.le_of_ble_eq_true rfl), (Nat.le_of_ble_eq_true rfl)⟩ ⟨by unfold z_whyClose; rw [hz8, hz9, z_nI (by omega), z_nI (by omega)]; first | (rw [if_pos (tp_b_n c5)]; done) | (rw [if_neg (tp_b_0.mp c5), if_pos (tp_b_n c17)]; done) | (rw [if_neg (tp_b_0.mp c5), if_neg (tp_b_0.mp c17), if_pos (tp_b_n c29)]; done) | (rw [if_neg (tp_b_0.mp c5), if_neg (tp_b_0.mp c17), if_neg (tp_b_0.mp c29)]; done), rfl⟩
    · refine r_iconst (v := 5) dX6_whyNoClosing_20 (by decide) ?_
      refine r_goto (tgt := 38) dX6_whyNoClosing_21 (by decide) ?_
      exact r_iret dX6_whyNoClosing_38 rfl ⟨(Nat.le_of_ble_eq_true rfl), (Nat.le_of_ble_eq_true rfl)⟩ ⟨by unfold z_whyClose; rw [hz8, hz9, z_nI (by omega), z_nI (by omega)]; first | (rw [if_pos (tp_b_n c5)]; done) | (rw [if_neg (tp_b_0.mp c5), if_pos (tp_b_n c17)]; done) | (rw [if_neg (tp_b_0.mp c5), if_neg (tp_b_0.mp c17), if_pos (tp_b_n c29)]; done) | (rw [if_neg (tp_b_0.mp c5), if_neg (tp_b_0.mp c17), if_neg (tp_b_0.mp c29)]; done), rfl⟩
  · refine r_iconst (v := 4) dX6_whyNoClosing_8 (by decide) ?_
    refine r_goto (tgt := 38) dX6_whyNoClosing_9 (by decide) ?_
    exact r_iret dX6_whyNoClosing_38 rfl ⟨(Nat.le_of_ble_eq_true rfl), (Nat.le_of_ble_eq_true rfl)⟩ ⟨by unfold z_whyClose; rw [hz8, hz9, z_nI (by omega), z_nI (by omega)]; first | (rw [if_pos (tp_b_n c5)]; done) | (rw [if_neg (tp_b_0.mp c5), if_pos (tp_b_n c17)]; done) | (rw [if_neg (tp_b_0.mp c5), if_neg (tp_b_0.mp c17), if_pos (tp_b_n c29)]; done) | (rw [if_neg (tp_b_0.mp c5), if_neg (tp_b_0.mp c17), if_neg (tp_b_0.mp c29)]; done), rfl⟩

set_option maxRecDepth 100000 in
set_option maxHeartbeats 4000000 in
theorem M_creditIn_lp {l : Launch} {G : tp_G} {y : Nat} {h0 h : tp_H} {z hi tx pa : Nat → Int32} {st len thr rd nu du : Int32} {hs : Int64} (hl : l.stackTraces = false) (hT0 : mm_S G y h0 z hi tx pa st len thr rd nu du hs h) {w c P : Nat} (hz9 : z 9 = nI P) (hP9 : P ≤ 12) : ∀ d (i : Nat) (a5 : Option Value), i + d = P → tp_Run l G mX6_creditIn (tp_rm mX6_creditIn 0 0) (tp_QM G 0 0 (tp_PR (.int (z_credit z w c P)) h) tp_NX) 0 0 h 5 [some (.ref y), some (.int (nI w)), some (.int (nI c)), some (.int (z_credit z w c i)), some (.int (nI i)), a5] [] := by
  intro d
  have hT := hT0.self
  induction d with
  | zero =>
    intro i a5 hi
    refine r_iload4 dX6_creditIn_5 ?_
    refine r_aload0 dX6_creditIn_7 ?_
    refine r_getf dX6_creditIn_8 f_X6_7 (hT.ob) rfl ?_
    refine r_bipush (v := 9) dX6_creditIn_11 (by decide) ?_
    refine r_iald dX6_creditIn_13 hT.rz (i := 9) (rfl) (by omega) (by decide) ?_
    refine r_icmp_ge (tgt := 77) dX6_creditIn_14 (by decide) (fun c14 => ?_) (fun c14 => ?_)
    · refine r_iload3 dX6_creditIn_77 ?_
      exact r_iret dX6_creditIn_78 rfl ⟨(Nat.le_of_ble_eq_true rfl), (Nat.le_of_ble_eq_true rfl)⟩ ⟨by rw [show i = P by omega], rfl⟩
    · rw [hz9, tp_le (by omega) (by omega)] at c14; omega
  | succ d ih =>
    intro i a5 hi
    refine r_iload4 dX6_creditIn_5 ?_
    refine r_aload0 dX6_creditIn_7 ?_
    refine r_getf dX6_creditIn_8 f_X6_7 (hT.ob) rfl ?_
    refine r_bipush (v := 9) dX6_creditIn_11 (by decide) ?_
    refine r_iald dX6_creditIn_13 hT.rz (i := 9) (rfl) (by omega) (by decide) ?_
    refine r_icmp_ge (tgt := 77) dX6_creditIn_14 (by decide) (fun c14 => ?_) (fun c14 => ?_)
    · rw [hz9, tp_le (by omega) (by omega)] at c14; omega
    · refine r_aload0 dX6_creditIn_17 ?_
      refine r_sipush (v := 136) dX6_creditIn_18 (by decide) ?_
      refine r_iconst (v := 5) dX6_creditIn_21 (by decide) ?_
      refine r_iload4 dX6_creditIn_22 ?_
      refine r_imul dX6_creditIn_24 ?_
      refine r_iadd dX6_creditIn_25 ?_
      refine r_iload1 dX6_creditIn_26 ?_
      refine r_iload2 dX6_creditIn_27 ?_
      have e28 : (136 : Int32) + 5 * nI i = nI (136 + 5 * i) := by rw [show (5 : Int32) = nI 5 from rfl, show (136 : Int32) = nI 136 from rfl, tp_mul, tp_add]
      rw [e28]
      refine r_pV dX6_creditIn_28 v_X6_49 (M_isOf hl hT (by omega)) rfl (hT.ob) rfl rfl rfl (Nat.le_of_ble_eq_true rfl) ⟨(Nat.le_of_ble_eq_true rfl), (Nat.le_of_ble_eq_true rfl)⟩ ⟨(Nat.le_of_ble_eq_true rfl), (Nat.le_of_ble_eq_true rfl)⟩ ?_
      refine r_if_eq (tgt := 49) dX6_creditIn_31 (by decide) (fun c31 => ?_) (fun c31 => ?_)
      · refine r_iconst (v := 0) dX6_creditIn_49 (by decide) ?_
        refine r_istore5 dX6_creditIn_50 (Nat.le_of_ble_eq_true rfl) rfl ?_
        refine r_iload3 dX6_creditIn_52 ?_
        refine r_iload5 dX6_creditIn_53 ?_
        refine r_if_eq (tgt := 68) dX6_creditIn_55 (by decide) (fun c55 => ?_) (fun c55 => ?_)
        · have e55 : ¬ ((z (136 + 5 * i) = nI w ∧ z (136 + 5 * i + 1) = nI c) ∧ z (136 + 5 * i + 4) = 1) := by
            first | exact fun q => (tp_b_0.mp c31) q.1 | exact fun q => c42 q.2 | exact absurd c55 (by decide)
          refine r_iconst (v := 0) dX6_creditIn_68 (by decide) ?_
          refine r_iadd dX6_creditIn_69 ?_
          refine r_istore3 dX6_creditIn_70 (Nat.le_of_ble_eq_true rfl) rfl ?_
          refine r_iinc4 (v := nI (i + 1)) dX6_creditIn_71 (Nat.le_of_ble_eq_true rfl) rfl (tp_inc i) ?_
          exact r_goto (tgt := 5) dX6_creditIn_74 (by decide) (tp_cong (by first | (simp only [z_credit, if_pos e55]; rfl) | (simp only [z_credit, if_neg e55]; rfl)) rfl (ih (i + 1) _ (by omega)))
        · have e55 : (z (136 + 5 * i) = nI w ∧ z (136 + 5 * i + 1) = nI c) ∧ z (136 + 5 * i + 4) = 1 := by
            first | exact absurd rfl c55 | exact ⟨tp_b_n c31, c42⟩
          refine r_aload0 dX6_creditIn_58 ?_
          refine r_iload4 dX6_creditIn_59 ?_
          refine r_iconst (v := 2) dX6_creditIn_61 (by decide) ?_
          refine r_pV dX6_creditIn_62 v_X6_127 (M_ofPayment (j := 2) hl hT (by omega) (by omega)) rfl (hT.ob) rfl rfl rfl (Nat.le_of_ble_eq_true rfl) ⟨(Nat.le_of_ble_eq_true rfl), (Nat.le_of_ble_eq_true rfl)⟩ ⟨(Nat.le_of_ble_eq_true rfl), (Nat.le_of_ble_eq_true rfl)⟩ ?_
          refine r_goto (tgt := 69) dX6_creditIn_65 (by decide) ?_
          refine r_iadd dX6_creditIn_69 ?_
          refine r_istore3 dX6_creditIn_70 (Nat.le_of_ble_eq_true rfl) rfl ?_
          refine r_iinc4 (v := nI (i + 1)) dX6_creditIn_71 (Nat.le_of_ble_eq_true rfl) rfl (tp_inc i) ?_
          exact r_goto (tgt := 5) dX6_creditIn_74 (by decide) (tp_cong (by first | (simp only [z_credit, if_pos e55]; rfl) | (simp only [z_credit, if_neg e55]; rfl)) rfl (ih (i + 1) _ (by omega)))
      · refine r_aload0 dX6_creditIn_34 ?_
        refine r_iload4 dX6_creditIn_35 ?_
        refine r_iconst (v := 4) dX6_creditIn_37 (by decide) ?_
        refine r_pV dX6_creditIn_38 v_X6_127 (M_ofPayment (j := 4) hl hT (by omega) (by omega)) rfl (hT.ob) rfl rfl rfl (Nat.le_of_ble_eq_true rfl) ⟨(Nat.le_of_ble_eq_true rfl), (Nat.le_of_ble_eq_true rfl)⟩ ⟨(Nat.le_of_ble_eq_true rfl), (Nat.le_of_ble_eq_true rfl)⟩ ?_
        refine r_iconst (v := 1) dX6_creditIn_41 (by decide) ?_
        refine r_icmp_ne (tgt := 49) dX6_creditIn_42 (by decide) (fun c42 => ?_) (fun c42 => ?_)
        · refine r_iconst (v := 0) dX6_creditIn_49 (by decide) ?_
          refine r_istore5 dX6_creditIn_50 (Nat.le_of_ble_eq_true rfl) rfl ?_
          refine r_iload3 dX6_creditIn_52 ?_
          refine r_iload5 dX6_creditIn_53 ?_
          refine r_if_eq (tgt := 68) dX6_creditIn_55 (by decide) (fun c55 => ?_) (fun c55 => ?_)
          · have e55 : ¬ ((z (136 + 5 * i) = nI w ∧ z (136 + 5 * i + 1) = nI c) ∧ z (136 + 5 * i + 4) = 1) := by
              first | exact fun q => (tp_b_0.mp c31) q.1 | exact fun q => c42 q.2 | exact absurd c55 (by decide)
            refine r_iconst (v := 0) dX6_creditIn_68 (by decide) ?_
            refine r_iadd dX6_creditIn_69 ?_
            refine r_istore3 dX6_creditIn_70 (Nat.le_of_ble_eq_true rfl) rfl ?_
            refine r_iinc4 (v := nI (i + 1)) dX6_creditIn_71 (Nat.le_of_ble_eq_true rfl) rfl (tp_inc i) ?_
            exact r_goto (tgt := 5) dX6_creditIn_74 (by decide) (tp_cong (by first | (simp only [z_credit, if_pos e55]; rfl) | (simp only [z_credit, if_neg e55]; rfl)) rfl (ih (i + 1) _ (by omega)))
          · have e55 : (z (136 + 5 * i) = nI w ∧ z (136 + 5 * i + 1) = nI c) ∧ z (136 + 5 * i + 4) = 1 := by
              first | exact absurd rfl c55 | exact ⟨tp_b_n c31, c42⟩
            refine r_aload0 dX6_creditIn_58 ?_
            refine r_iload4 dX6_creditIn_59 ?_
            refine r_iconst (v := 2) dX6_creditIn_61 (by decide) ?_
            refine r_pV dX6_creditIn_62 v_X6_127 (M_ofPayment (j := 2) hl hT (by omega) (by omega)) rfl (hT.ob) rfl rfl rfl (Nat.le_of_ble_eq_true rfl) ⟨(Nat.le_of_ble_eq_true rfl), (Nat.le_of_ble_eq_true rfl)⟩ ⟨(Nat.le_of_ble_eq_true rfl), (Nat.le_of_ble_eq_true rfl)⟩ ?_
            refine r_goto (tgt := 69) dX6_creditIn_65 (by decide) ?_
            refine r_iadd dX6_creditIn_69 ?_
            refine r_istore3 dX6_creditIn_70 (Nat.le_of_ble_eq_true rfl) rfl ?_
            refine r_iinc4 (v := nI (i + 1)) dX6_creditIn_71 (Nat.le_of_ble_eq_true rfl) rfl (tp_inc i) ?_
            exact r_goto (tgt := 5) dX6_creditIn_74 (by decide) (tp_cong (by first | (simp only [z_credit, if_pos e55]; rfl) | (simp only [z_credit, if_neg e55]; rfl)) rfl (ih (i + 1) _ (by omega)))
        · refine r_iconst (v := 1) dX6_creditIn_45 (by decide) ?_
          refine r_goto (tgt := 50) dX6_creditIn_46 (by decide) ?_
          refine r_istore5 dX6_creditIn_50 (Nat.le_of_ble_eq_true rfl) rfl ?_
          refine r_iload3 dX6_creditIn_52 ?_
          refine r_iload5 dX6_creditIn_53 ?_
          refine r_if_eq (tgt := 68) dX6_creditIn_55 (by decide) (fun c55 => ?_) (fun c55 => ?_)
          · have e55 : ¬ ((z (136 + 5 * i) = nI w ∧ z (136 + 5 * i + 1) = nI c) ∧ z (136 + 5 * i + 4) = 1) := by
              first | exact fun q => (tp_b_0.mp c31) q.1 | exact fun q => c42 q.2 | exact absurd c55 (by decide)
            refine r_iconst (v := 0) dX6_creditIn_68 (by decide) ?_
            refine r_iadd dX6_creditIn_69 ?_
            refine r_istore3 dX6_creditIn_70 (Nat.le_of_ble_eq_true rfl) rfl ?_
            refine r_iinc4 (v := nI (i + 1)) dX6_creditIn_71 (Nat.le_of_ble_eq_true rfl) rfl (tp_inc i) ?_
            exact r_goto (tgt := 5) dX6_creditIn_74 (by decide) (tp_cong (by first | (simp only [z_credit, if_pos e55]; rfl) | (simp only [z_credit, if_neg e55]; rfl)) rfl (ih (i + 1) _ (by omega)))
          · have e55 : (z (136 + 5 * i) = nI w ∧ z (136 + 5 * i + 1) = nI c) ∧ z (136 + 5 * i + 4) = 1 := by
              first | exact absurd rfl c55 | exact ⟨tp_b_n c31, c42⟩
            refine r_aload0 dX6_creditIn_58 ?_
            refine r_iload4 dX6_creditIn_59 ?_
            refine r_iconst (v := 2) dX6_creditIn_61 (by decide) ?_
            refine r_pV dX6_creditIn_62 v_X6_127 (M_ofPayment (j := 2) hl hT (by omega) (by omega)) rfl (hT.ob) rfl rfl rfl (Nat.le_of_ble_eq_true rfl) ⟨(Nat.le_of_ble_eq_true rfl), (Nat.le_of_ble_eq_true rfl)⟩ ⟨(Nat.le_of_ble_eq_true rfl), (Nat.le_of_ble_eq_true rfl)⟩ ?_
            refine r_goto (tgt := 69) dX6_creditIn_65 (by decide) ?_
            refine r_iadd dX6_creditIn_69 ?_
            refine r_istore3 dX6_creditIn_70 (Nat.le_of_ble_eq_true rfl) rfl ?_
            refine r_iinc4 (v := nI (i + 1)) dX6_creditIn_71 (Nat.le_of_ble_eq_true rfl) rfl (tp_inc i) ?_
            exact r_goto (tgt := 5) dX6_creditIn_74 (by decide) (tp_cong (by first | (simp only [z_credit, if_pos e55]; rfl) | (simp only [z_credit, if_neg e55]; rfl)) rfl (ih (i + 1) _ (by omega)))

set_option maxRecDepth 100000 in
set_option maxHeartbeats 4000000 in
theorem M_creditIn {l : Launch} {G : tp_G} {y : Nat} {h0 h : tp_H} {z hi tx pa : Nat → Int32} {st len thr rd nu du : Int32} {hs : Int64} (hl : l.stackTraces = false) (hT0 : mm_S G y h0 z hi tx pa st len thr rd nu du hs h) {w c P : Nat} (hz9 : z 9 = nI P) (hP9 : P ≤ 12) : tp_Met l G mX6_creditIn 0 0 [.ref y, .int (nI w), .int (nI c)] h (tp_PR (.int (z_credit z w c P)) h) tp_NX := by
  have hT := hT0.self
  refine tp_start (L0 := [some (.ref y), some (.int (nI w)), some (.int (nI c)), none, none, none]) (by decide) rfl hl (Nat.le_of_ble_eq_true rfl) rfl ?_
  refine r_iconst (v := 0) dX6_creditIn_0 (by decide) ?_
  refine r_istore3 dX6_creditIn_1 (Nat.le_of_ble_eq_true rfl) rfl ?_
  refine r_iconst (v := 0) dX6_creditIn_2 (by decide) ?_
  refine r_istore4 dX6_creditIn_3 (Nat.le_of_ble_eq_true rfl) rfl ?_
  exact M_creditIn_lp hl hT hz9 hP9 P 0 none (by omega)

set_option maxRecDepth 100000 in
set_option maxHeartbeats 4000000 in
theorem M_disputed_lp {l : Launch} {G : tp_G} {y : Nat} {h0 h : tp_H} {z hi tx pa : Nat → Int32} {st len thr rd nu du : Int32} {hs : Int64} (hl : l.stackTraces = false) (hT0 : mm_S G y h0 z hi tx pa st len thr rd nu du hs h) {P : Nat} (hz9 : z 9 = nI P) (hP9 : P ≤ 12) : ∀ d (i : Nat), i + d = P → tp_Run l G mX6_disputed (tp_rm mX6_disputed 0 0) (tp_QM G 0 0 (tp_PR (.int (z_disputed z P)) h) tp_NX) 0 0 h 4 [some (.ref y), some (.int (z_disputed z i)), some (.int (nI i))] [] := by
  intro d
  have hT := hT0.self
  induction d with
  | zero =>
    intro i hi
    refine r_iload2 dX6_disputed_4 ?_
    refine r_aload0 dX6_disputed_5 ?_
    refine r_getf dX6_disputed_6 f_X6_7 (hT.ob) rfl ?_
    refine r_bipush (v := 9) dX6_disputed_9 (by decide) ?_
    refine r_iald dX6_disputed_11 hT.rz (i := 9) (rfl) (by omega) (by decide) ?_
    refine r_icmp_ge (tgt := 39) dX6_disputed_12 (by decide) (fun c12 => ?_) (fun c12 => ?_)
    · refine r_iload1 dX6_disputed_39 ?_
      exact r_iret dX6_disputed_40 rfl ⟨(Nat.le_of_ble_eq_true rfl), (Nat.le_of_ble_eq_true rfl)⟩ ⟨by rw [show i = P by omega], rfl⟩
    · rw [hz9, tp_le (by omega) (by omega)] at c12; omega
  | succ d ih =>
    intro i hi
    refine r_iload2 dX6_disputed_4 ?_
    refine r_aload0 dX6_disputed_5 ?_
    refine r_getf dX6_disputed_6 f_X6_7 (hT.ob) rfl ?_
    refine r_bipush (v := 9) dX6_disputed_9 (by decide) ?_
    refine r_iald dX6_disputed_11 hT.rz (i := 9) (rfl) (by omega) (by decide) ?_
    refine r_icmp_ge (tgt := 39) dX6_disputed_12 (by decide) (fun c12 => ?_) (fun c12 => ?_)
    · rw [hz9, tp_le (by omega) (by omega)] at c12; omega
    · refine r_iload1 dX6_disputed_15 ?_
      refine r_aload0 dX6_disputed_16 ?_
      refine r_iload2 dX6_disputed_17 ?_
      refine r_iconst (v := 4) dX6_disputed_18 (by decide) ?_
      refine r_pV dX6_disputed_19 v_X6_127 (M_ofPayment (j := 4) hl hT (by omega) (by omega)) rfl (hT.ob) rfl rfl rfl (Nat.le_of_ble_eq_true rfl) ⟨(Nat.le_of_ble_eq_true rfl), (Nat.le_of_ble_eq_true rfl)⟩ ⟨(Nat.le_of_ble_eq_true rfl), (Nat.le_of_ble_eq_true rfl)⟩ ?_
      refine r_iconst (v := 1) dX6_disputed_22 (by decide) ?_
      refine r_icmp_ne (tgt := 30) dX6_disputed_23 (by decide) (fun c23 => ?_) (fun c23 => ?_)
      · refine r_iconst (v := 0) dX6_disputed_30 (by decide) ?_
        refine r_iadd dX6_disputed_31 ?_
        refine r_istore1 dX6_disputed_32 (Nat.le_of_ble_eq_true rfl) rfl ?_
        refine r_iinc2 (v := nI (i + 1)) dX6_disputed_33 (Nat.le_of_ble_eq_true rfl) rfl (tp_inc i) ?_
        exact r_goto (tgt := 4) dX6_disputed_36 (by decide) (tp_cong (by first | (simp only [z_disputed, if_pos c23]; done) | (simp only [z_disputed, if_neg c23]; done)) rfl (ih (i + 1) (by omega)))
      · refine r_iconst (v := 1) dX6_disputed_26 (by decide) ?_
        refine r_goto (tgt := 31) dX6_disputed_27 (by decide) ?_
        refine r_iadd dX6_disputed_31 ?_
        refine r_istore1 dX6_disputed_32 (Nat.le_of_ble_eq_true rfl) rfl ?_
        refine r_iinc2 (v := nI (i + 1)) dX6_disputed_33 (Nat.le_of_ble_eq_true rfl) rfl (tp_inc i) ?_
        exact r_goto (tgt := 4) dX6_disputed_36 (by decide) (tp_cong (by first | (simp only [z_disputed, if_pos c23]; done) | (simp only [z_disputed, if_neg c23]; done)) rfl (ih (i + 1) (by omega)))

set_option maxRecDepth 100000 in
set_option maxHeartbeats 4000000 in
theorem M_disputed {l : Launch} {G : tp_G} {y : Nat} {h0 h : tp_H} {z hi tx pa : Nat → Int32} {st len thr rd nu du : Int32} {hs : Int64} (hl : l.stackTraces = false) (hT0 : mm_S G y h0 z hi tx pa st len thr rd nu du hs h) {P : Nat} (hz9 : z 9 = nI P) (hP9 : P ≤ 12) : tp_Met l G mX6_disputed 0 0 [.ref y] h (tp_PR (.int (z_disputed z P)) h) tp_NX := by
  have hT := hT0.self
  refine tp_start (L0 := [some (.ref y), none, none]) (by decide) rfl hl (Nat.le_of_ble_eq_true rfl) rfl ?_
  refine r_iconst (v := 0) dX6_disputed_0 (by decide) ?_
  refine r_istore1 dX6_disputed_1 (Nat.le_of_ble_eq_true rfl) rfl ?_
  refine r_iconst (v := 0) dX6_disputed_2 (by decide) ?_
  refine r_istore2 dX6_disputed_3 (Nat.le_of_ble_eq_true rfl) rfl ?_
  exact M_disputed_lp hl hT hz9 hP9 P 0 (by omega)

set_option maxRecDepth 100000 in
set_option maxHeartbeats 4000000 in
theorem M_paymentNow {l : Launch} {G : tp_G} {y : Nat} {h0 h : tp_H} {z hi tx pa : Nat → Int32} {st len thr rd nu du : Int32} {hs : Int64} (hl : l.stackTraces = false) (hT0 : mm_S G y h0 z hi tx pa st len thr rd nu du hs h) {p j : Nat} (hp : p < 12) (hj : j < 6) : tp_Met l G mX6_paymentNow 0 0 [.ref y, .int (nI p), .int (nI j)] h (tp_PR (.int (if j < 5 then z (136 + 5 * p + j) else tp_b (z (136 + 5 * p + 4) = 0 ∧ z 4 ≤ z (136 + 5 * p + 3) + 30))) h) tp_NX := by
  have hT := hT0.self
  refine tp_start (L0 := [some (.ref y), some (.int (nI p)), some (.int (nI j))]) (by decide) rfl hl (Nat.le_of_ble_eq_true rfl) rfl ?_
  refine r_iload2 dX6_paymentNow_0 ?_
  refine r_iconst (v := 5) dX6_paymentNow_1 (by decide) ?_
  refine r_icmp_ge (tgt := 14) dX6_paymentNow_2 (by decide) (fun c2 => ?_) (fun c2 => ?_)
  · have e2 : ¬ j < 5 := by
      rw [show (5 : Int32) = nI 5 from rfl, tp_le (by omega) (by omega)] at c2; omega
    refine r_aload0 dX6_paymentNow_14 ?_
    refine r_iload1 dX6_paymentNow_15 ?_
    refine r_pV dX6_paymentNow_16 v_X6_133 (M_canDispute hl hT hp) rfl (hT.ob) rfl rfl rfl (Nat.le_of_ble_eq_true rfl) ⟨(Nat.le_of_ble_eq_true rfl), (Nat.le_of_ble_eq_true rfl)⟩ ⟨(Nat.le_of_ble_eq_true rfl), (Nat.le_of_ble_eq_true rfl)⟩ ?_
    refine r_if_eq (tgt := 26) dX6_paymentNow_19 (by decide) (fun c19 => ?_) (fun c19 => ?_)
    · refine r_iconst (v := 0) dX6_paymentNow_26 (by decide) ?_
      exact r_iret dX6_paymentNow_27 rfl ⟨(Nat.le_of_ble_eq_true rfl), (Nat.le_of_ble_eq_true rfl)⟩ ⟨by first | (rw [if_pos e2]; done) | (rw [if_neg e2, tp_b_t (tp_b_n c19)]; done) | (rw [if_neg e2, tp_b_f (tp_b_0.mp c19)]; done), rfl⟩
    · refine r_iconst (v := 1) dX6_paymentNow_22 (by decide) ?_
      refine r_goto (tgt := 27) dX6_paymentNow_23 (by decide) ?_
      exact r_iret dX6_paymentNow_27 rfl ⟨(Nat.le_of_ble_eq_true rfl), (Nat.le_of_ble_eq_true rfl)⟩ ⟨by first | (rw [if_pos e2]; done) | (rw [if_neg e2, tp_b_t (tp_b_n c19)]; done) | (rw [if_neg e2, tp_b_f (tp_b_0.mp c19)]; done), rfl⟩
  · have e2 : j < 5 := by
      rw [show (5 : Int32) = nI 5 from rfl, tp_le (by omega) (by omega)] at c2; omega
    refine r_aload0 dX6_paymentNow_5 ?_
    refine r_iload1 dX6_paymentNow_6 ?_
    refine r_iload2 dX6_paymentNow_7 ?_
    refine r_pV dX6_paymentNow_8 v_X6_127 (M_ofPayment hl hT hp e2) rfl (hT.ob) rfl rfl rfl (Nat.le_of_ble_eq_true rfl) ⟨(Nat.le_of_ble_eq_true rfl), (Nat.le_of_ble_eq_true rfl)⟩ ⟨(Nat.le_of_ble_eq_true rfl), (Nat.le_of_ble_eq_true rfl)⟩ ?_
    refine r_goto (tgt := 27) dX6_paymentNow_11 (by decide) ?_
    exact r_iret dX6_paymentNow_27 rfl ⟨(Nat.le_of_ble_eq_true rfl), (Nat.le_of_ble_eq_true rfl)⟩ ⟨by first | (rw [if_pos e2]; done) | (rw [if_neg e2, tp_b_t (tp_b_n c19)]; done) | (rw [if_neg e2, tp_b_f (tp_b_0.mp c19)]; done), rfl⟩

set_option maxRecDepth 100000 in
set_option maxHeartbeats 4000000 in
theorem M_exchangedThen {l : Launch} {G : tp_G} {y : Nat} {h0 h : tp_H} {z hi tx pa : Nat → Int32} {st len thr rd nu du : Int32} {hs : Int64} (hl : l.stackTraces = false) (hT0 : mm_S G y h0 z hi tx pa st len thr rd nu du hs h) {w f t : Nat} {a : Int32} (hw : w < 4) (hf : f < 4) (ht : t < 4) (hr : ¬ (z_rate z w t).toInt64 = 0) : tp_Met l G mX6_exchangedThen 0 0 [.ref y, .int (nI w), .int (nI f), .int (nI t), .int a] h (tp_PR (.int (if f = t ∨ (0 < f ∧ 0 < t) then -1 else z_brings z w f t a)) h) tp_NX := by
  have hT := hT0.self
  refine tp_start (L0 := [some (.ref y), some (.int (nI w)), some (.int (nI f)), some (.int (nI t)), some (.int a)]) (by decide) rfl hl (Nat.le_of_ble_eq_true rfl) rfl ?_
  refine r_iload2 dX6_exchangedThen_0 ?_
  refine r_iload3 dX6_exchangedThen_1 ?_
  refine r_pS dX6_exchangedThen_2 v_X6_99 (M_isWrongPair hl hf ht) rfl rfl rfl (Nat.le_of_ble_eq_true rfl) ⟨(Nat.le_of_ble_eq_true rfl), (Nat.le_of_ble_eq_true rfl)⟩ ⟨(Nat.le_of_ble_eq_true rfl), (Nat.le_of_ble_eq_true rfl)⟩ ?_
  refine r_if_eq (tgt := 12) dX6_exchangedThen_5 (by decide) (fun c5 => ?_) (fun c5 => ?_)
  · refine r_aload0 dX6_exchangedThen_12 ?_
    refine r_iload1 dX6_exchangedThen_13 ?_
    refine r_iload2 dX6_exchangedThen_14 ?_
    refine r_iload3 dX6_exchangedThen_15 ?_
    refine r_iload4 dX6_exchangedThen_16 ?_
    refine r_pV dX6_exchangedThen_18 v_X6_206 (M_brings hl hT hw hf ht hr) rfl (hT.ob) rfl rfl rfl (Nat.le_of_ble_eq_true rfl) ⟨(Nat.le_of_ble_eq_true rfl), (Nat.le_of_ble_eq_true rfl)⟩ ⟨(Nat.le_of_ble_eq_true rfl), (Nat.le_of_ble_eq_true rfl)⟩ ?_
    exact r_iret dX6_exchangedThen_21 rfl ⟨(Nat.le_of_ble_eq_true rfl), (Nat.le_of_ble_eq_true rfl)⟩ ⟨by first | (rw [if_pos (tp_b_n c5)]; done) | (rw [if_neg (tp_b_0.mp c5)]; done), rfl⟩
  · refine r_iconst (v := (-1)) dX6_exchangedThen_8 (by decide) ?_
    refine r_goto (tgt := 21) dX6_exchangedThen_9 (by decide) ?_
    exact r_iret dX6_exchangedThen_21 rfl ⟨(Nat.le_of_ble_eq_true rfl), (Nat.le_of_ble_eq_true rfl)⟩ ⟨by first | (rw [if_pos (tp_b_n c5)]; done) | (rw [if_neg (tp_b_0.mp c5)]; done), rfl⟩

set_option maxRecDepth 100000 in
set_option maxHeartbeats 4000000 in
theorem M_mix {l : Launch} {G : tp_G} {y : Nat} {h0 h : tp_H} {z hi tx pa : Nat → Int32} {st len thr rd nu du : Int32} {hs : Int64} (hl : l.stackTraces = false) (hT0 : mm_S G y h0 z hi tx pa st len thr rd nu du hs h) {v : Int64} : tp_Met l G mX6_mix 0 0 [.ref y, .long v] h (tp_PS (none) (fun h1 => mm_S G y h z hi tx pa st len thr rd nu du (31 * hs + v) h1)) tp_NX := by
  have hT := hT0.self
  refine tp_start (L0 := [some (.ref y), some (.long v), none]) (by decide) rfl hl (Nat.le_of_ble_eq_true rfl) rfl ?_
  refine r_aload0 dX6_mix_0 ?_
  refine r_ldc2 dX6_mix_1 c_X6_226 ?_
  refine r_aload0 dX6_mix_4 ?_
  refine r_getf dX6_mix_5 f_X6_228 (hT.ob) rfl ?_
  refine r_lmul dX6_mix_8 ?_
  refine r_lload1 dX6_mix_9 ?_
  refine r_ladd dX6_mix_10 ?_
  refine mm_put_hs dX6_mix_11 rfl hT (fun h1 hT => ?_)
  exact r_vret dX6_mix_14 rfl ⟨(Nat.le_of_ble_eq_true rfl), (Nat.le_of_ble_eq_true rfl)⟩ ⟨rfl, hT⟩

set_option maxRecDepth 100000 in
set_option maxHeartbeats 4000000 in
theorem M_greatest {l : Launch} {G : tp_G} {h : tp_H} (hl : l.stackTraces = false) {v : Int32} : tp_Met l G mX6_greatest 0 0 [.int v] h (tp_PR (.int (if v = 1 then 100 else if v = 2 then 50 else 60)) h) tp_NX := by
  refine tp_start (L0 := [some (.int v)]) (by decide) rfl hl (Nat.le_of_ble_eq_true rfl) rfl ?_
  refine r_iload0 dX6_greatest_0 ?_
  refine r_iconst (v := 1) dX6_greatest_1 (by decide) ?_
  refine r_icmp_ne (tgt := 10) dX6_greatest_2 (by decide) (fun c2 => ?_) (fun c2 => ?_)
  · refine r_iload0 dX6_greatest_10 ?_
    refine r_iconst (v := 2) dX6_greatest_11 (by decide) ?_
    refine r_icmp_ne (tgt := 20) dX6_greatest_12 (by decide) (fun c12 => ?_) (fun c12 => ?_)
    · refine r_bipush (v := 60) dX6_greatest_20 (by decide) ?_
      exact r_iret dX6_greatest_22 rfl ⟨(Nat.le_of_ble_eq_true rfl), (Nat.le_of_ble_eq_true rfl)⟩ ⟨by first | (rw [if_pos c2]; done) | (rw [if_neg c2, if_pos c12]; done) | (rw [if_neg c2, if_neg c12]; done), rfl⟩
    · refine r_bipush (v := 50) dX6_greatest_15 (by decide) ?_
      refine r_goto (tgt := 22) dX6_greatest_17 (by decide) ?_
      exact r_iret dX6_greatest_22 rfl ⟨(Nat.le_of_ble_eq_true rfl), (Nat.le_of_ble_eq_true rfl)⟩ ⟨by first | (rw [if_pos c2]; done) | (rw [if_neg c2, if_pos c12]; done) | (rw [if_neg c2, if_neg c12]; done), rfl⟩
  · refine r_bipush (v := 100) dX6_greatest_5 (by decide) ?_
    refine r_goto (tgt := 22) dX6_greatest_7 (by decide) ?_
    exact r_iret dX6_greatest_22 rfl ⟨(Nat.le_of_ble_eq_true rfl), (Nat.le_of_ble_eq_true rfl)⟩ ⟨by first | (rw [if_pos c2]; done) | (rw [if_neg c2, if_pos c12]; done) | (rw [if_neg c2, if_neg c12]; done), rfl⟩

