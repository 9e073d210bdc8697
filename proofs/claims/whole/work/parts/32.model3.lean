set_option maxRecDepth 100000 in
set_option maxHeartbeats 4000000 in
theorem M_comeIn {l : Launch} {G : tp_G} {y : Nat} {h0 h : tp_H} {z hi tx pa : Nat → Int32} {st len thr rd nu du : Int32} {hs : Int64} (hl : l.stackTraces = false) (hT0 : mm_S G y h0 z hi tx pa st len thr rd nu du hs h) {w c : Nat} {m : Int32} (hw : w < 4) (hc : c < 4) : tp_Met l G mX6_comeIn 0 0 [.ref y, .int (nI w), .int (nI c), .int m] h (tp_PS (none) (fun h1 => mm_S G y h (z_in z w c m) hi tx pa st len thr rd nu du hs h1)) tp_NX := by
  have hT := hT0.self
  refine tp_start (L0 := [some (.ref y), some (.int (nI w)), some (.int (nI c)), some (.int m), none, none]) (by decide) rfl hl (Nat.le_of_ble_eq_true rfl) rfl ?_
  refine r_aload0 dX6_comeIn_0 ?_
  refine r_iload1 dX6_comeIn_1 ?_
  refine r_iload2 dX6_comeIn_2 ?_
  refine r_iconst (v := 1) dX6_comeIn_3 (by decide) ?_
  refine r_pV dX6_comeIn_4 v_X6_55 (M_of (w := w) (c := c) (j := 1) hl hT hw hc (by omega)) rfl (hT.ob) rfl rfl rfl (Nat.le_of_ble_eq_true rfl) ⟨(Nat.le_of_ble_eq_true rfl), (Nat.le_of_ble_eq_true rfl)⟩ ⟨(Nat.le_of_ble_eq_true rfl), (Nat.le_of_ble_eq_true rfl)⟩ ?_
  refine r_istore4 dX6_comeIn_7 (Nat.le_of_ble_eq_true rfl) rfl ?_
  refine r_iload4 dX6_comeIn_9 ?_
  refine r_iload3 dX6_comeIn_11 ?_
  refine r_icmp_ge (tgt := 20) dX6_comeIn_12 (by decide) (fun c12 => ?_) (fun c12 => ?_)
  · have e12 : z_paid z w c m = m := if_neg (Int32.not_lt.mpr c12)
    refine r_iload3 dX6_comeIn_20 ?_
    refine r_istore5 dX6_comeIn_21 (Nat.le_of_ble_eq_true rfl) rfl ?_
    refine r_aload0 dX6_comeIn_23 ?_
    refine r_getf dX6_comeIn_24 f_X6_7 (hT.ob) rfl ?_
    refine r_iload1 dX6_comeIn_27 ?_
    refine r_iload2 dX6_comeIn_28 ?_
    refine r_pS dX6_comeIn_29 v_X6_45 (M_at (w := w) (c := c) hl) rfl rfl rfl (Nat.le_of_ble_eq_true rfl) ⟨(Nat.le_of_ble_eq_true rfl), (Nat.le_of_ble_eq_true rfl)⟩ ⟨(Nat.le_of_ble_eq_true rfl), (Nat.le_of_ble_eq_true rfl)⟩ ?_
    refine r_iconst (v := 1) dX6_comeIn_32 (by decide) ?_
    refine r_iadd dX6_comeIn_33 ?_
    refine r_dup2 dX6_comeIn_34 rfl rfl ?_
    refine r_iald dX6_comeIn_35 hT.rz (i := z_at w c + 1) (tp_add _ 1) (by unfold z_at; omega) (by decide) ?_
    refine r_iload5 dX6_comeIn_36 ?_
    refine r_isub dX6_comeIn_38 ?_
    refine mm_st_z dX6_comeIn_39 hT (i := z_at w c + 1) (tp_add _ 1) (by unfold z_at; omega) (fun h1 hT => ?_)
    refine r_aload0 dX6_comeIn_40 ?_
    refine r_getf dX6_comeIn_41 f_X6_7 (hT.ob) rfl ?_
    refine r_bipush (v := 15) dX6_comeIn_44 (by decide) ?_
    refine r_dup2 dX6_comeIn_46 rfl rfl ?_
    refine r_iald dX6_comeIn_47 hT.rz (i := 15) (rfl) (by omega) (by decide) ?_
    refine r_iload5 dX6_comeIn_48 ?_
    refine r_iadd dX6_comeIn_50 ?_
    refine mm_st_z dX6_comeIn_51 hT (i := 15) (rfl) (by omega) (fun h1 hT => ?_)
    refine r_aload0 dX6_comeIn_52 ?_
    refine r_getf dX6_comeIn_53 f_X6_7 (hT.ob) rfl ?_
    refine r_iload1 dX6_comeIn_56 ?_
    refine r_iload2 dX6_comeIn_57 ?_
    refine r_pS dX6_comeIn_58 v_X6_45 (M_at (w := w) (c := c) hl) rfl rfl rfl (Nat.le_of_ble_eq_true rfl) ⟨(Nat.le_of_ble_eq_true rfl), (Nat.le_of_ble_eq_true rfl)⟩ ⟨(Nat.le_of_ble_eq_true rfl), (Nat.le_of_ble_eq_true rfl)⟩ ?_
    refine r_iconst (v := 0) dX6_comeIn_61 (by decide) ?_
    refine r_iadd dX6_comeIn_62 ?_
    refine r_dup2 dX6_comeIn_63 rfl rfl ?_
    refine r_iald dX6_comeIn_64 hT.rz (i := z_at w c + 0) (tp_add _ 0) (by unfold z_at; omega) (by decide) ?_
    refine r_iload3 dX6_comeIn_65 ?_
    refine r_iload5 dX6_comeIn_66 ?_
    refine r_isub dX6_comeIn_68 ?_
    refine r_iadd dX6_comeIn_69 ?_
    refine mm_st_z dX6_comeIn_70 hT (i := z_at w c + 0) (tp_add _ 0) (by unfold z_at; omega) (fun h1 hT => ?_)
    exact r_vret dX6_comeIn_71 rfl ⟨(Nat.le_of_ble_eq_true rfl), (Nat.le_of_ble_eq_true rfl)⟩ ⟨rfl, by unfold z_in; rw [e12]; exact hT⟩
  · have e12 : z_paid z w c m = z (z_at w c + 1) := if_pos (Int32.not_le.mp c12)
    refine r_iload4 dX6_comeIn_15 ?_
    refine r_goto (tgt := 21) dX6_comeIn_17 (by decide) ?_
    refine r_istore5 dX6_comeIn_21 (Nat.le_of_ble_eq_true rfl) rfl ?_
    refine r_aload0 dX6_comeIn_23 ?_
    refine r_getf dX6_comeIn_24 f_X6_7 (hT.ob) rfl ?_
    refine r_iload1 dX6_comeIn_27 ?_
    refine r_iload2 dX6_comeIn_28 ?_
    refine r_pS dX6_comeIn_29 v_X6_45 (M_at (w := w) (c := c) hl) rfl rfl rfl (Nat.le_of_ble_eq_true rfl) ⟨(Nat.le_of_ble_eq_true rfl), (Nat.le_of_ble_eq_true rfl)⟩ ⟨(Nat.le_of_ble_eq_true rfl), (Nat.le_of_ble_eq_true rfl)⟩ ?_
    refine r_iconst (v := 1) dX6_comeIn_32 (by decide) ?_
    refine r_iadd dX6_comeIn_33 ?_
    refine r_dup2 dX6_comeIn_34 rfl rfl ?_
    refine r_iald dX6_comeIn_35 hT.rz (i := z_at w c + 1) (tp_add _ 1) (by unfold z_at; omega) (by decide) ?_
    refine r_iload5 dX6_comeIn_36 ?_
    refine r_isub dX6_comeIn_38 ?_
    refine mm_st_z dX6_comeIn_39 hT (i := z_at w c + 1) (tp_add _ 1) (by unfold z_at; omega) (fun h1 hT => ?_)
    refine r_aload0 dX6_comeIn_40 ?_
    refine r_getf dX6_comeIn_41 f_X6_7 (hT.ob) rfl ?_
    refine r_bipush (v := 15) dX6_comeIn_44 (by decide) ?_
    refine r_dup2 dX6_comeIn_46 rfl rfl ?_
    refine r_iald dX6_comeIn_47 hT.rz (i := 15) (rfl) (by omega) (by decide) ?_
    refine r_iload5 dX6_comeIn_48 ?_
    refine r_iadd dX6_comeIn_50 ?_
    refine mm_st_z dX6_comeIn_51 hT (i := 15) (rfl) (by omega) (fun h1 hT => ?_)
    refine r_aload0 dX6_comeIn_52 ?_
    refine r_getf dX6_comeIn_53 f_X6_7 (hT.ob) rfl ?_
    refine r_iload1 dX6_comeIn_56 ?_
    refine r_iload2 dX6_comeIn_57 ?_
    refine r_pS dX6_comeIn_58 v_X6_45 (M_at (w := w) (c := c) hl) rfl rfl rfl (Nat.le_of_ble_eq_true rfl) ⟨(Nat.le_of_ble_eq_true rfl), (Nat.le_of_ble_eq_true rfl)⟩ ⟨(Nat.le_of_ble_eq_true rfl), (Nat.le_of_ble_eq_true rfl)⟩ ?_
    refine r_iconst (v := 0) dX6_comeIn_61 (by decide) ?_
    refine r_iadd dX6_comeIn_62 ?_
    refine r_dup2 dX6_comeIn_63 rfl rfl ?_
    refine r_iald dX6_comeIn_64 hT.rz (i := z_at w c + 0) (tp_add _ 0) (by unfold z_at; omega) (by decide) ?_
    refine r_iload3 dX6_comeIn_65 ?_
    refine r_iload5 dX6_comeIn_66 ?_
    refine r_isub dX6_comeIn_68 ?_
    refine r_iadd dX6_comeIn_69 ?_
    refine mm_st_z dX6_comeIn_70 hT (i := z_at w c + 0) (tp_add _ 0) (by unfold z_at; omega) (fun h1 hT => ?_)
    exact r_vret dX6_comeIn_71 rfl ⟨(Nat.le_of_ble_eq_true rfl), (Nat.le_of_ble_eq_true rfl)⟩ ⟨rfl, by unfold z_in; rw [e12]; exact hT⟩

set_option maxRecDepth 100000 in
set_option maxHeartbeats 4000000 in
theorem M_canLoad {l : Launch} {G : tp_G} {y : Nat} {h0 h : tp_H} {z hi tx pa : Nat → Int32} {st len thr rd nu du : Int32} {hs : Int64} (hl : l.stackTraces = false) (hT0 : mm_S G y h0 z hi tx pa st len thr rd nu du hs h) {w : Nat} {a : Int32} (hw : w < 4) : tp_Met l G mX6_canLoad 0 0 [.ref y, .int (nI w), .int a] h (tp_PR (.int (tp_b (z (z_at w 0) + a ≤ 1000000))) h) tp_NX := by
  have hT := hT0.self
  refine tp_start (L0 := [some (.ref y), some (.int (nI w)), some (.int a)]) (by decide) rfl hl (Nat.le_of_ble_eq_true rfl) rfl ?_
  refine r_aload0 dX6_canLoad_0 ?_
  refine r_iload1 dX6_canLoad_1 ?_
  refine r_iconst (v := 0) dX6_canLoad_2 (by decide) ?_
  refine r_iconst (v := 0) dX6_canLoad_3 (by decide) ?_
  refine r_pV dX6_canLoad_4 v_X6_55 (M_of (w := w) (c := 0) (j := 0) hl hT hw (by omega) (by omega)) rfl (hT.ob) rfl rfl rfl (Nat.le_of_ble_eq_true rfl) ⟨(Nat.le_of_ble_eq_true rfl), (Nat.le_of_ble_eq_true rfl)⟩ ⟨(Nat.le_of_ble_eq_true rfl), (Nat.le_of_ble_eq_true rfl)⟩ ?_
  refine r_iload2 dX6_canLoad_7 ?_
  refine r_iadd dX6_canLoad_8 ?_
  refine r_ldc dX6_canLoad_9 c_X6_75 ?_
  refine r_icmp_gt (tgt := 18) dX6_canLoad_11 (by decide) (fun c11 => ?_) (fun c11 => ?_)
  · refine r_iconst (v := 0) dX6_canLoad_18 (by decide) ?_
    exact r_zret dX6_canLoad_19 rfl ⟨(Nat.le_of_ble_eq_true rfl), (Nat.le_of_ble_eq_true rfl)⟩ (by first | rfl | decide) ⟨by first | (rw [tp_b_t (p := z (z_at w 0) + a ≤ 1000000) (Int32.not_lt.mp c11)]; done) | (rw [tp_b_f (p := z (z_at w 0) + a ≤ 1000000) (Int32.not_le.mpr c11)]; done), rfl⟩
  · refine r_iconst (v := 1) dX6_canLoad_14 (by decide) ?_
    refine r_goto (tgt := 19) dX6_canLoad_15 (by decide) ?_
    exact r_zret dX6_canLoad_19 rfl ⟨(Nat.le_of_ble_eq_true rfl), (Nat.le_of_ble_eq_true rfl)⟩ (by first | rfl | decide) ⟨by first | (rw [tp_b_t (p := z (z_at w 0) + a ≤ 1000000) (Int32.not_lt.mp c11)]; done) | (rw [tp_b_f (p := z (z_at w 0) + a ≤ 1000000) (Int32.not_le.mpr c11)]; done), rfl⟩

set_option maxRecDepth 100000 in
set_option maxHeartbeats 4000000 in
theorem M_loads {l : Launch} {G : tp_G} {y : Nat} {h0 h : tp_H} {z hi tx pa : Nat → Int32} {st len thr rd nu du : Int32} {hs : Int64} (hl : l.stackTraces = false) (hT0 : mm_S G y h0 z hi tx pa st len thr rd nu du hs h) {w : Nat} {a : Int32} (hw : w < 4) : tp_Met l G mX6_loads 0 0 [.ref y, .int (nI w), .int a] h (tp_PS (none) (fun h1 => mm_S G y h (z_loads z w a) hi tx pa st len thr rd nu du hs h1)) tp_NX := by
  have hT := hT0.self
  refine tp_start (L0 := [some (.ref y), some (.int (nI w)), some (.int a)]) (by decide) rfl hl (Nat.le_of_ble_eq_true rfl) rfl ?_
  refine r_aload0 dX6_loads_0 ?_
  refine r_iload1 dX6_loads_1 ?_
  refine r_iconst (v := 0) dX6_loads_2 (by decide) ?_
  refine r_iload2 dX6_loads_3 ?_
  refine r_sV0 dX6_loads_4 v_X6_76 (M_comeIn (w := w) (c := 0) hl hT hw (by omega)) rfl (hT.ob) rfl rfl rfl (Nat.le_of_ble_eq_true rfl) ⟨(Nat.le_of_ble_eq_true rfl), (Nat.le_of_ble_eq_true rfl)⟩ ⟨(Nat.le_of_ble_eq_true rfl), (Nat.le_of_ble_eq_true rfl)⟩ (fun h1 hP => ?_)
  have hT := hT.trans hP
  refine r_aload0 dX6_loads_7 ?_
  refine r_getf dX6_loads_8 f_X6_7 (hT.ob) rfl ?_
  refine r_bipush (v := 10) dX6_loads_11 (by decide) ?_
  refine r_dup2 dX6_loads_13 rfl rfl ?_
  refine r_iald dX6_loads_14 hT.rz (i := 10) (rfl) (by omega) (by decide) ?_
  refine r_iload2 dX6_loads_15 ?_
  refine r_iadd dX6_loads_16 ?_
  refine mm_st_z dX6_loads_17 hT (i := 10) (rfl) (by omega) (fun h1 hT => ?_)
  exact r_vret dX6_loads_18 rfl ⟨(Nat.le_of_ble_eq_true rfl), (Nat.le_of_ble_eq_true rfl)⟩ ⟨rfl, hT⟩

set_option maxRecDepth 100000 in
set_option maxHeartbeats 4000000 in
theorem M_isLocked {l : Launch} {G : tp_G} {y : Nat} {h0 h : tp_H} {z hi tx pa : Nat → Int32} {st len thr rd nu du : Int32} {hs : Int64} (hl : l.stackTraces = false) (hT0 : mm_S G y h0 z hi tx pa st len thr rd nu du hs h) {w c : Nat} (hw : w < 4) (hc : c < 4) : tp_Met l G mX6_isLocked 0 0 [.ref y, .int (nI w), .int (nI c)] h (tp_PR (.int (tp_b (0 < z (z_at w c + 2) ∧ z 4 ≤ z (z_at w c + 3)))) h) tp_NX := by
  have hT := hT0.self
  refine tp_start (L0 := [some (.ref y), some (.int (nI w)), some (.int (nI c))]) (by decide) rfl hl (Nat.le_of_ble_eq_true rfl) rfl ?_
  refine r_aload0 dX6_isLocked_0 ?_
  refine r_iload1 dX6_isLocked_1 ?_
  refine r_iload2 dX6_isLocked_2 ?_
  refine r_iconst (v := 2) dX6_isLocked_3 (by decide) ?_
  refine r_pV dX6_isLocked_4 v_X6_55 (M_of (w := w) (c := c) (j := 2) hl hT hw hc (by omega)) rfl (hT.ob) rfl rfl rfl (Nat.le_of_ble_eq_true rfl) ⟨(Nat.le_of_ble_eq_true rfl), (Nat.le_of_ble_eq_true rfl)⟩ ⟨(Nat.le_of_ble_eq_true rfl), (Nat.le_of_ble_eq_true rfl)⟩ ?_
  refine r_if_le (tgt := 30) dX6_isLocked_7 (by decide) (fun c7 => ?_) (fun c7 => ?_)
  · refine r_iconst (v := 0) dX6_isLocked_30 (by decide) ?_
    exact r_zret dX6_isLocked_31 rfl ⟨(Nat.le_of_ble_eq_true rfl), (Nat.le_of_ble_eq_true rfl)⟩ (by first | rfl | decide) ⟨by first | (rw [tp_b_f (fun q => absurd q.1 (Int32.not_lt.mpr c7))]; done) | (rw [tp_b_f (fun q => absurd q.2 (Int32.not_le.mpr c23))]; done) | (rw [tp_b_t ⟨Int32.not_le.mp c7, Int32.not_lt.mp c23⟩]; done), rfl⟩
  · refine r_aload0 dX6_isLocked_10 ?_
    refine r_iload1 dX6_isLocked_11 ?_
    refine r_iload2 dX6_isLocked_12 ?_
    refine r_iconst (v := 3) dX6_isLocked_13 (by decide) ?_
    refine r_pV dX6_isLocked_14 v_X6_55 (M_of (w := w) (c := c) (j := 3) hl hT hw hc (by omega)) rfl (hT.ob) rfl rfl rfl (Nat.le_of_ble_eq_true rfl) ⟨(Nat.le_of_ble_eq_true rfl), (Nat.le_of_ble_eq_true rfl)⟩ ⟨(Nat.le_of_ble_eq_true rfl), (Nat.le_of_ble_eq_true rfl)⟩ ?_
    refine r_aload0 dX6_isLocked_17 ?_
    refine r_getf dX6_isLocked_18 f_X6_7 (hT.ob) rfl ?_
    refine r_iconst (v := 4) dX6_isLocked_21 (by decide) ?_
    refine r_iald dX6_isLocked_22 hT.rz (i := 4) (rfl) (by omega) (by decide) ?_
    refine r_icmp_lt (tgt := 30) dX6_isLocked_23 (by decide) (fun c23 => ?_) (fun c23 => ?_)
    · refine r_iconst (v := 0) dX6_isLocked_30 (by decide) ?_
      exact r_zret dX6_isLocked_31 rfl ⟨(Nat.le_of_ble_eq_true rfl), (Nat.le_of_ble_eq_true rfl)⟩ (by first | rfl | decide) ⟨by first | (rw [tp_b_f (fun q => absurd q.1 (Int32.not_lt.mpr c7))]; done) | (rw [tp_b_f (fun q => absurd q.2 (Int32.not_le.mpr c23))]; done) | (rw [tp_b_t ⟨Int32.not_le.mp c7, Int32.not_lt.mp c23⟩]; done), rfl⟩
    · refine r_iconst (v := 1) dX6_isLocked_26 (by decide) ?_
      refine r_goto (tgt := 31) dX6_isLocked_27 (by decide) ?_
      exact r_zret dX6_isLocked_31 rfl ⟨(Nat.le_of_ble_eq_true rfl), (Nat.le_of_ble_eq_true rfl)⟩ (by first | rfl | decide) ⟨by first | (rw [tp_b_f (fun q => absurd q.1 (Int32.not_lt.mpr c7))]; done) | (rw [tp_b_f (fun q => absurd q.2 (Int32.not_le.mpr c23))]; done) | (rw [tp_b_t ⟨Int32.not_le.mp c7, Int32.not_lt.mp c23⟩]; done), rfl⟩

set_option maxRecDepth 100000 in
set_option maxHeartbeats 4000000 in
theorem M_rateOf {l : Launch} {G : tp_G} {y : Nat} {h0 h : tp_H} {z hi tx pa : Nat → Int32} {st len thr rd nu du : Int32} {hs : Int64} (hl : l.stackTraces = false) (hT0 : mm_S G y h0 z hi tx pa st len thr rd nu du hs h) {w c : Nat} (hw : w < 4) (hc : c < 4) : tp_Met l G mX6_rateOf 0 0 [.ref y, .int (nI w), .int (nI c)] h (tp_PR (.int (z_rate z w c)) h) tp_NX := by
  have hT := hT0.self
  refine tp_start (L0 := [some (.ref y), some (.int (nI w)), some (.int (nI c))]) (by decide) rfl hl (Nat.le_of_ble_eq_true rfl) rfl ?_
  refine r_iload2 dX6_rateOf_0 ?_
  refine r_if_ne (tgt := 10) dX6_rateOf_1 (by decide) (fun c1 => ?_) (fun c1 => ?_)
  · have e1 : ¬ c = 0 := fun q => c1 (by rw [q]; rfl)
    refine r_aload0 dX6_rateOf_10 ?_
    refine r_iload1 dX6_rateOf_11 ?_
    refine r_iload2 dX6_rateOf_12 ?_
    refine r_pV dX6_rateOf_13 v_X6_80 (M_isLocked hl hT hw hc) rfl (hT.ob) rfl rfl rfl (Nat.le_of_ble_eq_true rfl) ⟨(Nat.le_of_ble_eq_true rfl), (Nat.le_of_ble_eq_true rfl)⟩ ⟨(Nat.le_of_ble_eq_true rfl), (Nat.le_of_ble_eq_true rfl)⟩ ?_
    refine r_if_eq (tgt := 29) dX6_rateOf_16 (by decide) (fun c16 => ?_) (fun c16 => ?_)
    · refine r_aload0 dX6_rateOf_29 ?_
      refine r_getf dX6_rateOf_30 f_X6_7 (hT.ob) rfl ?_
      refine r_iconst (v := 4) dX6_rateOf_33 (by decide) ?_
      refine r_iload2 dX6_rateOf_34 ?_
      refine r_iadd dX6_rateOf_35 ?_
      refine r_iald dX6_rateOf_36 hT.rz (i := 4 + c) (tp_add 4 c) (by omega) (by decide) ?_
      exact r_iret dX6_rateOf_37 rfl ⟨(Nat.le_of_ble_eq_true rfl), (Nat.le_of_ble_eq_true rfl)⟩ ⟨by unfold z_rate; first | (rw [if_pos e1]; done) | (rw [if_neg e1, if_pos (tp_b_n c16)]; done) | (rw [if_neg e1, if_neg (tp_b_0.mp c16)]; done), rfl⟩
    · refine r_aload0 dX6_rateOf_19 ?_
      refine r_iload1 dX6_rateOf_20 ?_
      refine r_iload2 dX6_rateOf_21 ?_
      refine r_iconst (v := 2) dX6_rateOf_22 (by decide) ?_
      refine r_pV dX6_rateOf_23 v_X6_55 (M_of (w := w) (c := c) (j := 2) hl hT hw hc (by omega)) rfl (hT.ob) rfl rfl rfl (Nat.le_of_ble_eq_true rfl) ⟨(Nat.le_of_ble_eq_true rfl), (Nat.le_of_ble_eq_true rfl)⟩ ⟨(Nat.le_of_ble_eq_true rfl), (Nat.le_of_ble_eq_true rfl)⟩ ?_
      refine r_goto (tgt := 37) dX6_rateOf_26 (by decide) ?_
      exact r_iret dX6_rateOf_37 rfl ⟨(Nat.le_of_ble_eq_true rfl), (Nat.le_of_ble_eq_true rfl)⟩ ⟨by unfold z_rate; first | (rw [if_pos e1]; done) | (rw [if_neg e1, if_pos (tp_b_n c16)]; done) | (rw [if_neg e1, if_neg (tp_b_0.mp c16)]; done), rfl⟩
  · have e1 : c = 0 := by
      rw [show (0 : Int32) = nI 0 from rfl, tp_eq (by omega) (by omega)] at c1; exact c1
    refine r_sipush (v := 1000) dX6_rateOf_4 (by decide) ?_
    refine r_goto (tgt := 37) dX6_rateOf_7 (by decide) ?_
    exact r_iret dX6_rateOf_37 rfl ⟨(Nat.le_of_ble_eq_true rfl), (Nat.le_of_ble_eq_true rfl)⟩ ⟨by unfold z_rate; first | (rw [if_pos e1]; done) | (rw [if_neg e1, if_pos (tp_b_n c16)]; done) | (rw [if_neg e1, if_neg (tp_b_0.mp c16)]; done), rfl⟩

set_option maxRecDepth 100000 in
set_option maxHeartbeats 4000000 in
theorem M_given {l : Launch} {G : tp_G} {y : Nat} {h0 h : tp_H} {z hi tx pa : Nat → Int32} {st len thr rd nu du : Int32} {hs : Int64} (hl : l.stackTraces = false) (hT0 : mm_S G y h0 z hi tx pa st len thr rd nu du hs h) {w f t : Nat} {a : Int32} (hw : w < 4) (hf : f < 4) (ht : t < 4) (hr : ¬ (z_rate z w t).toInt64 = 0) : tp_Met l G mX6_given 0 0 [.ref y, .int (nI w), .int (nI f), .int (nI t), .int a] h (tp_PR (.int (z_given z w f t a)) h) tp_NX := by
  have hT := hT0.self
  refine tp_start (L0 := [some (.ref y), some (.int (nI w)), some (.int (nI f)), some (.int (nI t)), some (.int a)]) (by decide) rfl hl (Nat.le_of_ble_eq_true rfl) rfl ?_
  refine r_iload2 dX6_given_0 ?_
  refine r_if_ne (tgt := 23) dX6_given_1 (by decide) (fun c1 => ?_) (fun c1 => ?_)
  · have e1 : ¬ f = 0 := fun q => c1 (by rw [q]; rfl)
    refine r_iload4 dX6_given_23 ?_
    refine r_i2l dX6_given_25 ?_
    refine r_aload0 dX6_given_26 ?_
    refine r_iload1 dX6_given_27 ?_
    refine r_iload2 dX6_given_28 ?_
    refine r_pV dX6_given_29 v_X6_88 (M_rateOf hl hT hw hf) rfl (hT.ob) rfl rfl rfl (Nat.le_of_ble_eq_true rfl) ⟨(Nat.le_of_ble_eq_true rfl), (Nat.le_of_ble_eq_true rfl)⟩ ⟨(Nat.le_of_ble_eq_true rfl), (Nat.le_of_ble_eq_true rfl)⟩ ?_
    refine r_i2l dX6_given_32 ?_
    refine r_lmul dX6_given_33 ?_
    refine r_ldc2 dX6_given_34 c_X6_86 ?_
    refine r_ldiv dX6_given_37 (by decide) ?_
    refine r_l2i dX6_given_38 ?_
    exact r_iret dX6_given_39 rfl ⟨(Nat.le_of_ble_eq_true rfl), (Nat.le_of_ble_eq_true rfl)⟩ ⟨by unfold z_given; first | (rw [if_pos e1]; done) | (rw [if_neg e1]; done), rfl⟩
  · have e1 : f = 0 := by
      rw [show (0 : Int32) = nI 0 from rfl, tp_eq (by omega) (by omega)] at c1; exact c1
    refine r_ldc2 dX6_given_4 c_X6_86 ?_
    refine r_iload4 dX6_given_7 ?_
    refine r_i2l dX6_given_9 ?_
    refine r_lmul dX6_given_10 ?_
    refine r_aload0 dX6_given_11 ?_
    refine r_iload1 dX6_given_12 ?_
    refine r_iload3 dX6_given_13 ?_
    refine r_pV dX6_given_14 v_X6_88 (M_rateOf hl hT hw ht) rfl (hT.ob) rfl rfl rfl (Nat.le_of_ble_eq_true rfl) ⟨(Nat.le_of_ble_eq_true rfl), (Nat.le_of_ble_eq_true rfl)⟩ ⟨(Nat.le_of_ble_eq_true rfl), (Nat.le_of_ble_eq_true rfl)⟩ ?_
    refine r_i2l dX6_given_17 ?_
    refine r_ldiv dX6_given_18 hr ?_
    refine r_l2i dX6_given_19 ?_
    refine r_goto (tgt := 39) dX6_given_20 (by decide) ?_
    exact r_iret dX6_given_39 rfl ⟨(Nat.le_of_ble_eq_true rfl), (Nat.le_of_ble_eq_true rfl)⟩ ⟨by unfold z_given; first | (rw [if_pos e1]; done) | (rw [if_neg e1]; done), rfl⟩

set_option maxRecDepth 100000 in
set_option maxHeartbeats 4000000 in
theorem M_spreadOf {l : Launch} {G : tp_G} {y : Nat} {h0 h : tp_H} {z hi tx pa : Nat → Int32} {st len thr rd nu du : Int32} {hs : Int64} (hl : l.stackTraces = false) (hT0 : mm_S G y h0 z hi tx pa st len thr rd nu du hs h) {g : Int32} : tp_Met l G mX6_spreadOf 0 0 [.ref y, .int g] h (tp_PR (.int (z_spread z g)) h) tp_NX := by
  have hT := hT0.self
  refine tp_start (L0 := [some (.ref y), some (.int g)]) (by decide) rfl hl (Nat.le_of_ble_eq_true rfl) rfl ?_
  refine r_iload1 dX6_spreadOf_0 ?_
  refine r_i2l dX6_spreadOf_1 ?_
  refine r_aload0 dX6_spreadOf_2 ?_
  refine r_getf dX6_spreadOf_3 f_X6_7 (hT.ob) rfl ?_
  refine r_iconst (v := 1) dX6_spreadOf_6 (by decide) ?_
  refine r_iald dX6_spreadOf_7 hT.rz (i := 1) (rfl) (by omega) (by decide) ?_
  refine r_i2l dX6_spreadOf_8 ?_
  refine r_lmul dX6_spreadOf_9 ?_
  refine r_ldc2 dX6_spreadOf_10 c_X6_86 ?_
  refine r_ldiv dX6_spreadOf_13 (by decide) ?_
  refine r_l2i dX6_spreadOf_14 ?_
  exact r_iret dX6_spreadOf_15 rfl ⟨(Nat.le_of_ble_eq_true rfl), (Nat.le_of_ble_eq_true rfl)⟩ ⟨rfl, rfl⟩

set_option maxRecDepth 100000 in
set_option maxHeartbeats 4000000 in
theorem M_brings {l : Launch} {G : tp_G} {y : Nat} {h0 h : tp_H} {z hi tx pa : Nat → Int32} {st len thr rd nu du : Int32} {hs : Int64} (hl : l.stackTraces = false) (hT0 : mm_S G y h0 z hi tx pa st len thr rd nu du hs h) {w f t : Nat} {a : Int32} (hw : w < 4) (hf : f < 4) (ht : t < 4) (hr : ¬ (z_rate z w t).toInt64 = 0) : tp_Met l G mX6_brings 0 0 [.ref y, .int (nI w), .int (nI f), .int (nI t), .int a] h (tp_PR (.int (z_brings z w f t a)) h) tp_NX := by
  have hT := hT0.self
  refine tp_start (L0 := [some (.ref y), some (.int (nI w)), some (.int (nI f)), some (.int (nI t)), some (.int a), none]) (by decide) rfl hl (Nat.le_of_ble_eq_true rfl) rfl ?_
  refine r_aload0 dX6_brings_0 ?_
  refine r_iload1 dX6_brings_1 ?_
  refine r_iload2 dX6_brings_2 ?_
  refine r_iload3 dX6_brings_3 ?_
  refine r_iload4 dX6_brings_4 ?_
  refine r_pV dX6_brings_6 v_X6_91 (M_given hl hT hw hf ht hr) rfl (hT.ob) rfl rfl rfl (Nat.le_of_ble_eq_true rfl) ⟨(Nat.le_of_ble_eq_true rfl), (Nat.le_of_ble_eq_true rfl)⟩ ⟨(Nat.le_of_ble_eq_true rfl), (Nat.le_of_ble_eq_true rfl)⟩ ?_
  refine r_istore5 dX6_brings_9 (Nat.le_of_ble_eq_true rfl) rfl ?_
  refine r_iload5 dX6_brings_11 ?_
  refine r_aload0 dX6_brings_13 ?_
  refine r_iload5 dX6_brings_14 ?_
  refine r_pV dX6_brings_16 v_X6_95 (M_spreadOf hl hT) rfl (hT.ob) rfl rfl rfl (Nat.le_of_ble_eq_true rfl) ⟨(Nat.le_of_ble_eq_true rfl), (Nat.le_of_ble_eq_true rfl)⟩ ⟨(Nat.le_of_ble_eq_true rfl), (Nat.le_of_ble_eq_true rfl)⟩ ?_
  refine r_isub dX6_brings_19 ?_
  exact r_iret dX6_brings_20 rfl ⟨(Nat.le_of_ble_eq_true rfl), (Nat.le_of_ble_eq_true rfl)⟩ ⟨rfl, rfl⟩

set_option maxRecDepth 100000 in
set_option maxHeartbeats 4000000 in
theorem M_isWrongPair {l : Launch} {G : tp_G} {h : tp_H} (hl : l.stackTraces = false) {f t : Nat} (hf : f < 4) (ht : t < 4) : tp_Met l G mX6_isWrongPair 0 0 [.int (nI f), .int (nI t)] h (tp_PR (.int (tp_b (f = t ∨ (0 < f ∧ 0 < t)))) h) tp_NX := by
  have q1 := tp_eq (a := f) (b := t) (by omega) (by omega)
  have q2 := tp_le (a := f) (b := 0) (by omega) (by omega)
  have q3 := tp_le (a := t) (b := 0) (by omega) (by omega)
  refine tp_start (L0 := [some (.int (nI f)), some (.int (nI t))]) (by decide) rfl hl (Nat.le_of_ble_eq_true rfl) rfl ?_
  refine r_iload0 dX6_isWrongPair_0 ?_
  refine r_iload1 dX6_isWrongPair_1 ?_
  refine r_icmp_eq (tgt := 13) dX6_isWrongPair_2 (by decide) (fun c2 => ?_) (fun c2 => ?_)
  · refine r_iconst (v := 1) dX6_isWrongPair_13 (by decide) ?_
    refine r_goto (tgt := 18) dX6_isWrongPair_14 (by decide) ?_
    exact r_zret dX6_isWrongPair_18 rfl ⟨(Nat.le_of_ble_eq_true rfl), (Nat.le_of_ble_eq_true rfl)⟩ (by first | rfl | decide) ⟨by first | (rw [tp_b_t (Or.inl (q1.mp c2))]; done) | (rw [tp_b_t (Or.inr ⟨by have := mt q2.mpr c6; omega, by have := mt q3.mpr c10; omega⟩)]; done) | (rw [tp_b_f (by have := mt q1.mpr c2; have := q2.mp c6; omega)]; done) | (rw [tp_b_f (by have := mt q1.mpr c2; have := q3.mp c10; omega)]; done), rfl⟩
  · refine r_iload0 dX6_isWrongPair_5 ?_
    refine r_if_le (tgt := 17) dX6_isWrongPair_6 (by decide) (fun c6 => ?_) (fun c6 => ?_)
    · refine r_iconst (v := 0) dX6_isWrongPair_17 (by decide) ?_
      exact r_zret dX6_isWrongPair_18 rfl ⟨(Nat.le_of_ble_eq_true rfl), (Nat.le_of_ble_eq_true rfl)⟩ (by first | rfl | decide) ⟨by first | (rw [tp_b_t (Or.inl (q1.mp c2))]; done) | (rw [tp_b_t (Or.inr ⟨by have := mt q2.mpr c6; omega, by have := mt q3.mpr c10; omega⟩)]; done) | (rw [tp_b_f (by have := mt q1.mpr c2; have := q2.mp c6; omega)]; done) | (rw [tp_b_f (by have := mt q1.mpr c2; have := q3.mp c10; omega)]; done), rfl⟩
    · refine r_iload1 dX6_isWrongPair_9 ?_
      refine r_if_le (tgt := 17) dX6_isWrongPair_10 (by decide) (fun c10 => ?_) (fun c10 => ?_)
      · refine r_iconst (v := 0) dX6_isWrongPair_17 (by decide) ?_
        exact r_zret dX6_isWrongPair_18 rfl ⟨(Nat.le_of_ble_eq_true rfl), (Nat.le_of_ble_eq_true rfl)⟩ (by first | rfl | decide) ⟨by first | (rw [tp_b_t (Or.inl (q1.mp c2))]; done) | (rw [tp_b_t (Or.inr ⟨by have := mt q2.mpr c6; omega, by have := mt q3.mpr c10; omega⟩)]; done) | (rw [tp_b_f (by have := mt q1.mpr c2; have := q2.mp c6; omega)]; done) | (rw [tp_b_f (by have := mt q1.mpr c2; have := q3.mp c10; omega)]; done), rfl⟩
      · refine r_iconst (v := 1) dX6_isWrongPair_13 (by decide) ?_
        refine r_goto (tgt := 18) dX6_isWrongPair_14 (by decide) ?_
        exact r_zret dX6_isWrongPair_18 rfl ⟨(Nat.le_of_ble_eq_true rfl), (Nat.le_of_ble_eq_true rfl)⟩ (by first | rfl | decide) ⟨by first | (rw [tp_b_t (Or.inl (q1.mp c2))]; done) | (rw [tp_b_t (Or.inr ⟨by have := mt q2.mpr c6; omega, by have := mt q3.mpr c10; omega⟩)]; done) | (rw [tp_b_f (by have := mt q1.mpr c2; have := q2.mp c6; omega)]; done) | (rw [tp_b_f (by have := mt q1.mpr c2; have := q3.mp c10; omega)]; done), rfl⟩

set_option maxRecDepth 100000 in
set_option maxHeartbeats 4000000 in
theorem M_whyNoExchange {l : Launch} {G : tp_G} {y : Nat} {h0 h : tp_H} {z hi tx pa : Nat → Int32} {st len thr rd nu du : Int32} {hs : Int64} (hl : l.stackTraces = false) (hT0 : mm_S G y h0 z hi tx pa st len thr rd nu du hs h) {w f t N : Nat} {a : Int32} (hw : w < 4) (hf : f < 4) (ht : t < 4) (hz8 : z 8 = nI N) (hN : N ≤ 8) : tp_Met l G mX6_whyNoExchange 0 0 [.ref y, .int (nI w), .int (nI f), .int (nI t), .int a] h (tp_PR (.int (z_whyEx z w f t a)) h) tp_NX := by
  have hT := hT0.self
  refine tp_start (L0 := [some (.ref y), some (.int (nI w)), some (.int (nI f)), some (.int (nI t)), some (.int a)]) (by decide) rfl hl (Nat.le_of_ble_eq_true rfl) rfl ?_
  refine r_iload2 dX6_whyNoExchange_0 ?_
  refine r_iload3 dX6_whyNoExchange_1 ?_
  refine r_pS dX6_whyNoExchange_2 v_X6_99 (M_isWrongPair hl hf ht) rfl rfl rfl (Nat.le_of_ble_eq_true rfl) ⟨(Nat.le_of_ble_eq_true rfl), (Nat.le_of_ble_eq_true rfl)⟩ ⟨(Nat.le_of_ble_eq_true rfl), (Nat.le_of_ble_eq_true rfl)⟩ ?_
  refine r_if_eq (tgt := 12) dX6_whyNoExchange_5 (by decide) (fun c5 => ?_) (fun c5 => ?_)
  · refine r_aload0 dX6_whyNoExchange_12 ?_
    refine r_iload1 dX6_whyNoExchange_13 ?_
    refine r_iload2 dX6_whyNoExchange_14 ?_
    refine r_pV dX6_whyNoExchange_15 v_X6_102 (M_freeOf hl hT hw hf hz8 hN) rfl (hT.ob) rfl rfl rfl (Nat.le_of_ble_eq_true rfl) ⟨(Nat.le_of_ble_eq_true rfl), (Nat.le_of_ble_eq_true rfl)⟩ ⟨(Nat.le_of_ble_eq_true rfl), (Nat.le_of_ble_eq_true rfl)⟩ ?_
    refine r_iload4 dX6_whyNoExchange_18 ?_
    refine r_icmp_ge (tgt := 27) dX6_whyNoExchange_20 (by decide) (fun c20 => ?_) (fun c20 => ?_)
    · refine r_iconst (v := 0) dX6_whyNoExchange_27 (by decide) ?_
      exact r_iret dX6_whyNoExchange_28 rfl ⟨(Nat.le_of_ble_eq_true rfl), (Nat.le_of_ble_eq_true rfl)⟩ ⟨by unfold z_whyEx; first | (rw [if_pos (tp_b_n c5)]; done) | (rw [if_neg (tp_b_0.mp c5), if_neg (Int32.not_lt.mpr c20)]; done) | (rw [if_neg (tp_b_0.mp c5), if_pos (Int32.not_le.mp c20)]; done), rfl⟩
    · refine r_iconst (v := 2) dX6_whyNoExchange_23 (by decide) ?_
      refine r_goto (tgt := 28) dX6_whyNoExchange_24 (by decide) ?_
      exact r_iret dX6_whyNoExchange_28 rfl ⟨(Nat.le_of_ble_eq_true rfl), (Nat.le_of_ble_eq_true rfl)⟩ ⟨by unfold z_whyEx; first | (rw [if_pos (tp_b_n c5)]; done) | (rw [if_neg (tp_b_0.mp c5), if_neg (Int32.not_lt.mpr c20)]; done) | (rw [if_neg (tp_b_0.mp c5), if_pos (Int32.not_le.mp c20)]; done), rfl⟩
  · refine r_iconst (v := 1) dX6_whyNoExchange_8 (by decide) ?_
    refine r_goto (tgt := 28) dX6_whyNoExchange_9 (by decide) ?_
    exact r_iret dX6_whyNoExchange_28 rfl ⟨(Nat.le_of_ble_eq_true rfl), (Nat.le_of_ble_eq_true rfl)⟩ ⟨by unfold z_whyEx; first | (rw [if_pos (tp_b_n c5)]; done) | (rw [if_neg (tp_b_0.mp c5), if_neg (Int32.not_lt.mpr c20)]; done) | (rw [if_neg (tp_b_0.mp c5), if_pos (Int32.not_le.mp c20)]; done), rfl⟩

set_option maxRecDepth 100000 in
set_option maxHeartbeats 4000000 in
theorem M_exchanges {l : Launch} {G : tp_G} {y : Nat} {h0 h : tp_H} {z hi tx pa : Nat → Int32} {st len thr rd nu du : Int32} {hs : Int64} (hl : l.stackTraces = false) (hT0 : mm_S G y h0 z hi tx pa st len thr rd nu du hs h) {w f t : Nat} {a : Int32} (hw : w < 4) (hf : f < 4) (ht : t < 4) (hr : ¬ (z_rate z w t).toInt64 = 0) : tp_Met l G mX6_exchanges 0 0 [.ref y, .int (nI w), .int (nI f), .int (nI t), .int a] h (tp_PS (some (.int (z_brings z w f t a))) (fun h1 => mm_S G y h (z_ex z w f t a) hi tx pa st len thr rd nu du hs h1)) tp_NX := by
  have hT := hT0.self
  refine tp_start (L0 := [some (.ref y), some (.int (nI w)), some (.int (nI f)), some (.int (nI t)), some (.int a), none, none]) (by decide) rfl hl (Nat.le_of_ble_eq_true rfl) rfl ?_
  refine r_aload0 dX6_exchanges_0 ?_
  refine r_iload1 dX6_exchanges_1 ?_
  refine r_iload2 dX6_exchanges_2 ?_
  refine r_iload3 dX6_exchanges_3 ?_
  refine r_iload4 dX6_exchanges_4 ?_
  refine r_pV dX6_exchanges_6 v_X6_91 (M_given hl hT hw hf ht hr) rfl (hT.ob) rfl rfl rfl (Nat.le_of_ble_eq_true rfl) ⟨(Nat.le_of_ble_eq_true rfl), (Nat.le_of_ble_eq_true rfl)⟩ ⟨(Nat.le_of_ble_eq_true rfl), (Nat.le_of_ble_eq_true rfl)⟩ ?_
  refine r_istore5 dX6_exchanges_9 (Nat.le_of_ble_eq_true rfl) rfl ?_
  refine r_aload0 dX6_exchanges_11 ?_
  refine r_iload5 dX6_exchanges_12 ?_
  refine r_pV dX6_exchanges_14 v_X6_95 (M_spreadOf hl hT) rfl (hT.ob) rfl rfl rfl (Nat.le_of_ble_eq_true rfl) ⟨(Nat.le_of_ble_eq_true rfl), (Nat.le_of_ble_eq_true rfl)⟩ ⟨(Nat.le_of_ble_eq_true rfl), (Nat.le_of_ble_eq_true rfl)⟩ ?_
  refine r_istore6 dX6_exchanges_17 (Nat.le_of_ble_eq_true rfl) rfl ?_
  refine r_aload0 dX6_exchanges_19 ?_
  refine r_getf dX6_exchanges_20 f_X6_7 (hT.ob) rfl ?_
  refine r_iload1 dX6_exchanges_23 ?_
  refine r_iload2 dX6_exchanges_24 ?_
  refine r_pS dX6_exchanges_25 v_X6_45 (M_at (w := w) (c := f) hl) rfl rfl rfl (Nat.le_of_ble_eq_true rfl) ⟨(Nat.le_of_ble_eq_true rfl), (Nat.le_of_ble_eq_true rfl)⟩ ⟨(Nat.le_of_ble_eq_true rfl), (Nat.le_of_ble_eq_true rfl)⟩ ?_
  refine r_iconst (v := 0) dX6_exchanges_28 (by decide) ?_
  refine r_iadd dX6_exchanges_29 ?_
  refine r_dup2 dX6_exchanges_30 rfl rfl ?_
  refine r_iald dX6_exchanges_31 hT.rz (i := z_at w f + 0) (tp_add _ 0) (by unfold z_at; omega) (by decide) ?_
  refine r_iload4 dX6_exchanges_32 ?_
  refine r_isub dX6_exchanges_34 ?_
  refine mm_st_z dX6_exchanges_35 hT (i := z_at w f + 0) (tp_add _ 0) (by unfold z_at; omega) (fun h1 hT => ?_)
  refine r_aload0 dX6_exchanges_36 ?_
  refine r_iload1 dX6_exchanges_37 ?_
  refine r_iload3 dX6_exchanges_38 ?_
  refine r_iload5 dX6_exchanges_39 ?_
  refine r_iload6 dX6_exchanges_41 ?_
  refine r_isub dX6_exchanges_43 ?_
  refine r_sV0 dX6_exchanges_44 v_X6_76 (M_comeIn hl hT hw ht) rfl (hT.ob) rfl rfl rfl (Nat.le_of_ble_eq_true rfl) ⟨(Nat.le_of_ble_eq_true rfl), (Nat.le_of_ble_eq_true rfl)⟩ ⟨(Nat.le_of_ble_eq_true rfl), (Nat.le_of_ble_eq_true rfl)⟩ (fun h1 hP => ?_)
  have hT := hT.trans hP
  refine r_aload0 dX6_exchanges_47 ?_
  refine r_getf dX6_exchanges_48 f_X6_7 (hT.ob) rfl ?_
  refine r_bipush (v := 12) dX6_exchanges_51 (by decide) ?_
  refine r_dup2 dX6_exchanges_53 rfl rfl ?_
  refine r_iald dX6_exchanges_54 hT.rz (i := 12) (rfl) (by omega) (by decide) ?_
  refine r_iconst (v := 1) dX6_exchanges_55 (by decide) ?_
  refine r_iadd dX6_exchanges_56 ?_
  refine mm_st_z dX6_exchanges_57 hT (i := 12) (rfl) (by omega) (fun h1 hT => ?_)
  refine r_aload0 dX6_exchanges_58 ?_
  refine r_getf dX6_exchanges_59 f_X6_7 (hT.ob) rfl ?_
  refine r_iload3 dX6_exchanges_62 ?_
  refine r_if_ne (tgt := 71) dX6_exchanges_63 (by decide) (fun c63 => ?_) (fun c63 => ?_)
  · have e1 : ¬ t = 0 := fun q => c63 (by rw [q]; rfl)
    have e2 : (if t = 0 then 13 else 14 : Nat) = 14 := if_neg e1
    refine r_bipush (v := 14) dX6_exchanges_71 (by decide) ?_
    refine r_dup2 dX6_exchanges_73 rfl rfl ?_
    first | (refine r_iald dX6_exchanges_74 hT.rz (i := 13) rfl (by omega) (by decide) ?_) | (refine r_iald dX6_exchanges_74 hT.rz (i := 14) rfl (by omega) (by decide) ?_)
    refine r_iload6 dX6_exchanges_75 ?_
    refine r_iadd dX6_exchanges_77 ?_
    first | (refine mm_st_z dX6_exchanges_78 hT (i := 13) rfl (by omega) (fun h1 hT => ?_)) | (refine mm_st_z dX6_exchanges_78 hT (i := 14) rfl (by omega) (fun h1 hT => ?_))
    refine r_iload5 dX6_exchanges_79 ?_
    refine r_iload6 dX6_exchanges_81 ?_
    refine r_isub dX6_exchanges_83 ?_
    exact r_iret dX6_exchanges_84 rfl ⟨(Nat.le_of_ble_eq_true rfl), (Nat.le_of_ble_eq_true rfl)⟩ ⟨rfl, by unfold z_ex; simp only []; rw [e2]; exact hT⟩
  · have e1 : t = 0 := by
      rw [show (0 : Int32) = nI 0 from rfl, tp_eq (by omega) (by omega)] at c63; exact c63
    have e2 : (if t = 0 then 13 else 14 : Nat) = 13 := if_pos e1
    refine r_bipush (v := 13) dX6_exchanges_66 (by decide) ?_
    refine r_goto (tgt := 73) dX6_exchanges_68 (by decide) ?_
    refine r_dup2 dX6_exchanges_73 rfl rfl ?_
    first | (refine r_iald dX6_exchanges_74 hT.rz (i := 13) rfl (by omega) (by decide) ?_) | (refine r_iald dX6_exchanges_74 hT.rz (i := 14) rfl (by omega) (by decide) ?_)
    refine r_iload6 dX6_exchanges_75 ?_
    refine r_iadd dX6_exchanges_77 ?_
    first | (refine mm_st_z dX6_exchanges_78 hT (i := 13) rfl (by omega) (fun h1 hT => ?_)) | (refine mm_st_z dX6_exchanges_78 hT (i := 14) rfl (by omega) (fun h1 hT => ?_))
    refine r_iload5 dX6_exchanges_79 ?_
    refine r_iload6 dX6_exchanges_81 ?_
    refine r_isub dX6_exchanges_83 ?_
    exact r_iret dX6_exchanges_84 rfl ⟨(Nat.le_of_ble_eq_true rfl), (Nat.le_of_ble_eq_true rfl)⟩ ⟨rfl, by unfold z_ex; simp only []; rw [e2]; exact hT⟩

set_option maxRecDepth 100000 in
set_option maxHeartbeats 4000000 in
theorem M_withTip {l : Launch} {G : tp_G} {y : Nat} {h0 h : tp_H} {z hi tx pa : Nat → Int32} {st len thr rd nu du : Int32} {hs : Int64} (hl : l.stackTraces = false) (hT0 : mm_S G y h0 z hi tx pa st len thr rd nu du hs h) {a : Int32} : tp_Met l G mX6_withTip 0 0 [.ref y, .int a] h (tp_PR (.int (z_tip z a)) h) tp_NX := by
  have hT := hT0.self
  refine tp_start (L0 := [some (.ref y), some (.int a)]) (by decide) rfl hl (Nat.le_of_ble_eq_true rfl) rfl ?_
  refine r_iload1 dX6_withTip_0 ?_
  refine r_iload1 dX6_withTip_1 ?_
  refine r_aload0 dX6_withTip_2 ?_
  refine r_getf dX6_withTip_3 f_X6_7 (hT.ob) rfl ?_
  refine r_iconst (v := 2) dX6_withTip_6 (by decide) ?_
  refine r_iald dX6_withTip_7 hT.rz (i := 2) (rfl) (by omega) (by decide) ?_
  refine r_imul dX6_withTip_8 ?_
  refine r_bipush (v := 100) dX6_withTip_9 (by decide) ?_
  refine r_idiv dX6_withTip_11 (by decide) ?_
  refine r_iadd dX6_withTip_12 ?_
  exact r_iret dX6_withTip_13 rfl ⟨(Nat.le_of_ble_eq_true rfl), (Nat.le_of_ble_eq_true rfl)⟩ ⟨rfl, rfl⟩

set_option maxRecDepth 100000 in
set_option maxHeartbeats 4000000 in
theorem M_whyNoHold {l : Launch} {G : tp_G} {y : Nat} {h0 h : tp_H} {z hi tx pa : Nat → Int32} {st len thr rd nu du : Int32} {hs : Int64} (hl : l.stackTraces = false) (hT0 : mm_S G y h0 z hi tx pa st len thr rd nu du hs h) {w c N : Nat} {a : Int32} (hw : w < 4) (hc : c < 4) (hz8 : z 8 = nI N) (hN : N ≤ 8) : tp_Met l G mX6_whyNoHold 0 0 [.ref y, .int (nI w), .int (nI c), .int a] h (tp_PR (.int (z_whyHold z w c a)) h) tp_NX := by
  have hT := hT0.self
  refine tp_start (L0 := [some (.ref y), some (.int (nI w)), some (.int (nI c)), some (.int a)]) (by decide) rfl hl (Nat.le_of_ble_eq_true rfl) rfl ?_
  refine r_aload0 dX6_whyNoHold_0 ?_
  refine r_iload1 dX6_whyNoHold_1 ?_
  refine r_iload2 dX6_whyNoHold_2 ?_
  refine r_pV dX6_whyNoHold_3 v_X6_102 (M_freeOf hl hT hw hc hz8 hN) rfl (hT.ob) rfl rfl rfl (Nat.le_of_ble_eq_true rfl) ⟨(Nat.le_of_ble_eq_true rfl), (Nat.le_of_ble_eq_true rfl)⟩ ⟨(Nat.le_of_ble_eq_true rfl), (Nat.le_of_ble_eq_true rfl)⟩ ?_
  refine r_aload0 dX6_whyNoHold_6 ?_
  refine r_iload3 dX6_whyNoHold_7 ?_
  refine r_pV dX6_whyNoHold_8 v_X6_111 (M_withTip hl hT) rfl (hT.ob) rfl rfl rfl (Nat.le_of_ble_eq_true rfl) ⟨(Nat.le_of_ble_eq_true rfl), (Nat.le_of_ble_eq_true rfl)⟩ ⟨(Nat.le_of_ble_eq_true rfl), (Nat.le_of_ble_eq_true rfl)⟩ ?_
  refine r_icmp_ge (tgt := 18) dX6_whyNoHold_11 (by decide) (fun c11 => ?_) (fun c11 => ?_)
  · refine r_aload0 dX6_whyNoHold_18 ?_
    refine r_getf dX6_whyNoHold_19 f_X6_7 (hT.ob) rfl ?_
    refine r_bipush (v := 8) dX6_whyNoHold_22 (by decide) ?_
    refine r_iald dX6_whyNoHold_24 hT.rz (i := 8) (rfl) (by omega) (by decide) ?_
    refine r_bipush (v := 8) dX6_whyNoHold_25 (by decide) ?_
    refine r_icmp_ne (tgt := 34) dX6_whyNoHold_27 (by decide) (fun c27 => ?_) (fun c27 => ?_)
    · refine r_iconst (v := 0) dX6_whyNoHold_34 (by decide) ?_
      exact r_iret dX6_whyNoHold_35 rfl ⟨(Nat.le_of_ble_eq_true rfl), (Nat.le_of_ble_eq_true rfl)⟩ ⟨by unfold z_whyHold; first | (rw [if_pos (Int32.not_le.mp c11)]; done) | (rw [if_neg (Int32.not_lt.mpr c11), if_neg c27]; done) | (rw [if_neg (Int32.not_lt.mpr c11), if_pos (by first | exact c27 | (by_cases q : z 8 = 8; exact q; exact absurd q c27))]; done), rfl⟩
    · refine r_iconst (v := 3) dX6_whyNoHold_30 (by decide) ?_
      refine r_goto (tgt := 35) dX6_whyNoHold_31 (by decide) ?_
      exact r_iret dX6_whyNoHold_35 rfl ⟨(Nat.le_of_ble_eq_true rfl), (Nat.le_of_ble_eq_true rfl)⟩ ⟨by unfold z_whyHold; first | (rw [if_pos (Int32.not_le.mp c11)]; done) | (rw [if_neg (Int32.not_lt.mpr c11), if_neg c27]; done) | (rw [if_neg (Int32.not_lt.mpr c11), if_pos (by first | exact c27 | (by_cases q : z 8 = 8; exact q; exact absurd q c27))]; done), rfl⟩
  · refine r_iconst (v := 2) dX6_whyNoHold_14 (by decide) ?_
    refine r_goto (tgt := 35) dX6_whyNoHold_15 (by decide) ?_
    exact r_iret dX6_whyNoHold_35 rfl ⟨(Nat.le_of_ble_eq_true rfl), (Nat.le_of_ble_eq_true rfl)⟩ ⟨by unfold z_whyHold; first | (rw [if_pos (Int32.not_le.mp c11)]; done) | (rw [if_neg (Int32.not_lt.mpr c11), if_neg c27]; done) | (rw [if_neg (Int32.not_lt.mpr c11), if_pos (by first | exact c27 | (by_cases q : z 8 = 8; exact q; exact absurd q c27))]; done), rfl⟩

