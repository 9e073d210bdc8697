set_option maxRecDepth 100000 in
set_option maxHeartbeats 4000000 in
theorem M_within {l : Launch} {G : tp_G} {h : tp_H} (hl : l.stackTraces = false) {v a b : Int32} : tp_Met l G mX6_within 0 0 [.int v, .int a, .int b] h (tp_PR (.int (tp_b (a ≤ v ∧ v ≤ b))) h) tp_NX := by
  refine tp_start (L0 := [some (.int v), some (.int a), some (.int b)]) (by decide) rfl hl (Nat.le_of_ble_eq_true rfl) rfl ?_
  refine r_iload0 dX6_within_0 ?_
  refine r_iload1 dX6_within_1 ?_
  refine r_icmp_lt (tgt := 14) dX6_within_2 (by decide) (fun c2 => ?_) (fun c2 => ?_)
  · refine r_iconst (v := 0) dX6_within_14 (by decide) ?_
    exact r_zret dX6_within_15 rfl ⟨(Nat.le_of_ble_eq_true rfl), (Nat.le_of_ble_eq_true rfl)⟩ (by first | rfl | decide) ⟨by first | (rw [tp_b_f (fun q => absurd q.1 (Int32.not_le.mpr c2))]; done) | (rw [tp_b_f (fun q => absurd q.2 (Int32.not_le.mpr c7))]; done) | (rw [tp_b_t ⟨Int32.not_lt.mp c2, Int32.not_lt.mp c7⟩]; done), rfl⟩
  · refine r_iload0 dX6_within_5 ?_
    refine r_iload2 dX6_within_6 ?_
    refine r_icmp_gt (tgt := 14) dX6_within_7 (by decide) (fun c7 => ?_) (fun c7 => ?_)
    · refine r_iconst (v := 0) dX6_within_14 (by decide) ?_
      exact r_zret dX6_within_15 rfl ⟨(Nat.le_of_ble_eq_true rfl), (Nat.le_of_ble_eq_true rfl)⟩ (by first | rfl | decide) ⟨by first | (rw [tp_b_f (fun q => absurd q.1 (Int32.not_le.mpr c2))]; done) | (rw [tp_b_f (fun q => absurd q.2 (Int32.not_le.mpr c7))]; done) | (rw [tp_b_t ⟨Int32.not_lt.mp c2, Int32.not_lt.mp c7⟩]; done), rfl⟩
    · refine r_iconst (v := 1) dX6_within_10 (by decide) ?_
      refine r_goto (tgt := 15) dX6_within_11 (by decide) ?_
      exact r_zret dX6_within_15 rfl ⟨(Nat.le_of_ble_eq_true rfl), (Nat.le_of_ble_eq_true rfl)⟩ (by first | rfl | decide) ⟨by first | (rw [tp_b_f (fun q => absurd q.1 (Int32.not_le.mpr c2))]; done) | (rw [tp_b_f (fun q => absurd q.2 (Int32.not_le.mpr c7))]; done) | (rw [tp_b_t ⟨Int32.not_lt.mp c2, Int32.not_lt.mp c7⟩]; done), rfl⟩

set_option maxRecDepth 100000 in
set_option maxHeartbeats 4000000 in
theorem M_isWallet {l : Launch} {G : tp_G} {h : tp_H} (hl : l.stackTraces = false) {v : Int32} : tp_Met l G mX6_isWallet 0 0 [.int v] h (tp_PR (.int (tp_b (0 ≤ v ∧ v ≤ 3))) h) tp_NX := by
  refine tp_start (L0 := [some (.int v)]) (by decide) rfl hl (Nat.le_of_ble_eq_true rfl) rfl ?_
  refine r_iload0 dX6_isWallet_0 ?_
  refine r_iconst (v := 0) dX6_isWallet_1 (by decide) ?_
  refine r_iconst (v := 3) dX6_isWallet_2 (by decide) ?_
  refine r_pS dX6_isWallet_3 v_X6_29 (M_within hl) rfl rfl rfl (Nat.le_of_ble_eq_true rfl) ⟨(Nat.le_of_ble_eq_true rfl), (Nat.le_of_ble_eq_true rfl)⟩ ⟨(Nat.le_of_ble_eq_true rfl), (Nat.le_of_ble_eq_true rfl)⟩ ?_
  exact r_zret dX6_isWallet_6 rfl ⟨(Nat.le_of_ble_eq_true rfl), (Nat.le_of_ble_eq_true rfl)⟩ tp_b_z ⟨rfl, rfl⟩

set_option maxRecDepth 100000 in
set_option maxHeartbeats 4000000 in
theorem M_isCurrency {l : Launch} {G : tp_G} {h : tp_H} (hl : l.stackTraces = false) {v : Int32} : tp_Met l G mX6_isCurrency 0 0 [.int v] h (tp_PR (.int (tp_b (0 ≤ v ∧ v ≤ 3))) h) tp_NX := by
  refine tp_start (L0 := [some (.int v)]) (by decide) rfl hl (Nat.le_of_ble_eq_true rfl) rfl ?_
  refine r_iload0 dX6_isCurrency_0 ?_
  refine r_iconst (v := 0) dX6_isCurrency_1 (by decide) ?_
  refine r_iconst (v := 3) dX6_isCurrency_2 (by decide) ?_
  refine r_pS dX6_isCurrency_3 v_X6_29 (M_within hl) rfl rfl rfl (Nat.le_of_ble_eq_true rfl) ⟨(Nat.le_of_ble_eq_true rfl), (Nat.le_of_ble_eq_true rfl)⟩ ⟨(Nat.le_of_ble_eq_true rfl), (Nat.le_of_ble_eq_true rfl)⟩ ?_
  exact r_zret dX6_isCurrency_6 rfl ⟨(Nat.le_of_ble_eq_true rfl), (Nat.le_of_ble_eq_true rfl)⟩ tp_b_z ⟨rfl, rfl⟩

set_option maxRecDepth 100000 in
set_option maxHeartbeats 4000000 in
theorem M_isMoney {l : Launch} {G : tp_G} {h : tp_H} (hl : l.stackTraces = false) {v : Int32} : tp_Met l G mX6_isMoney 0 0 [.int v] h (tp_PR (.int (tp_b (1 ≤ v ∧ v ≤ 99999))) h) tp_NX := by
  refine tp_start (L0 := [some (.int v)]) (by decide) rfl hl (Nat.le_of_ble_eq_true rfl) rfl ?_
  refine r_iload0 dX6_isMoney_0 ?_
  refine r_iconst (v := 1) dX6_isMoney_1 (by decide) ?_
  refine r_ldc dX6_isMoney_2 c_X6_44 ?_
  refine r_pS dX6_isMoney_4 v_X6_29 (M_within hl) rfl rfl rfl (Nat.le_of_ble_eq_true rfl) ⟨(Nat.le_of_ble_eq_true rfl), (Nat.le_of_ble_eq_true rfl)⟩ ⟨(Nat.le_of_ble_eq_true rfl), (Nat.le_of_ble_eq_true rfl)⟩ ?_
  exact r_zret dX6_isMoney_7 rfl ⟨(Nat.le_of_ble_eq_true rfl), (Nat.le_of_ble_eq_true rfl)⟩ tp_b_z ⟨rfl, rfl⟩

set_option maxRecDepth 100000 in
set_option maxHeartbeats 4000000 in
theorem M_isSetting {l : Launch} {G : tp_G} {h : tp_H} (hl : l.stackTraces = false) {v : Int32} : tp_Met l G mX6_isSetting 0 0 [.int v] h (tp_PR (.int (tp_b (0 ≤ v ∧ v ≤ 3))) h) tp_NX := by
  refine tp_start (L0 := [some (.int v)]) (by decide) rfl hl (Nat.le_of_ble_eq_true rfl) rfl ?_
  refine r_iload0 dX6_isSetting_0 ?_
  refine r_iconst (v := 0) dX6_isSetting_1 (by decide) ?_
  refine r_iconst (v := 3) dX6_isSetting_2 (by decide) ?_
  refine r_pS dX6_isSetting_3 v_X6_29 (M_within hl) rfl rfl rfl (Nat.le_of_ble_eq_true rfl) ⟨(Nat.le_of_ble_eq_true rfl), (Nat.le_of_ble_eq_true rfl)⟩ ⟨(Nat.le_of_ble_eq_true rfl), (Nat.le_of_ble_eq_true rfl)⟩ ?_
  exact r_zret dX6_isSetting_6 rfl ⟨(Nat.le_of_ble_eq_true rfl), (Nat.le_of_ble_eq_true rfl)⟩ tp_b_z ⟨rfl, rfl⟩

set_option maxRecDepth 100000 in
set_option maxHeartbeats 4000000 in
theorem M_isPurse {l : Launch} {G : tp_G} {h : tp_H} (hl : l.stackTraces = false) {v u : Int32} : tp_Met l G mX6_isPurse 0 0 [.int v, .int u] h (tp_PR (.int (tp_b ((0 ≤ v ∧ v ≤ 3) ∧ (0 ≤ u ∧ u ≤ 3)))) h) tp_NX := by
  refine tp_start (L0 := [some (.int v), some (.int u)]) (by decide) rfl hl (Nat.le_of_ble_eq_true rfl) rfl ?_
  refine r_iload0 dX6_isPurse_0 ?_
  refine r_pS dX6_isPurse_1 v_X6_33 (M_isWallet hl) rfl rfl rfl (Nat.le_of_ble_eq_true rfl) ⟨(Nat.le_of_ble_eq_true rfl), (Nat.le_of_ble_eq_true rfl)⟩ ⟨(Nat.le_of_ble_eq_true rfl), (Nat.le_of_ble_eq_true rfl)⟩ ?_
  refine r_if_eq (tgt := 18) dX6_isPurse_4 (by decide) (fun c4 => ?_) (fun c4 => ?_)
  · refine r_iconst (v := 0) dX6_isPurse_18 (by decide) ?_
    exact r_zret dX6_isPurse_19 rfl ⟨(Nat.le_of_ble_eq_true rfl), (Nat.le_of_ble_eq_true rfl)⟩ (by first | rfl | decide) ⟨by first | (rw [tp_b_f (fun q => (tp_b_0.mp c4) q.1)]; done) | (rw [tp_b_f (fun q => (tp_b_0.mp c11) q.2)]; done) | (rw [tp_b_t ⟨tp_b_n c4, tp_b_n c11⟩]; done), rfl⟩
  · refine r_iload1 dX6_isPurse_7 ?_
    refine r_pS dX6_isPurse_8 v_X6_37 (M_isCurrency hl) rfl rfl rfl (Nat.le_of_ble_eq_true rfl) ⟨(Nat.le_of_ble_eq_true rfl), (Nat.le_of_ble_eq_true rfl)⟩ ⟨(Nat.le_of_ble_eq_true rfl), (Nat.le_of_ble_eq_true rfl)⟩ ?_
    refine r_if_eq (tgt := 18) dX6_isPurse_11 (by decide) (fun c11 => ?_) (fun c11 => ?_)
    · refine r_iconst (v := 0) dX6_isPurse_18 (by decide) ?_
      exact r_zret dX6_isPurse_19 rfl ⟨(Nat.le_of_ble_eq_true rfl), (Nat.le_of_ble_eq_true rfl)⟩ (by first | rfl | decide) ⟨by first | (rw [tp_b_f (fun q => (tp_b_0.mp c4) q.1)]; done) | (rw [tp_b_f (fun q => (tp_b_0.mp c11) q.2)]; done) | (rw [tp_b_t ⟨tp_b_n c4, tp_b_n c11⟩]; done), rfl⟩
    · refine r_iconst (v := 1) dX6_isPurse_14 (by decide) ?_
      refine r_goto (tgt := 19) dX6_isPurse_15 (by decide) ?_
      exact r_zret dX6_isPurse_19 rfl ⟨(Nat.le_of_ble_eq_true rfl), (Nat.le_of_ble_eq_true rfl)⟩ (by first | rfl | decide) ⟨by first | (rw [tp_b_f (fun q => (tp_b_0.mp c4) q.1)]; done) | (rw [tp_b_f (fun q => (tp_b_0.mp c11) q.2)]; done) | (rw [tp_b_t ⟨tp_b_n c4, tp_b_n c11⟩]; done), rfl⟩

set_option maxRecDepth 100000 in
set_option maxHeartbeats 4000000 in
theorem M_isForeign {l : Launch} {G : tp_G} {h : tp_H} (hl : l.stackTraces = false) {v u : Int32} : tp_Met l G mX6_isForeign 0 0 [.int v, .int u] h (tp_PR (.int (tp_b (((0 ≤ v ∧ v ≤ 3) ∧ (0 ≤ u ∧ u ≤ 3)) ∧ 0 < u))) h) tp_NX := by
  refine tp_start (L0 := [some (.int v), some (.int u)]) (by decide) rfl hl (Nat.le_of_ble_eq_true rfl) rfl ?_
  refine r_iload0 dX6_isForeign_0 ?_
  refine r_iload1 dX6_isForeign_1 ?_
  refine r_pS dX6_isForeign_2 v_X6_40 (M_isPurse hl) rfl rfl rfl (Nat.le_of_ble_eq_true rfl) ⟨(Nat.le_of_ble_eq_true rfl), (Nat.le_of_ble_eq_true rfl)⟩ ⟨(Nat.le_of_ble_eq_true rfl), (Nat.le_of_ble_eq_true rfl)⟩ ?_
  refine r_if_eq (tgt := 16) dX6_isForeign_5 (by decide) (fun c5 => ?_) (fun c5 => ?_)
  · refine r_iconst (v := 0) dX6_isForeign_16 (by decide) ?_
    exact r_zret dX6_isForeign_17 rfl ⟨(Nat.le_of_ble_eq_true rfl), (Nat.le_of_ble_eq_true rfl)⟩ (by first | rfl | decide) ⟨by first | (rw [tp_b_f (fun q => (tp_b_0.mp c5) q.1)]; done) | (rw [tp_b_f (fun q => absurd q.2 (Int32.not_lt.mpr c9))]; done) | (rw [tp_b_t ⟨tp_b_n c5, Int32.not_le.mp c9⟩]; done), rfl⟩
  · refine r_iload1 dX6_isForeign_8 ?_
    refine r_if_le (tgt := 16) dX6_isForeign_9 (by decide) (fun c9 => ?_) (fun c9 => ?_)
    · refine r_iconst (v := 0) dX6_isForeign_16 (by decide) ?_
      exact r_zret dX6_isForeign_17 rfl ⟨(Nat.le_of_ble_eq_true rfl), (Nat.le_of_ble_eq_true rfl)⟩ (by first | rfl | decide) ⟨by first | (rw [tp_b_f (fun q => (tp_b_0.mp c5) q.1)]; done) | (rw [tp_b_f (fun q => absurd q.2 (Int32.not_lt.mpr c9))]; done) | (rw [tp_b_t ⟨tp_b_n c5, Int32.not_le.mp c9⟩]; done), rfl⟩
    · refine r_iconst (v := 1) dX6_isForeign_12 (by decide) ?_
      refine r_goto (tgt := 17) dX6_isForeign_13 (by decide) ?_
      exact r_zret dX6_isForeign_17 rfl ⟨(Nat.le_of_ble_eq_true rfl), (Nat.le_of_ble_eq_true rfl)⟩ (by first | rfl | decide) ⟨by first | (rw [tp_b_f (fun q => (tp_b_0.mp c5) q.1)]; done) | (rw [tp_b_f (fun q => absurd q.2 (Int32.not_lt.mpr c9))]; done) | (rw [tp_b_t ⟨tp_b_n c5, Int32.not_le.mp c9⟩]; done), rfl⟩

set_option maxRecDepth 100000 in
set_option maxHeartbeats 4000000 in
theorem M_at {l : Launch} {G : tp_G} {h : tp_H} (hl : l.stackTraces = false) {w c : Nat} : tp_Met l G mX6_at 0 0 [.int (nI w), .int (nI c)] h (tp_PR (.int (nI (z_at w c))) h) tp_NX := by
  refine tp_start (L0 := [some (.int (nI w)), some (.int (nI c))]) (by decide) rfl hl (Nat.le_of_ble_eq_true rfl) rfl ?_
  refine r_bipush (v := 16) dX6_at_0 (by decide) ?_
  refine r_iconst (v := 5) dX6_at_2 (by decide) ?_
  refine r_iconst (v := 4) dX6_at_3 (by decide) ?_
  refine r_iload0 dX6_at_4 ?_
  refine r_imul dX6_at_5 ?_
  refine r_iload1 dX6_at_6 ?_
  refine r_iadd dX6_at_7 ?_
  refine r_imul dX6_at_8 ?_
  refine r_iadd dX6_at_9 ?_
  exact r_iret dX6_at_10 rfl ⟨(Nat.le_of_ble_eq_true rfl), (Nat.le_of_ble_eq_true rfl)⟩ ⟨by rw [show (4 : Int32) = nI 4 from rfl, show (5 : Int32) = nI 5 from rfl, show (16 : Int32) = nI 16 from rfl, tp_mul, tp_add, tp_mul, tp_add]; rfl, rfl⟩

set_option maxRecDepth 100000 in
set_option maxHeartbeats 4000000 in
theorem M_thrown {l : Launch} {G : tp_G} {y : Nat} {h0 h : tp_H} {z hi tx pa : Nat → Int32} {st len thr rd nu du : Int32} {hs : Int64} (hl : l.stackTraces = false) (hT0 : mm_S G y h0 z hi tx pa st len thr rd nu du hs h)  : tp_Met l G mX6_thrown 0 0 [.ref y] h (tp_PR (.int thr) h) tp_NX := by
  have hT := hT0.self
  refine tp_start (L0 := [some (.ref y)]) (by decide) rfl hl (Nat.le_of_ble_eq_true rfl) rfl ?_
  refine r_aload0 dX6_thrown_0 ?_
  refine r_getf dX6_thrown_1 f_X6_22 (hT.ob) rfl ?_
  exact r_iret dX6_thrown_4 rfl ⟨(Nat.le_of_ble_eq_true rfl), (Nat.le_of_ble_eq_true rfl)⟩ ⟨rfl, rfl⟩

set_option maxRecDepth 100000 in
set_option maxHeartbeats 4000000 in
theorem M_of {l : Launch} {G : tp_G} {y : Nat} {h0 h : tp_H} {z hi tx pa : Nat → Int32} {st len thr rd nu du : Int32} {hs : Int64} (hl : l.stackTraces = false) (hT0 : mm_S G y h0 z hi tx pa st len thr rd nu du hs h) {w c j : Nat} (hw : w < 4) (hc : c < 4) (hj : j < 5) : tp_Met l G mX6_of 0 0 [.ref y, .int (nI w), .int (nI c), .int (nI j)] h (tp_PR (.int (z (z_at w c + j))) h) tp_NX := by
  have hT := hT0.self
  refine tp_start (L0 := [some (.ref y), some (.int (nI w)), some (.int (nI c)), some (.int (nI j))]) (by decide) rfl hl (Nat.le_of_ble_eq_true rfl) rfl ?_
  refine r_aload0 dX6_of_0 ?_
  refine r_getf dX6_of_1 f_X6_7 (hT.ob) rfl ?_
  refine r_iload1 dX6_of_4 ?_
  refine r_iload2 dX6_of_5 ?_
  refine r_pS dX6_of_6 v_X6_45 (M_at hl) rfl rfl rfl (Nat.le_of_ble_eq_true rfl) ⟨(Nat.le_of_ble_eq_true rfl), (Nat.le_of_ble_eq_true rfl)⟩ ⟨(Nat.le_of_ble_eq_true rfl), (Nat.le_of_ble_eq_true rfl)⟩ ?_
  refine r_iload3 dX6_of_9 ?_
  refine r_iadd dX6_of_10 ?_
  refine r_iald dX6_of_11 hT.rz (i := z_at w c + j) (tp_add _ _) (by unfold z_at; omega) (by decide) ?_
  exact r_iret dX6_of_12 rfl ⟨(Nat.le_of_ble_eq_true rfl), (Nat.le_of_ble_eq_true rfl)⟩ ⟨rfl, rfl⟩

set_option maxRecDepth 100000 in
set_option maxHeartbeats 4000000 in
theorem M_ofHold {l : Launch} {G : tp_G} {y : Nat} {h0 h : tp_H} {z hi tx pa : Nat → Int32} {st len thr rd nu du : Int32} {hs : Int64} (hl : l.stackTraces = false) (hT0 : mm_S G y h0 z hi tx pa st len thr rd nu du hs h) {i j : Nat} (hi9 : i < 8) (hj : j < 5) : tp_Met l G mX6_ofHold 0 0 [.ref y, .int (nI i), .int (nI j)] h (tp_PR (.int (z (96 + 5 * i + j))) h) tp_NX := by
  have hT := hT0.self
  refine tp_start (L0 := [some (.ref y), some (.int (nI i)), some (.int (nI j))]) (by decide) rfl hl (Nat.le_of_ble_eq_true rfl) rfl ?_
  refine r_aload0 dX6_ofHold_0 ?_
  refine r_getf dX6_ofHold_1 f_X6_7 (hT.ob) rfl ?_
  refine r_bipush (v := 96) dX6_ofHold_4 (by decide) ?_
  refine r_iconst (v := 5) dX6_ofHold_6 (by decide) ?_
  refine r_iload1 dX6_ofHold_7 ?_
  refine r_imul dX6_ofHold_8 ?_
  refine r_iadd dX6_ofHold_9 ?_
  refine r_iload2 dX6_ofHold_10 ?_
  refine r_iadd dX6_ofHold_11 ?_
  refine r_iald dX6_ofHold_12 hT.rz (i := 96 + 5 * i + j) (by rw [show (5 : Int32) = nI 5 from rfl, show (96 : Int32) = nI 96 from rfl, tp_mul, tp_add, tp_add]) (by omega) (by decide) ?_
  exact r_iret dX6_ofHold_13 rfl ⟨(Nat.le_of_ble_eq_true rfl), (Nat.le_of_ble_eq_true rfl)⟩ ⟨rfl, rfl⟩

set_option maxRecDepth 100000 in
set_option maxHeartbeats 4000000 in
theorem M_ofPayment {l : Launch} {G : tp_G} {y : Nat} {h0 h : tp_H} {z hi tx pa : Nat → Int32} {st len thr rd nu du : Int32} {hs : Int64} (hl : l.stackTraces = false) (hT0 : mm_S G y h0 z hi tx pa st len thr rd nu du hs h) {i j : Nat} (hi9 : i < 12) (hj : j < 5) : tp_Met l G mX6_ofPayment 0 0 [.ref y, .int (nI i), .int (nI j)] h (tp_PR (.int (z (136 + 5 * i + j))) h) tp_NX := by
  have hT := hT0.self
  refine tp_start (L0 := [some (.ref y), some (.int (nI i)), some (.int (nI j))]) (by decide) rfl hl (Nat.le_of_ble_eq_true rfl) rfl ?_
  refine r_aload0 dX6_ofPayment_0 ?_
  refine r_getf dX6_ofPayment_1 f_X6_7 (hT.ob) rfl ?_
  refine r_sipush (v := 136) dX6_ofPayment_4 (by decide) ?_
  refine r_iconst (v := 5) dX6_ofPayment_7 (by decide) ?_
  refine r_iload1 dX6_ofPayment_8 ?_
  refine r_imul dX6_ofPayment_9 ?_
  refine r_iadd dX6_ofPayment_10 ?_
  refine r_iload2 dX6_ofPayment_11 ?_
  refine r_iadd dX6_ofPayment_12 ?_
  refine r_iald dX6_ofPayment_13 hT.rz (i := 136 + 5 * i + j) (by rw [show (5 : Int32) = nI 5 from rfl, show (136 : Int32) = nI 136 from rfl, tp_mul, tp_add, tp_add]) (by omega) (by decide) ?_
  exact r_iret dX6_ofPayment_14 rfl ⟨(Nat.le_of_ble_eq_true rfl), (Nat.le_of_ble_eq_true rfl)⟩ ⟨rfl, rfl⟩

set_option maxRecDepth 100000 in
set_option maxHeartbeats 4000000 in
theorem M_isHold {l : Launch} {G : tp_G} {y : Nat} {h0 h : tp_H} {z hi tx pa : Nat → Int32} {st len thr rd nu du : Int32} {hs : Int64} (hl : l.stackTraces = false) (hT0 : mm_S G y h0 z hi tx pa st len thr rd nu du hs h) {v : Int32} : tp_Met l G mX6_isHold 0 0 [.ref y, .int v] h (tp_PR (.int (tp_b (0 ≤ v ∧ v ≤ z 8 - 1))) h) tp_NX := by
  have hT := hT0.self
  refine tp_start (L0 := [some (.ref y), some (.int v)]) (by decide) rfl hl (Nat.le_of_ble_eq_true rfl) rfl ?_
  refine r_iload1 dX6_isHold_0 ?_
  refine r_iconst (v := 0) dX6_isHold_1 (by decide) ?_
  refine r_aload0 dX6_isHold_2 ?_
  refine r_getf dX6_isHold_3 f_X6_7 (hT.ob) rfl ?_
  refine r_bipush (v := 8) dX6_isHold_6 (by decide) ?_
  refine r_iald dX6_isHold_8 hT.rz (i := 8) (rfl) (by omega) (by decide) ?_
  refine r_iconst (v := 1) dX6_isHold_9 (by decide) ?_
  refine r_isub dX6_isHold_10 ?_
  refine r_pS dX6_isHold_11 v_X6_29 (M_within hl) rfl rfl rfl (Nat.le_of_ble_eq_true rfl) ⟨(Nat.le_of_ble_eq_true rfl), (Nat.le_of_ble_eq_true rfl)⟩ ⟨(Nat.le_of_ble_eq_true rfl), (Nat.le_of_ble_eq_true rfl)⟩ ?_
  exact r_zret dX6_isHold_14 rfl ⟨(Nat.le_of_ble_eq_true rfl), (Nat.le_of_ble_eq_true rfl)⟩ tp_b_z ⟨rfl, rfl⟩

set_option maxRecDepth 100000 in
set_option maxHeartbeats 4000000 in
theorem M_isPayment {l : Launch} {G : tp_G} {y : Nat} {h0 h : tp_H} {z hi tx pa : Nat → Int32} {st len thr rd nu du : Int32} {hs : Int64} (hl : l.stackTraces = false) (hT0 : mm_S G y h0 z hi tx pa st len thr rd nu du hs h) {v : Int32} : tp_Met l G mX6_isPayment 0 0 [.ref y, .int v] h (tp_PR (.int (tp_b (0 ≤ v ∧ v ≤ z 9 - 1))) h) tp_NX := by
  have hT := hT0.self
  refine tp_start (L0 := [some (.ref y), some (.int v)]) (by decide) rfl hl (Nat.le_of_ble_eq_true rfl) rfl ?_
  refine r_iload1 dX6_isPayment_0 ?_
  refine r_iconst (v := 0) dX6_isPayment_1 (by decide) ?_
  refine r_aload0 dX6_isPayment_2 ?_
  refine r_getf dX6_isPayment_3 f_X6_7 (hT.ob) rfl ?_
  refine r_bipush (v := 9) dX6_isPayment_6 (by decide) ?_
  refine r_iald dX6_isPayment_8 hT.rz (i := 9) (rfl) (by omega) (by decide) ?_
  refine r_iconst (v := 1) dX6_isPayment_9 (by decide) ?_
  refine r_isub dX6_isPayment_10 ?_
  refine r_pS dX6_isPayment_11 v_X6_29 (M_within hl) rfl rfl rfl (Nat.le_of_ble_eq_true rfl) ⟨(Nat.le_of_ble_eq_true rfl), (Nat.le_of_ble_eq_true rfl)⟩ ⟨(Nat.le_of_ble_eq_true rfl), (Nat.le_of_ble_eq_true rfl)⟩ ?_
  exact r_zret dX6_isPayment_14 rfl ⟨(Nat.le_of_ble_eq_true rfl), (Nat.le_of_ble_eq_true rfl)⟩ tp_b_z ⟨rfl, rfl⟩

set_option maxRecDepth 100000 in
set_option maxHeartbeats 4000000 in
theorem M_isOf {l : Launch} {G : tp_G} {y : Nat} {h0 h : tp_H} {z hi tx pa : Nat → Int32} {st len thr rd nu du : Int32} {hs : Int64} (hl : l.stackTraces = false) (hT0 : mm_S G y h0 z hi tx pa st len thr rd nu du hs h) {r w c : Nat} (hr : r + 1 < 196) : tp_Met l G mX6_isOf 0 0 [.ref y, .int (nI r), .int (nI w), .int (nI c)] h (tp_PR (.int (tp_b (z r = nI w ∧ z (r + 1) = nI c))) h) tp_NX := by
  have hT := hT0.self
  refine tp_start (L0 := [some (.ref y), some (.int (nI r)), some (.int (nI w)), some (.int (nI c))]) (by decide) rfl hl (Nat.le_of_ble_eq_true rfl) rfl ?_
  refine r_aload0 dX6_isOf_0 ?_
  refine r_getf dX6_isOf_1 f_X6_7 (hT.ob) rfl ?_
  refine r_iload1 dX6_isOf_4 ?_
  refine r_iconst (v := 0) dX6_isOf_5 (by decide) ?_
  refine r_iadd dX6_isOf_6 ?_
  refine r_iald dX6_isOf_7 hT.rz (i := r + 0) (tp_add r 0) (by omega) (by decide) ?_
  refine r_iload2 dX6_isOf_8 ?_
  refine r_icmp_ne (tgt := 28) dX6_isOf_9 (by decide) (fun c9 => ?_) (fun c9 => ?_)
  · refine r_iconst (v := 0) dX6_isOf_28 (by decide) ?_
    exact r_zret dX6_isOf_29 rfl ⟨(Nat.le_of_ble_eq_true rfl), (Nat.le_of_ble_eq_true rfl)⟩ (by first | rfl | decide) ⟨by first | (rw [tp_b_f (fun q => c9 q.1)]; done) | (rw [tp_b_f (fun q => c21 q.2)]; done) | (rw [tp_b_t ⟨c9, c21⟩]; done), rfl⟩
  · refine r_aload0 dX6_isOf_12 ?_
    refine r_getf dX6_isOf_13 f_X6_7 (hT.ob) rfl ?_
    refine r_iload1 dX6_isOf_16 ?_
    refine r_iconst (v := 1) dX6_isOf_17 (by decide) ?_
    refine r_iadd dX6_isOf_18 ?_
    refine r_iald dX6_isOf_19 hT.rz (i := r + 1) (tp_add r 1) (by omega) (by decide) ?_
    refine r_iload3 dX6_isOf_20 ?_
    refine r_icmp_ne (tgt := 28) dX6_isOf_21 (by decide) (fun c21 => ?_) (fun c21 => ?_)
    · refine r_iconst (v := 0) dX6_isOf_28 (by decide) ?_
      exact r_zret dX6_isOf_29 rfl ⟨(Nat.le_of_ble_eq_true rfl), (Nat.le_of_ble_eq_true rfl)⟩ (by first | rfl | decide) ⟨by first | (rw [tp_b_f (fun q => c9 q.1)]; done) | (rw [tp_b_f (fun q => c21 q.2)]; done) | (rw [tp_b_t ⟨c9, c21⟩]; done), rfl⟩
    · refine r_iconst (v := 1) dX6_isOf_24 (by decide) ?_
      refine r_goto (tgt := 29) dX6_isOf_25 (by decide) ?_
      exact r_zret dX6_isOf_29 rfl ⟨(Nat.le_of_ble_eq_true rfl), (Nat.le_of_ble_eq_true rfl)⟩ (by first | rfl | decide) ⟨by first | (rw [tp_b_f (fun q => c9 q.1)]; done) | (rw [tp_b_f (fun q => c21 q.2)]; done) | (rw [tp_b_t ⟨c9, c21⟩]; done), rfl⟩

