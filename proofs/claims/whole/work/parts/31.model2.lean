set_option maxRecDepth 100000 in
set_option maxHeartbeats 4000000 in
theorem M_keptOf_lp {l : Launch} {G : tp_G} {y : Nat} {h0 h : tp_H} {z hi tx pa : Nat → Int32} {st len thr rd nu du : Int32} {hs : Int64} (hl : l.stackTraces = false) (hT0 : mm_S G y h0 z hi tx pa st len thr rd nu du hs h) {w c N : Nat} (hz8 : z 8 = nI N) (hN : N ≤ 8) : ∀ d (i : Nat), i + d = N → tp_Run l G mX6_keptOf (tp_rm mX6_keptOf 0 0) (tp_QM G 0 0 (tp_PR (.int (z_kept z w c N)) h) tp_NX) 0 0 h 5 [some (.ref y), some (.int (nI w)), some (.int (nI c)), some (.int (z_kept z w c i)), some (.int (nI i))] [] := by
  intro d
  have hT := hT0.self
  induction d with
  | zero =>
    intro i hi
    refine r_iload4 dX6_keptOf_5 ?_
    refine r_aload0 dX6_keptOf_7 ?_
    refine r_getf dX6_keptOf_8 f_X6_7 (hT.ob) rfl ?_
    refine r_bipush (v := 8) dX6_keptOf_11 (by decide) ?_
    refine r_iald dX6_keptOf_13 hT.rz (i := 8) (rfl) (by omega) (by decide) ?_
    refine r_icmp_ge (tgt := 53) dX6_keptOf_14 (by decide) (fun c14 => ?_) (fun c14 => ?_)
    · refine r_iload3 dX6_keptOf_53 ?_
      exact r_iret dX6_keptOf_54 rfl ⟨(Nat.le_of_ble_eq_true rfl), (Nat.le_of_ble_eq_true rfl)⟩ ⟨by rw [show i = N by omega], rfl⟩
    · rw [hz8, tp_le (by omega) (by omega)] at c14; omega
  | succ d ih =>
    intro i hi
    refine r_iload4 dX6_keptOf_5 ?_
    refine r_aload0 dX6_keptOf_7 ?_
    refine r_getf dX6_keptOf_8 f_X6_7 (hT.ob) rfl ?_
    refine r_bipush (v := 8) dX6_keptOf_11 (by decide) ?_
    refine r_iald dX6_keptOf_13 hT.rz (i := 8) (rfl) (by omega) (by decide) ?_
    refine r_icmp_ge (tgt := 53) dX6_keptOf_14 (by decide) (fun c14 => ?_) (fun c14 => ?_)
    · rw [hz8, tp_le (by omega) (by omega)] at c14; omega
    · refine r_iload3 dX6_keptOf_17 ?_
      refine r_aload0 dX6_keptOf_18 ?_
      refine r_bipush (v := 96) dX6_keptOf_19 (by decide) ?_
      refine r_iconst (v := 5) dX6_keptOf_21 (by decide) ?_
      refine r_iload4 dX6_keptOf_22 ?_
      refine r_imul dX6_keptOf_24 ?_
      refine r_iadd dX6_keptOf_25 ?_
      refine r_iload1 dX6_keptOf_26 ?_
      refine r_iload2 dX6_keptOf_27 ?_
      have e28 : (96 : Int32) + 5 * nI i = nI (96 + 5 * i) := by rw [show (5 : Int32) = nI 5 from rfl, show (96 : Int32) = nI 96 from rfl, tp_mul, tp_add]
      rw [e28]
      refine r_pV dX6_keptOf_28 v_X6_49 (M_isOf hl hT (by omega)) rfl (hT.ob) rfl rfl rfl (Nat.le_of_ble_eq_true rfl) ⟨(Nat.le_of_ble_eq_true rfl), (Nat.le_of_ble_eq_true rfl)⟩ ⟨(Nat.le_of_ble_eq_true rfl), (Nat.le_of_ble_eq_true rfl)⟩ ?_
      refine r_if_eq (tgt := 44) dX6_keptOf_31 (by decide) (fun c31 => ?_) (fun c31 => ?_)
      · refine r_iconst (v := 0) dX6_keptOf_44 (by decide) ?_
        refine r_iadd dX6_keptOf_45 ?_
        refine r_istore3 dX6_keptOf_46 (Nat.le_of_ble_eq_true rfl) rfl ?_
        refine r_iinc4 (v := nI (i + 1)) dX6_keptOf_47 (Nat.le_of_ble_eq_true rfl) rfl (tp_inc i) ?_
        exact r_goto (tgt := 5) dX6_keptOf_50 (by decide) (tp_cong (by first | (have q := tp_b_0.mp c31; simp only [z_kept, if_neg q]) | (have q := tp_b_n c31; simp only [z_kept, if_pos q])) rfl (ih (i + 1) (by omega)))
      · refine r_aload0 dX6_keptOf_34 ?_
        refine r_iload4 dX6_keptOf_35 ?_
        refine r_iconst (v := 3) dX6_keptOf_37 (by decide) ?_
        refine r_pV dX6_keptOf_38 v_X6_52 (M_ofHold (j := 3) hl hT (by omega) (by omega)) rfl (hT.ob) rfl rfl rfl (Nat.le_of_ble_eq_true rfl) ⟨(Nat.le_of_ble_eq_true rfl), (Nat.le_of_ble_eq_true rfl)⟩ ⟨(Nat.le_of_ble_eq_true rfl), (Nat.le_of_ble_eq_true rfl)⟩ ?_
        refine r_goto (tgt := 45) dX6_keptOf_41 (by decide) ?_
        refine r_iadd dX6_keptOf_45 ?_
        refine r_istore3 dX6_keptOf_46 (Nat.le_of_ble_eq_true rfl) rfl ?_
        refine r_iinc4 (v := nI (i + 1)) dX6_keptOf_47 (Nat.le_of_ble_eq_true rfl) rfl (tp_inc i) ?_
        exact r_goto (tgt := 5) dX6_keptOf_50 (by decide) (tp_cong (by first | (have q := tp_b_0.mp c31; simp only [z_kept, if_neg q]) | (have q := tp_b_n c31; simp only [z_kept, if_pos q])) rfl (ih (i + 1) (by omega)))

set_option maxRecDepth 100000 in
set_option maxHeartbeats 4000000 in
theorem M_keptOf {l : Launch} {G : tp_G} {y : Nat} {h0 h : tp_H} {z hi tx pa : Nat → Int32} {st len thr rd nu du : Int32} {hs : Int64} (hl : l.stackTraces = false) (hT0 : mm_S G y h0 z hi tx pa st len thr rd nu du hs h) {w c N : Nat} (hz8 : z 8 = nI N) (hN : N ≤ 8) : tp_Met l G mX6_keptOf 0 0 [.ref y, .int (nI w), .int (nI c)] h (tp_PR (.int (z_kept z w c N)) h) tp_NX := by
  have hT := hT0.self
  refine tp_start (L0 := [some (.ref y), some (.int (nI w)), some (.int (nI c)), none, none]) (by decide) rfl hl (Nat.le_of_ble_eq_true rfl) rfl ?_
  refine r_iconst (v := 0) dX6_keptOf_0 (by decide) ?_
  refine r_istore3 dX6_keptOf_1 (Nat.le_of_ble_eq_true rfl) rfl ?_
  refine r_iconst (v := 0) dX6_keptOf_2 (by decide) ?_
  refine r_istore4 dX6_keptOf_3 (Nat.le_of_ble_eq_true rfl) rfl ?_
  exact M_keptOf_lp hl hT hz8 hN N 0 (by omega)

set_option maxRecDepth 100000 in
set_option maxHeartbeats 4000000 in
theorem M_freeOf {l : Launch} {G : tp_G} {y : Nat} {h0 h : tp_H} {z hi tx pa : Nat → Int32} {st len thr rd nu du : Int32} {hs : Int64} (hl : l.stackTraces = false) (hT0 : mm_S G y h0 z hi tx pa st len thr rd nu du hs h) {w c N : Nat} (hw : w < 4) (hc : c < 4) (hz8 : z 8 = nI N) (hN : N ≤ 8) : tp_Met l G mX6_freeOf 0 0 [.ref y, .int (nI w), .int (nI c)] h (tp_PR (.int (z_free z w c)) h) tp_NX := by
  have hT := hT0.self
  refine tp_start (L0 := [some (.ref y), some (.int (nI w)), some (.int (nI c))]) (by decide) rfl hl (Nat.le_of_ble_eq_true rfl) rfl ?_
  refine r_aload0 dX6_freeOf_0 ?_
  refine r_iload1 dX6_freeOf_1 ?_
  refine r_iload2 dX6_freeOf_2 ?_
  refine r_iconst (v := 0) dX6_freeOf_3 (by decide) ?_
  refine r_pV dX6_freeOf_4 v_X6_55 (M_of (j := 0) hl hT hw hc (by omega)) rfl (hT.ob) rfl rfl rfl (Nat.le_of_ble_eq_true rfl) ⟨(Nat.le_of_ble_eq_true rfl), (Nat.le_of_ble_eq_true rfl)⟩ ⟨(Nat.le_of_ble_eq_true rfl), (Nat.le_of_ble_eq_true rfl)⟩ ?_
  refine r_aload0 dX6_freeOf_7 ?_
  refine r_iload1 dX6_freeOf_8 ?_
  refine r_iload2 dX6_freeOf_9 ?_
  refine r_pV dX6_freeOf_10 v_X6_59 (M_keptOf hl hT hz8 hN) rfl (hT.ob) rfl rfl rfl (Nat.le_of_ble_eq_true rfl) ⟨(Nat.le_of_ble_eq_true rfl), (Nat.le_of_ble_eq_true rfl)⟩ ⟨(Nat.le_of_ble_eq_true rfl), (Nat.le_of_ble_eq_true rfl)⟩ ?_
  refine r_isub dX6_freeOf_13 ?_
  exact r_iret dX6_freeOf_14 rfl ⟨(Nat.le_of_ble_eq_true rfl), (Nat.le_of_ble_eq_true rfl)⟩ ⟨by unfold z_free; rw [hz8, z_nI (by omega)]; rfl, rfl⟩

