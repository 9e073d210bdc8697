set_option maxRecDepth 100000 in
set_option maxHeartbeats 4000000 in
theorem M_closes_lp {l : Launch} {G : tp_G} {y : Nat} {h9 : tp_H} {z hi tx pa : Nat → Int32} {st len thr rd nu du : Int32} {hs : Int64} (hl : l.stackTraces = false) {w : Nat} (hw : w < 4)  : ∀ d (c : Nat) (h1 : tp_H), 1 ≤ c → c + d = 4 → mm_S G y h9 (z_closeT z w (c - 1)) hi tx pa st len thr rd nu du hs h1 → tp_Run l G mX6_closes (tp_rm mX6_closes 0 0) (tp_QM G 0 0 (tp_PS (some (.int (z_close3 z w (z_at w 0)))) (fun h1 => mm_S G y h9 (z_closes z w) hi tx pa st len thr rd nu du hs h1)) tp_NX) 0 0 h1 2 [some (.ref y), some (.int (nI w)), some (.int (nI c)), none, none] [] := by
  intro d
  induction d with
  | zero =>
    intro c h1 hc hd hT
    refine r_iload2 dX6_closes_2 ?_
    refine r_iconst (v := 4) dX6_closes_3 (by decide) ?_
    refine r_icmp_ge (tgt := 52) dX6_closes_4 (by decide) (fun c4 => ?_) (fun c4 => ?_)
    · have e3 : z_closeT z w (c - 1) = z_close3 z w := by rw [show c = 4 by omega]; rfl
      rw [e3] at hT
      refine r_aload0 dX6_closes_52 ?_
      refine r_iload1 dX6_closes_53 ?_
      refine r_iconst (v := 0) dX6_closes_54 (by decide) ?_
      refine r_iconst (v := 0) dX6_closes_55 (by decide) ?_
      refine r_pV dX6_closes_56 v_X6_55 (M_of (w := w) (c := 0) (j := 0) hl hT hw (by omega) (by omega)) rfl (hT.ob) rfl rfl rfl (Nat.le_of_ble_eq_true rfl) ⟨(Nat.le_of_ble_eq_true rfl), (Nat.le_of_ble_eq_true rfl)⟩ ⟨(Nat.le_of_ble_eq_true rfl), (Nat.le_of_ble_eq_true rfl)⟩ ?_
      refine r_istore2 dX6_closes_59 (Nat.le_of_ble_eq_true rfl) rfl ?_
      refine r_aload0 dX6_closes_60 ?_
      refine r_getf dX6_closes_61 f_X6_7 (hT.ob) rfl ?_
      refine r_iload1 dX6_closes_64 ?_
      refine r_iconst (v := 0) dX6_closes_65 (by decide) ?_
      refine r_pS dX6_closes_66 v_X6_45 (M_at (w := w) (c := 0) hl) rfl rfl rfl (Nat.le_of_ble_eq_true rfl) ⟨(Nat.le_of_ble_eq_true rfl), (Nat.le_of_ble_eq_true rfl)⟩ ⟨(Nat.le_of_ble_eq_true rfl), (Nat.le_of_ble_eq_true rfl)⟩ ?_
      refine r_iconst (v := 0) dX6_closes_69 (by decide) ?_
      refine r_iadd dX6_closes_70 ?_
      refine r_iconst (v := 0) dX6_closes_71 (by decide) ?_
      refine mm_st_z dX6_closes_72 hT (i := z_at w 0 + 0) (tp_add _ 0) (by unfold z_at; omega) (fun h1 hT => ?_)
      refine r_aload0 dX6_closes_73 ?_
      refine r_getf dX6_closes_74 f_X6_7 (hT.ob) rfl ?_
      refine r_bipush (v := 11) dX6_closes_77 (by decide) ?_
      refine r_dup2 dX6_closes_79 rfl rfl ?_
      refine r_iald dX6_closes_80 hT.rz (i := 11) (rfl) (by omega) (by decide) ?_
      refine r_iload2 dX6_closes_81 ?_
      refine r_iadd dX6_closes_82 ?_
      refine mm_st_z dX6_closes_83 hT (i := 11) (rfl) (by omega) (fun h1 hT => ?_)
      refine r_iload2 dX6_closes_84 ?_
      exact r_iret dX6_closes_85 rfl ⟨(Nat.le_of_ble_eq_true rfl), (Nat.le_of_ble_eq_true rfl)⟩ ⟨rfl, hT⟩
    · rw [show (4 : Int32) = nI 4 from rfl, tp_le (by omega) (by omega)] at c4; omega
  | succ d ih =>
    intro c h1 hc hd hT
    refine r_iload2 dX6_closes_2 ?_
    refine r_iconst (v := 4) dX6_closes_3 (by decide) ?_
    refine r_icmp_ge (tgt := 52) dX6_closes_4 (by decide) (fun c4 => ?_) (fun c4 => ?_)
    · rw [show (4 : Int32) = nI 4 from rfl, tp_le (by omega) (by omega)] at c4; omega
    · refine r_aload0 dX6_closes_7 ?_
      refine r_iload1 dX6_closes_8 ?_
      refine r_iload2 dX6_closes_9 ?_
      refine r_iconst (v := 0) dX6_closes_10 (by decide) ?_
      refine r_pV dX6_closes_11 v_X6_55 (M_of (w := w) (c := c) (j := 0) hl hT hw (by omega) (by omega)) rfl (hT.ob) rfl rfl rfl (Nat.le_of_ble_eq_true rfl) ⟨(Nat.le_of_ble_eq_true rfl), (Nat.le_of_ble_eq_true rfl)⟩ ⟨(Nat.le_of_ble_eq_true rfl), (Nat.le_of_ble_eq_true rfl)⟩ ?_
      refine r_istore3 dX6_closes_14 (Nat.le_of_ble_eq_true rfl) rfl ?_
      refine r_iload3 dX6_closes_15 ?_
      refine r_if_le (tgt := 30) dX6_closes_16 (by decide) (fun c16 => ?_) (fun c16 => ?_)
      · have e16 : (if 0 < z_closeT z w (c - 1) (z_at w c) then z_ex (z_closeT z w (c - 1)) w c 0 (z_closeT z w (c - 1) (z_at w c)) else z_closeT z w (c - 1)) = z_closeT z w (c - 1) := if_neg (Int32.not_lt.mpr c16)
        refine r_iconst (v := 0) dX6_closes_30 (by decide) ?_
        refine r_istore4 dX6_closes_31 (Nat.le_of_ble_eq_true rfl) rfl ?_
        refine r_aload0 dX6_closes_33 ?_
        refine r_getf dX6_closes_34 f_X6_7 (hT.ob) rfl ?_
        refine r_iload1 dX6_closes_37 ?_
        refine r_iload2 dX6_closes_38 ?_
        refine r_pS dX6_closes_39 v_X6_45 (M_at (w := w) (c := c) hl) rfl rfl rfl (Nat.le_of_ble_eq_true rfl) ⟨(Nat.le_of_ble_eq_true rfl), (Nat.le_of_ble_eq_true rfl)⟩ ⟨(Nat.le_of_ble_eq_true rfl), (Nat.le_of_ble_eq_true rfl)⟩ ?_
        refine r_iconst (v := 2) dX6_closes_42 (by decide) ?_
        refine r_iadd dX6_closes_43 ?_
        refine r_iconst (v := 0) dX6_closes_44 (by decide) ?_
        refine mm_st_z dX6_closes_45 hT (i := z_at w c + 2) (tp_add _ 2) (by unfold z_at; omega) (fun h1 hT => ?_)
        have hT := hT.cz (z' := z_closeT z w c) (by rw [show z_closeT z w c = z_close1 (z_closeT z w (c - 1)) w c from by obtain ⟨q, rfl⟩ : ∃ q, c = q + 1 := ⟨c - 1, by omega⟩; rfl]; unfold z_close1; first | (rw [e16]; done) | (rw [e16]; rfl))
        refine r_iinc2 (v := nI (c + 1)) dX6_closes_46 (Nat.le_of_ble_eq_true rfl) rfl (tp_inc c) ?_
        exact r_goto (tgt := 2) dX6_closes_49 (by decide) (r_fg3 (r_fg4 (ih (c + 1) h1 (by omega) (by omega) (by rw [Nat.add_sub_cancel]; exact hT))))
      · have e16 : (if 0 < z_closeT z w (c - 1) (z_at w c) then z_ex (z_closeT z w (c - 1)) w c 0 (z_closeT z w (c - 1) (z_at w c)) else z_closeT z w (c - 1)) = z_ex (z_closeT z w (c - 1)) w c 0 (z_closeT z w (c - 1) (z_at w c)) := if_pos (Int32.not_le.mp c16)
        refine r_aload0 dX6_closes_19 ?_
        refine r_iload1 dX6_closes_20 ?_
        refine r_iload2 dX6_closes_21 ?_
        refine r_iconst (v := 0) dX6_closes_22 (by decide) ?_
        refine r_iload3 dX6_closes_23 ?_
        refine r_sV1 dX6_closes_24 v_X6_108 (M_exchanges (w := w) (f := c) (t := 0) hl hT hw (by omega) (by omega) (z_rate0 _ _)) rfl (hT.ob) rfl rfl rfl (Nat.le_of_ble_eq_true rfl) ⟨(Nat.le_of_ble_eq_true rfl), (Nat.le_of_ble_eq_true rfl)⟩ ⟨(Nat.le_of_ble_eq_true rfl), (Nat.le_of_ble_eq_true rfl)⟩ (fun h1 hP => ?_)
        have hT := hT.trans hP
        refine r_goto (tgt := 31) dX6_closes_27 (by decide) ?_
        refine r_istore4 dX6_closes_31 (Nat.le_of_ble_eq_true rfl) rfl ?_
        refine r_aload0 dX6_closes_33 ?_
        refine r_getf dX6_closes_34 f_X6_7 (hT.ob) rfl ?_
        refine r_iload1 dX6_closes_37 ?_
        refine r_iload2 dX6_closes_38 ?_
        refine r_pS dX6_closes_39 v_X6_45 (M_at (w := w) (c := c) hl) rfl rfl rfl (Nat.le_of_ble_eq_true rfl) ⟨(Nat.le_of_ble_eq_true rfl), (Nat.le_of_ble_eq_true rfl)⟩ ⟨(Nat.le_of_ble_eq_true rfl), (Nat.le_of_ble_eq_true rfl)⟩ ?_
        refine r_iconst (v := 2) dX6_closes_42 (by decide) ?_
        refine r_iadd dX6_closes_43 ?_
        refine r_iconst (v := 0) dX6_closes_44 (by decide) ?_
        refine mm_st_z dX6_closes_45 hT (i := z_at w c + 2) (tp_add _ 2) (by unfold z_at; omega) (fun h1 hT => ?_)
        have hT := hT.cz (z' := z_closeT z w c) (by rw [show z_closeT z w c = z_close1 (z_closeT z w (c - 1)) w c from by obtain ⟨q, rfl⟩ : ∃ q, c = q + 1 := ⟨c - 1, by omega⟩; rfl]; unfold z_close1; first | (rw [e16]; done) | (rw [e16]; rfl))
        refine r_iinc2 (v := nI (c + 1)) dX6_closes_46 (Nat.le_of_ble_eq_true rfl) rfl (tp_inc c) ?_
        exact r_goto (tgt := 2) dX6_closes_49 (by decide) (r_fg3 (r_fg4 (ih (c + 1) h1 (by omega) (by omega) (by rw [Nat.add_sub_cancel]; exact hT))))

set_option maxRecDepth 100000 in
set_option maxHeartbeats 4000000 in
theorem M_closes {l : Launch} {G : tp_G} {y : Nat} {h0 h : tp_H} {z hi tx pa : Nat → Int32} {st len thr rd nu du : Int32} {hs : Int64} (hl : l.stackTraces = false) (hT0 : mm_S G y h0 z hi tx pa st len thr rd nu du hs h) {w : Nat} (hw : w < 4) : tp_Met l G mX6_closes 0 0 [.ref y, .int (nI w)] h (tp_PS (some (.int (z_close3 z w (z_at w 0)))) (fun h1 => mm_S G y h (z_closes z w) hi tx pa st len thr rd nu du hs h1)) tp_NX := by
  have hT := hT0.self
  refine tp_start (L0 := [some (.ref y), some (.int (nI w)), none, none, none]) (by decide) rfl hl (Nat.le_of_ble_eq_true rfl) rfl ?_
  refine r_iconst (v := 1) dX6_closes_0 (by decide) ?_
  refine r_istore2 dX6_closes_1 (Nat.le_of_ble_eq_true rfl) rfl ?_
  exact M_closes_lp hl hw 3 1 h (by omega) (by omega) hT

set_option maxRecDepth 100000 in
set_option maxHeartbeats 4000000 in
theorem M_dayPasses_lp {l : Launch} {G : tp_G} {y : Nat} {h9 : tp_H} {hi tx pa : Nat → Int32} {st len thr rd nu du : Int32} {hs : Int64} (hl : l.stackTraces = false) : ∀ (i : Nat) (z' : Nat → Int32) (N : Nat) (g : Int32) (h1 : tp_H), z' 8 = nI N → i ≤ N → N ≤ 8 → mm_S G y h9 z' hi tx pa st len thr rd nu du hs h1 → tp_Run l G mX6_dayPasses (tp_rm mX6_dayPasses 0 0) (tp_QM G 0 0 (tp_PS (some (.int (z_sweep i z' g).2)) (fun h2 => mm_S G y h9 (z_sweep i z' g).1 hi tx pa st len thr rd nu du hs h2)) tp_NX) 0 0 h1 22 [some (.ref y), some (.int g), some (.int (nI i - 1))] [] := by
  intro i
  induction i with
  | zero =>
    intro z' N g h1 hz8 hi hN hT
    refine r_iload2 dX6_dayPasses_22 ?_
    refine r_if_lt (tgt := 62) dX6_dayPasses_23 (by decide) (fun c23 => ?_) (fun c23 => ?_)
    · refine r_iload1 dX6_dayPasses_62 ?_
      exact r_iret dX6_dayPasses_63 rfl ⟨(Nat.le_of_ble_eq_true rfl), (Nat.le_of_ble_eq_true rfl)⟩ ⟨rfl, hT⟩
    · exact absurd (show nI 0 - 1 < 0 by decide) c23
  | succ i ih =>
    intro z' N g h1 hz8 hi hN hT
    have e0 : nI (i + 1) - 1 = nI i := nI_pred i
    rw [e0]
    refine r_iload2 dX6_dayPasses_22 ?_
    refine r_if_lt (tgt := 62) dX6_dayPasses_23 (by decide) (fun c23 => ?_) (fun c23 => ?_)
    · exact absurd c23 (nI_pos (by omega))
    · refine r_aload0 dX6_dayPasses_26 ?_
      refine r_getf dX6_dayPasses_27 f_X6_7 (hT.ob) rfl ?_
      refine r_iconst (v := 4) dX6_dayPasses_30 (by decide) ?_
      refine r_iald dX6_dayPasses_31 hT.rz (i := 4) (rfl) (by omega) (by decide) ?_
      refine r_aload0 dX6_dayPasses_32 ?_
      refine r_iload2 dX6_dayPasses_33 ?_
      refine r_iconst (v := 4) dX6_dayPasses_34 (by decide) ?_
      refine r_pV dX6_dayPasses_35 v_X6_52 (M_ofHold (j := 4) hl hT (by omega) (by omega)) rfl (hT.ob) rfl rfl rfl (Nat.le_of_ble_eq_true rfl) ⟨(Nat.le_of_ble_eq_true rfl), (Nat.le_of_ble_eq_true rfl)⟩ ⟨(Nat.le_of_ble_eq_true rfl), (Nat.le_of_ble_eq_true rfl)⟩ ?_
      refine r_isub dX6_dayPasses_38 ?_
      refine r_aload0 dX6_dayPasses_39 ?_
      refine r_getf dX6_dayPasses_40 f_X6_7 (hT.ob) rfl ?_
      refine r_iconst (v := 3) dX6_dayPasses_43 (by decide) ?_
      refine r_iald dX6_dayPasses_44 hT.rz (i := 3) (rfl) (by omega) (by decide) ?_
      refine r_icmp_le (tgt := 56) dX6_dayPasses_45 (by decide) (fun c45 => ?_) (fun c45 => ?_)
      · have e45 : z_sweep (i + 1) z' g = z_sweep i z' g := if_neg (Int32.not_lt.mpr c45)
        rw [e45]
        refine r_iinc2 (v := nI i - 1) dX6_dayPasses_56 (Nat.le_of_ble_eq_true rfl) rfl (tp_dec _) ?_
        exact r_goto (tgt := 22) dX6_dayPasses_59 (by decide) (by first | exact ih z' N g h1 hz8 (by omega) hN hT | exact ih (z_drop z' i) (N - 1) (g + 1) h1 (by rw [z_drop_8, hz8]; exact tp_m1 (by omega)) (by omega) (by omega) hT)
      · have e45 : z_sweep (i + 1) z' g = z_sweep i (z_drop z' i) (g + 1) := if_pos (Int32.not_le.mp c45)
        rw [e45]
        refine r_aload0 dX6_dayPasses_48 ?_
        refine r_iload2 dX6_dayPasses_49 ?_
        refine r_sV0 dX6_dayPasses_50 v_X6_123 (M_removeHold hl hT hz8 hN (by omega)) rfl (hT.ob) rfl rfl rfl (Nat.le_of_ble_eq_true rfl) ⟨(Nat.le_of_ble_eq_true rfl), (Nat.le_of_ble_eq_true rfl)⟩ ⟨(Nat.le_of_ble_eq_true rfl), (Nat.le_of_ble_eq_true rfl)⟩ (fun h1 hP => ?_)
        have hT := hT.trans hP
        refine r_iinc1 (v := g + 1) dX6_dayPasses_53 (Nat.le_of_ble_eq_true rfl) rfl rfl ?_
        refine r_iinc2 (v := nI i - 1) dX6_dayPasses_56 (Nat.le_of_ble_eq_true rfl) rfl (tp_dec _) ?_
        exact r_goto (tgt := 22) dX6_dayPasses_59 (by decide) (by first | exact ih z' N g h1 hz8 (by omega) hN hT | exact ih (z_drop z' i) (N - 1) (g + 1) h1 (by rw [z_drop_8, hz8]; exact tp_m1 (by omega)) (by omega) (by omega) hT)

set_option maxRecDepth 100000 in
set_option maxHeartbeats 4000000 in
theorem M_dayPasses {l : Launch} {G : tp_G} {y : Nat} {h0 h : tp_H} {z hi tx pa : Nat → Int32} {st len thr rd nu du : Int32} {hs : Int64} (hl : l.stackTraces = false) (hT0 : mm_S G y h0 z hi tx pa st len thr rd nu du hs h) {N : Nat} (hz8 : z 8 = nI N) (hN : N ≤ 8) : tp_Met l G mX6_dayPasses 0 0 [.ref y] h (tp_PS (some (.int (z_day z).2)) (fun h1 => mm_S G y h (z_day z).1 hi tx pa st len thr rd nu du hs h1)) tp_NX := by
  have hT := hT0.self
  refine tp_start (L0 := [some (.ref y), none, none]) (by decide) rfl hl (Nat.le_of_ble_eq_true rfl) rfl ?_
  refine r_aload0 dX6_dayPasses_0 ?_
  refine r_getf dX6_dayPasses_1 f_X6_7 (hT.ob) rfl ?_
  refine r_iconst (v := 4) dX6_dayPasses_4 (by decide) ?_
  refine r_dup2 dX6_dayPasses_5 rfl rfl ?_
  refine r_iald dX6_dayPasses_6 hT.rz (i := 4) (rfl) (by omega) (by decide) ?_
  refine r_iconst (v := 1) dX6_dayPasses_7 (by decide) ?_
  refine r_iadd dX6_dayPasses_8 ?_
  refine mm_st_z dX6_dayPasses_9 hT (i := 4) (rfl) (by omega) (fun h1 hT => ?_)
  refine r_iconst (v := 0) dX6_dayPasses_10 (by decide) ?_
  refine r_istore1 dX6_dayPasses_11 (Nat.le_of_ble_eq_true rfl) rfl ?_
  refine r_aload0 dX6_dayPasses_12 ?_
  refine r_getf dX6_dayPasses_13 f_X6_7 (hT.ob) rfl ?_
  refine r_bipush (v := 8) dX6_dayPasses_16 (by decide) ?_
  refine r_iald dX6_dayPasses_18 hT.rz (i := 8) (rfl) (by omega) (by decide) ?_
  rw [show va_up z 4 (z 4 + 1) 8 = z 8 from va_c1 8 (by omega), hz8]
  refine r_iconst (v := 1) dX6_dayPasses_19 (by decide) ?_
  refine r_isub dX6_dayPasses_20 ?_
  refine r_istore2 dX6_dayPasses_21 (Nat.le_of_ble_eq_true rfl) rfl ?_
  have ed : z_day z = z_sweep N (va_up z 4 (z 4 + 1)) 0 := by unfold z_day; rw [hz8, z_nI (by omega)]
  rw [ed]
  exact M_dayPasses_lp hl N _ N 0 h1 (by rw [va_c1 8 (by omega)]; exact hz8) (Nat.le_refl _) hN hT

set_option maxRecDepth 100000 in
set_option maxHeartbeats 4000000 in
theorem M_purseNow {l : Launch} {G : tp_G} {y : Nat} {h0 h : tp_H} {z hi tx pa : Nat → Int32} {st len thr rd nu du : Int32} {hs : Int64} (hl : l.stackTraces = false) (hT0 : mm_S G y h0 z hi tx pa st len thr rd nu du hs h) {w c j N P : Nat} (hw : w < 4) (hc : c < 4) (hj : j < 8) (hz8 : z 8 = nI N) (hN : N ≤ 8) (hz9 : z 9 = nI P) (hP9 : P ≤ 12) : tp_Met l G mX6_purseNow 0 0 [.ref y, .int (nI w), .int (nI c), .int (nI j)] h (tp_PR (.int (z_purse z w c j)) h) tp_NX := by
  have hT := hT0.self
  refine tp_start (L0 := [some (.ref y), some (.int (nI w)), some (.int (nI c)), some (.int (nI j))]) (by decide) rfl hl (Nat.le_of_ble_eq_true rfl) rfl ?_
  refine r_iload3 dX6_purseNow_0 ?_
  rcases (show j = 0 ∨ j = 1 ∨ j = 2 ∨ j = 3 ∨ j = 4 ∨ j = 5 ∨ j = 6 ∨ j = 7 by omega) with rfl | rfl | rfl | rfl | rfl | rfl | rfl | rfl
  · refine r_tableIn (tgt := 44) dX6_purseNow_1 (by decide) (by decide) rfl (by decide) ?_
    refine r_aload0 dX6_purseNow_44 ?_
    refine r_iload1 dX6_purseNow_45 ?_
    refine r_iload2 dX6_purseNow_46 ?_
    refine r_iconst (v := 0) dX6_purseNow_47 (by decide) ?_
    refine r_pV dX6_purseNow_48 v_X6_55 (M_of (j := 0) hl hT hw hc (by omega)) rfl (hT.ob) rfl rfl rfl (Nat.le_of_ble_eq_true rfl) ⟨(Nat.le_of_ble_eq_true rfl), (Nat.le_of_ble_eq_true rfl)⟩ ⟨(Nat.le_of_ble_eq_true rfl), (Nat.le_of_ble_eq_true rfl)⟩ ?_
    exact r_iret dX6_purseNow_51 rfl ⟨(Nat.le_of_ble_eq_true rfl), (Nat.le_of_ble_eq_true rfl)⟩ ⟨by first | rfl | (show _ = some (Value.int (z_kept z w c (z_n (z 8)))); rw [hz8, z_nI (by omega)]; done) | (show _ = some (Value.int (z_credit z w c (z_n (z 9)))); rw [hz9, z_nI (by omega)]; done) | (show _ = some (Value.int (if _ then _ else _)); rw [if_pos (tp_b_n c87)]; done) | (show _ = some (Value.int (if _ then _ else _)); rw [if_neg (tp_b_0.mp c87)]; done), rfl⟩
  · refine r_tableIn (tgt := 52) dX6_purseNow_1 (by decide) (by decide) rfl (by decide) ?_
    refine r_aload0 dX6_purseNow_52 ?_
    refine r_iload1 dX6_purseNow_53 ?_
    refine r_iload2 dX6_purseNow_54 ?_
    refine r_pV dX6_purseNow_55 v_X6_59 (M_keptOf hl hT hz8 hN) rfl (hT.ob) rfl rfl rfl (Nat.le_of_ble_eq_true rfl) ⟨(Nat.le_of_ble_eq_true rfl), (Nat.le_of_ble_eq_true rfl)⟩ ⟨(Nat.le_of_ble_eq_true rfl), (Nat.le_of_ble_eq_true rfl)⟩ ?_
    exact r_iret dX6_purseNow_58 rfl ⟨(Nat.le_of_ble_eq_true rfl), (Nat.le_of_ble_eq_true rfl)⟩ ⟨by first | rfl | (show _ = some (Value.int (z_kept z w c (z_n (z 8)))); rw [hz8, z_nI (by omega)]; done) | (show _ = some (Value.int (z_credit z w c (z_n (z 9)))); rw [hz9, z_nI (by omega)]; done) | (show _ = some (Value.int (if _ then _ else _)); rw [if_pos (tp_b_n c87)]; done) | (show _ = some (Value.int (if _ then _ else _)); rw [if_neg (tp_b_0.mp c87)]; done), rfl⟩
  · refine r_tableIn (tgt := 59) dX6_purseNow_1 (by decide) (by decide) rfl (by decide) ?_
    refine r_aload0 dX6_purseNow_59 ?_
    refine r_iload1 dX6_purseNow_60 ?_
    refine r_iload2 dX6_purseNow_61 ?_
    refine r_pV dX6_purseNow_62 v_X6_102 (M_freeOf hl hT hw hc hz8 hN) rfl (hT.ob) rfl rfl rfl (Nat.le_of_ble_eq_true rfl) ⟨(Nat.le_of_ble_eq_true rfl), (Nat.le_of_ble_eq_true rfl)⟩ ⟨(Nat.le_of_ble_eq_true rfl), (Nat.le_of_ble_eq_true rfl)⟩ ?_
    exact r_iret dX6_purseNow_65 rfl ⟨(Nat.le_of_ble_eq_true rfl), (Nat.le_of_ble_eq_true rfl)⟩ ⟨by first | rfl | (show _ = some (Value.int (z_kept z w c (z_n (z 8)))); rw [hz8, z_nI (by omega)]; done) | (show _ = some (Value.int (z_credit z w c (z_n (z 9)))); rw [hz9, z_nI (by omega)]; done) | (show _ = some (Value.int (if _ then _ else _)); rw [if_pos (tp_b_n c87)]; done) | (show _ = some (Value.int (if _ then _ else _)); rw [if_neg (tp_b_0.mp c87)]; done), rfl⟩
  · refine r_tableIn (tgt := 66) dX6_purseNow_1 (by decide) (by decide) rfl (by decide) ?_
    refine r_aload0 dX6_purseNow_66 ?_
    refine r_iload1 dX6_purseNow_67 ?_
    refine r_iload2 dX6_purseNow_68 ?_
    refine r_iconst (v := 1) dX6_purseNow_69 (by decide) ?_
    refine r_pV dX6_purseNow_70 v_X6_55 (M_of (j := 1) hl hT hw hc (by omega)) rfl (hT.ob) rfl rfl rfl (Nat.le_of_ble_eq_true rfl) ⟨(Nat.le_of_ble_eq_true rfl), (Nat.le_of_ble_eq_true rfl)⟩ ⟨(Nat.le_of_ble_eq_true rfl), (Nat.le_of_ble_eq_true rfl)⟩ ?_
    exact r_iret dX6_purseNow_73 rfl ⟨(Nat.le_of_ble_eq_true rfl), (Nat.le_of_ble_eq_true rfl)⟩ ⟨by first | rfl | (show _ = some (Value.int (z_kept z w c (z_n (z 8)))); rw [hz8, z_nI (by omega)]; done) | (show _ = some (Value.int (z_credit z w c (z_n (z 9)))); rw [hz9, z_nI (by omega)]; done) | (show _ = some (Value.int (if _ then _ else _)); rw [if_pos (tp_b_n c87)]; done) | (show _ = some (Value.int (if _ then _ else _)); rw [if_neg (tp_b_0.mp c87)]; done), rfl⟩
  · refine r_tableIn (tgt := 74) dX6_purseNow_1 (by decide) (by decide) rfl (by decide) ?_
    refine r_aload0 dX6_purseNow_74 ?_
    refine r_iload1 dX6_purseNow_75 ?_
    refine r_iload2 dX6_purseNow_76 ?_
    refine r_pV dX6_purseNow_77 v_X6_88 (M_rateOf hl hT hw hc) rfl (hT.ob) rfl rfl rfl (Nat.le_of_ble_eq_true rfl) ⟨(Nat.le_of_ble_eq_true rfl), (Nat.le_of_ble_eq_true rfl)⟩ ⟨(Nat.le_of_ble_eq_true rfl), (Nat.le_of_ble_eq_true rfl)⟩ ?_
    exact r_iret dX6_purseNow_80 rfl ⟨(Nat.le_of_ble_eq_true rfl), (Nat.le_of_ble_eq_true rfl)⟩ ⟨by first | rfl | (show _ = some (Value.int (z_kept z w c (z_n (z 8)))); rw [hz8, z_nI (by omega)]; done) | (show _ = some (Value.int (z_credit z w c (z_n (z 9)))); rw [hz9, z_nI (by omega)]; done) | (show _ = some (Value.int (if _ then _ else _)); rw [if_pos (tp_b_n c87)]; done) | (show _ = some (Value.int (if _ then _ else _)); rw [if_neg (tp_b_0.mp c87)]; done), rfl⟩
  · refine r_tableIn (tgt := 81) dX6_purseNow_1 (by decide) (by decide) rfl (by decide) ?_
    refine r_aload0 dX6_purseNow_81 ?_
    refine r_iload1 dX6_purseNow_82 ?_
    refine r_iload2 dX6_purseNow_83 ?_
    refine r_pV dX6_purseNow_84 v_X6_80 (M_isLocked hl hT hw hc) rfl (hT.ob) rfl rfl rfl (Nat.le_of_ble_eq_true rfl) ⟨(Nat.le_of_ble_eq_true rfl), (Nat.le_of_ble_eq_true rfl)⟩ ⟨(Nat.le_of_ble_eq_true rfl), (Nat.le_of_ble_eq_true rfl)⟩ ?_
    refine r_if_eq (tgt := 100) dX6_purseNow_87 (by decide) (fun c87 => ?_) (fun c87 => ?_)
    · refine r_iconst (v := (-1)) dX6_purseNow_100 (by decide) ?_
      exact r_iret dX6_purseNow_101 rfl ⟨(Nat.le_of_ble_eq_true rfl), (Nat.le_of_ble_eq_true rfl)⟩ ⟨by first | rfl | (show _ = some (Value.int (z_kept z w c (z_n (z 8)))); rw [hz8, z_nI (by omega)]; done) | (show _ = some (Value.int (z_credit z w c (z_n (z 9)))); rw [hz9, z_nI (by omega)]; done) | (show _ = some (Value.int (if _ then _ else _)); rw [if_pos (tp_b_n c87)]; done) | (show _ = some (Value.int (if _ then _ else _)); rw [if_neg (tp_b_0.mp c87)]; done), rfl⟩
    · refine r_aload0 dX6_purseNow_90 ?_
      refine r_iload1 dX6_purseNow_91 ?_
      refine r_iload2 dX6_purseNow_92 ?_
      refine r_iconst (v := 3) dX6_purseNow_93 (by decide) ?_
      refine r_pV dX6_purseNow_94 v_X6_55 (M_of (j := 3) hl hT hw hc (by omega)) rfl (hT.ob) rfl rfl rfl (Nat.le_of_ble_eq_true rfl) ⟨(Nat.le_of_ble_eq_true rfl), (Nat.le_of_ble_eq_true rfl)⟩ ⟨(Nat.le_of_ble_eq_true rfl), (Nat.le_of_ble_eq_true rfl)⟩ ?_
      refine r_goto (tgt := 101) dX6_purseNow_97 (by decide) ?_
      exact r_iret dX6_purseNow_101 rfl ⟨(Nat.le_of_ble_eq_true rfl), (Nat.le_of_ble_eq_true rfl)⟩ ⟨by first | rfl | (show _ = some (Value.int (z_kept z w c (z_n (z 8)))); rw [hz8, z_nI (by omega)]; done) | (show _ = some (Value.int (z_credit z w c (z_n (z 9)))); rw [hz9, z_nI (by omega)]; done) | (show _ = some (Value.int (if _ then _ else _)); rw [if_pos (tp_b_n c87)]; done) | (show _ = some (Value.int (if _ then _ else _)); rw [if_neg (tp_b_0.mp c87)]; done), rfl⟩
  · refine r_tableIn (tgt := 102) dX6_purseNow_1 (by decide) (by decide) rfl (by decide) ?_
    refine r_aload0 dX6_purseNow_102 ?_
    refine r_iload1 dX6_purseNow_103 ?_
    refine r_iload2 dX6_purseNow_104 ?_
    refine r_pV dX6_purseNow_105 v_X6_191 (M_creditIn hl hT hz9 hP9) rfl (hT.ob) rfl rfl rfl (Nat.le_of_ble_eq_true rfl) ⟨(Nat.le_of_ble_eq_true rfl), (Nat.le_of_ble_eq_true rfl)⟩ ⟨(Nat.le_of_ble_eq_true rfl), (Nat.le_of_ble_eq_true rfl)⟩ ?_
    exact r_iret dX6_purseNow_108 rfl ⟨(Nat.le_of_ble_eq_true rfl), (Nat.le_of_ble_eq_true rfl)⟩ ⟨by first | rfl | (show _ = some (Value.int (z_kept z w c (z_n (z 8)))); rw [hz8, z_nI (by omega)]; done) | (show _ = some (Value.int (z_credit z w c (z_n (z 9)))); rw [hz9, z_nI (by omega)]; done) | (show _ = some (Value.int (if _ then _ else _)); rw [if_pos (tp_b_n c87)]; done) | (show _ = some (Value.int (if _ then _ else _)); rw [if_neg (tp_b_0.mp c87)]; done), rfl⟩
  · refine r_tableOut (tgt := 109) dX6_purseNow_1 (by decide) (by decide) ?_
    refine r_aload0 dX6_purseNow_109 ?_
    refine r_iload1 dX6_purseNow_110 ?_
    refine r_iload2 dX6_purseNow_111 ?_
    refine r_iconst (v := 4) dX6_purseNow_112 (by decide) ?_
    refine r_pV dX6_purseNow_113 v_X6_55 (M_of (j := 4) hl hT hw hc (by omega)) rfl (hT.ob) rfl rfl rfl (Nat.le_of_ble_eq_true rfl) ⟨(Nat.le_of_ble_eq_true rfl), (Nat.le_of_ble_eq_true rfl)⟩ ⟨(Nat.le_of_ble_eq_true rfl), (Nat.le_of_ble_eq_true rfl)⟩ ?_
    exact r_iret dX6_purseNow_116 rfl ⟨(Nat.le_of_ble_eq_true rfl), (Nat.le_of_ble_eq_true rfl)⟩ ⟨by first | rfl | (show _ = some (Value.int (z_kept z w c (z_n (z 8)))); rw [hz8, z_nI (by omega)]; done) | (show _ = some (Value.int (z_credit z w c (z_n (z 9)))); rw [hz9, z_nI (by omega)]; done) | (show _ = some (Value.int (if _ then _ else _)); rw [if_pos (tp_b_n c87)]; done) | (show _ = some (Value.int (if _ then _ else _)); rw [if_neg (tp_b_0.mp c87)]; done), rfl⟩

set_option maxRecDepth 100000 in
set_option maxHeartbeats 4000000 in
theorem M_counted {l : Launch} {G : tp_G} {y : Nat} {h0 h : tp_H} {z hi tx pa : Nat → Int32} {st len thr rd nu du : Int32} {hs : Int64} (hl : l.stackTraces = false) (hT0 : mm_S G y h0 z hi tx pa st len thr rd nu du hs h) {j P : Nat} (hj : j < 14) (hz9 : z 9 = nI P) (hP9 : P ≤ 12) : tp_Met l G mX6_counted 0 0 [.ref y, .int (nI j)] h (tp_PR (.int (z_count z st j)) h) tp_NX := by
  have hT := hT0.self
  refine tp_start (L0 := [some (.ref y), some (.int (nI j))]) (by decide) rfl hl (Nat.le_of_ble_eq_true rfl) rfl ?_
  refine r_iload1 dX6_counted_0 ?_
  rcases (show j = 0 ∨ j = 1 ∨ j = 2 ∨ j = 3 ∨ j = 4 ∨ j = 5 ∨ j = 6 ∨ j = 7 ∨ j = 8 ∨ j = 9 ∨ j = 10 ∨ j = 11 ∨ j = 12 ∨ j = 13 by omega) with rfl | rfl | rfl | rfl | rfl | rfl | rfl | rfl | rfl | rfl | rfl | rfl | rfl | rfl
  · refine r_tableIn (tgt := 72) dX6_counted_1 (by decide) (by decide) rfl (by decide) ?_
    refine r_aload0 dX6_counted_72 ?_
    refine r_getf dX6_counted_73 f_X6_7 (hT.ob) rfl ?_
    refine r_iconst (v := 4) dX6_counted_76 (by decide) ?_
    refine r_iald dX6_counted_77 hT.rz (i := 4) (rfl) (by omega) (by decide) ?_
    exact r_iret dX6_counted_78 rfl ⟨(Nat.le_of_ble_eq_true rfl), (Nat.le_of_ble_eq_true rfl)⟩ ⟨by first | rfl | (show _ = some (Value.int (z_disputed z (z_n (z 9)))); rw [hz9, z_nI (by omega)]; done), rfl⟩
  · refine r_tableIn (tgt := 79) dX6_counted_1 (by decide) (by decide) rfl (by decide) ?_
    refine r_aload0 dX6_counted_79 ?_
    refine r_getf dX6_counted_80 f_X6_7 (hT.ob) rfl ?_
    refine r_bipush (v := 8) dX6_counted_83 (by decide) ?_
    refine r_iload1 dX6_counted_85 ?_
    refine r_iadd dX6_counted_86 ?_
    refine r_iconst (v := 1) dX6_counted_87 (by decide) ?_
    refine r_isub dX6_counted_88 ?_
    refine r_iald dX6_counted_89 hT.rz (i := 8) (rfl) (by omega) (by decide) ?_
    exact r_iret dX6_counted_90 rfl ⟨(Nat.le_of_ble_eq_true rfl), (Nat.le_of_ble_eq_true rfl)⟩ ⟨by first | rfl | (show _ = some (Value.int (z_disputed z (z_n (z 9)))); rw [hz9, z_nI (by omega)]; done), rfl⟩
  · refine r_tableIn (tgt := 79) dX6_counted_1 (by decide) (by decide) rfl (by decide) ?_
    refine r_aload0 dX6_counted_79 ?_
    refine r_getf dX6_counted_80 f_X6_7 (hT.ob) rfl ?_
    refine r_bipush (v := 8) dX6_counted_83 (by decide) ?_
    refine r_iload1 dX6_counted_85 ?_
    refine r_iadd dX6_counted_86 ?_
    refine r_iconst (v := 1) dX6_counted_87 (by decide) ?_
    refine r_isub dX6_counted_88 ?_
    refine r_iald dX6_counted_89 hT.rz (i := 9) (rfl) (by omega) (by decide) ?_
    exact r_iret dX6_counted_90 rfl ⟨(Nat.le_of_ble_eq_true rfl), (Nat.le_of_ble_eq_true rfl)⟩ ⟨by first | rfl | (show _ = some (Value.int (z_disputed z (z_n (z 9)))); rw [hz9, z_nI (by omega)]; done), rfl⟩
  · refine r_tableIn (tgt := 91) dX6_counted_1 (by decide) (by decide) rfl (by decide) ?_
    refine r_aload0 dX6_counted_91 ?_
    refine r_pV dX6_counted_92 v_X6_200 (M_disputed hl hT hz9 hP9) rfl (hT.ob) rfl rfl rfl (Nat.le_of_ble_eq_true rfl) ⟨(Nat.le_of_ble_eq_true rfl), (Nat.le_of_ble_eq_true rfl)⟩ ⟨(Nat.le_of_ble_eq_true rfl), (Nat.le_of_ble_eq_true rfl)⟩ ?_
    exact r_iret dX6_counted_95 rfl ⟨(Nat.le_of_ble_eq_true rfl), (Nat.le_of_ble_eq_true rfl)⟩ ⟨by first | rfl | (show _ = some (Value.int (z_disputed z (z_n (z 9)))); rw [hz9, z_nI (by omega)]; done), rfl⟩
  · refine r_tableIn (tgt := 121) dX6_counted_1 (by decide) (by decide) rfl (by decide) ?_
    refine r_aload0 dX6_counted_121 ?_
    refine r_getf dX6_counted_122 f_X6_7 (hT.ob) rfl ?_
    refine r_bipush (v := 10) dX6_counted_125 (by decide) ?_
    refine r_iload1 dX6_counted_127 ?_
    refine r_iadd dX6_counted_128 ?_
    refine r_iconst (v := 4) dX6_counted_129 (by decide) ?_
    refine r_isub dX6_counted_130 ?_
    refine r_iald dX6_counted_131 hT.rz (i := 10) (rfl) (by omega) (by decide) ?_
    exact r_iret dX6_counted_132 rfl ⟨(Nat.le_of_ble_eq_true rfl), (Nat.le_of_ble_eq_true rfl)⟩ ⟨by first | rfl | (show _ = some (Value.int (z_disputed z (z_n (z 9)))); rw [hz9, z_nI (by omega)]; done), rfl⟩
  · refine r_tableIn (tgt := 121) dX6_counted_1 (by decide) (by decide) rfl (by decide) ?_
    refine r_aload0 dX6_counted_121 ?_
    refine r_getf dX6_counted_122 f_X6_7 (hT.ob) rfl ?_
    refine r_bipush (v := 10) dX6_counted_125 (by decide) ?_
    refine r_iload1 dX6_counted_127 ?_
    refine r_iadd dX6_counted_128 ?_
    refine r_iconst (v := 4) dX6_counted_129 (by decide) ?_
    refine r_isub dX6_counted_130 ?_
    refine r_iald dX6_counted_131 hT.rz (i := 11) (rfl) (by omega) (by decide) ?_
    exact r_iret dX6_counted_132 rfl ⟨(Nat.le_of_ble_eq_true rfl), (Nat.le_of_ble_eq_true rfl)⟩ ⟨by first | rfl | (show _ = some (Value.int (z_disputed z (z_n (z 9)))); rw [hz9, z_nI (by omega)]; done), rfl⟩
  · refine r_tableIn (tgt := 121) dX6_counted_1 (by decide) (by decide) rfl (by decide) ?_
    refine r_aload0 dX6_counted_121 ?_
    refine r_getf dX6_counted_122 f_X6_7 (hT.ob) rfl ?_
    refine r_bipush (v := 10) dX6_counted_125 (by decide) ?_
    refine r_iload1 dX6_counted_127 ?_
    refine r_iadd dX6_counted_128 ?_
    refine r_iconst (v := 4) dX6_counted_129 (by decide) ?_
    refine r_isub dX6_counted_130 ?_
    refine r_iald dX6_counted_131 hT.rz (i := 12) (rfl) (by omega) (by decide) ?_
    exact r_iret dX6_counted_132 rfl ⟨(Nat.le_of_ble_eq_true rfl), (Nat.le_of_ble_eq_true rfl)⟩ ⟨by first | rfl | (show _ = some (Value.int (z_disputed z (z_n (z 9)))); rw [hz9, z_nI (by omega)]; done), rfl⟩
  · refine r_tableIn (tgt := 121) dX6_counted_1 (by decide) (by decide) rfl (by decide) ?_
    refine r_aload0 dX6_counted_121 ?_
    refine r_getf dX6_counted_122 f_X6_7 (hT.ob) rfl ?_
    refine r_bipush (v := 10) dX6_counted_125 (by decide) ?_
    refine r_iload1 dX6_counted_127 ?_
    refine r_iadd dX6_counted_128 ?_
    refine r_iconst (v := 4) dX6_counted_129 (by decide) ?_
    refine r_isub dX6_counted_130 ?_
    refine r_iald dX6_counted_131 hT.rz (i := 13) (rfl) (by omega) (by decide) ?_
    exact r_iret dX6_counted_132 rfl ⟨(Nat.le_of_ble_eq_true rfl), (Nat.le_of_ble_eq_true rfl)⟩ ⟨by first | rfl | (show _ = some (Value.int (z_disputed z (z_n (z 9)))); rw [hz9, z_nI (by omega)]; done), rfl⟩
  · refine r_tableIn (tgt := 121) dX6_counted_1 (by decide) (by decide) rfl (by decide) ?_
    refine r_aload0 dX6_counted_121 ?_
    refine r_getf dX6_counted_122 f_X6_7 (hT.ob) rfl ?_
    refine r_bipush (v := 10) dX6_counted_125 (by decide) ?_
    refine r_iload1 dX6_counted_127 ?_
    refine r_iadd dX6_counted_128 ?_
    refine r_iconst (v := 4) dX6_counted_129 (by decide) ?_
    refine r_isub dX6_counted_130 ?_
    refine r_iald dX6_counted_131 hT.rz (i := 14) (rfl) (by omega) (by decide) ?_
    exact r_iret dX6_counted_132 rfl ⟨(Nat.le_of_ble_eq_true rfl), (Nat.le_of_ble_eq_true rfl)⟩ ⟨by first | rfl | (show _ = some (Value.int (z_disputed z (z_n (z 9)))); rw [hz9, z_nI (by omega)]; done), rfl⟩
  · refine r_tableIn (tgt := 96) dX6_counted_1 (by decide) (by decide) rfl (by decide) ?_
    refine r_aload0 dX6_counted_96 ?_
    refine r_getf dX6_counted_97 f_X6_7 (hT.ob) rfl ?_
    refine r_iconst (v := 4) dX6_counted_100 (by decide) ?_
    refine r_iload1 dX6_counted_101 ?_
    refine r_iadd dX6_counted_102 ?_
    refine r_bipush (v := 8) dX6_counted_103 (by decide) ?_
    refine r_isub dX6_counted_105 ?_
    refine r_iald dX6_counted_106 hT.rz (i := 5) (rfl) (by omega) (by decide) ?_
    exact r_iret dX6_counted_107 rfl ⟨(Nat.le_of_ble_eq_true rfl), (Nat.le_of_ble_eq_true rfl)⟩ ⟨by first | rfl | (show _ = some (Value.int (z_disputed z (z_n (z 9)))); rw [hz9, z_nI (by omega)]; done), rfl⟩
  · refine r_tableIn (tgt := 96) dX6_counted_1 (by decide) (by decide) rfl (by decide) ?_
    refine r_aload0 dX6_counted_96 ?_
    refine r_getf dX6_counted_97 f_X6_7 (hT.ob) rfl ?_
    refine r_iconst (v := 4) dX6_counted_100 (by decide) ?_
    refine r_iload1 dX6_counted_101 ?_
    refine r_iadd dX6_counted_102 ?_
    refine r_bipush (v := 8) dX6_counted_103 (by decide) ?_
    refine r_isub dX6_counted_105 ?_
    refine r_iald dX6_counted_106 hT.rz (i := 6) (rfl) (by omega) (by decide) ?_
    exact r_iret dX6_counted_107 rfl ⟨(Nat.le_of_ble_eq_true rfl), (Nat.le_of_ble_eq_true rfl)⟩ ⟨by first | rfl | (show _ = some (Value.int (z_disputed z (z_n (z 9)))); rw [hz9, z_nI (by omega)]; done), rfl⟩
  · refine r_tableIn (tgt := 96) dX6_counted_1 (by decide) (by decide) rfl (by decide) ?_
    refine r_aload0 dX6_counted_96 ?_
    refine r_getf dX6_counted_97 f_X6_7 (hT.ob) rfl ?_
    refine r_iconst (v := 4) dX6_counted_100 (by decide) ?_
    refine r_iload1 dX6_counted_101 ?_
    refine r_iadd dX6_counted_102 ?_
    refine r_bipush (v := 8) dX6_counted_103 (by decide) ?_
    refine r_isub dX6_counted_105 ?_
    refine r_iald dX6_counted_106 hT.rz (i := 7) (rfl) (by omega) (by decide) ?_
    exact r_iret dX6_counted_107 rfl ⟨(Nat.le_of_ble_eq_true rfl), (Nat.le_of_ble_eq_true rfl)⟩ ⟨by first | rfl | (show _ = some (Value.int (z_disputed z (z_n (z 9)))); rw [hz9, z_nI (by omega)]; done), rfl⟩
  · refine r_tableIn (tgt := 108) dX6_counted_1 (by decide) (by decide) rfl (by decide) ?_
    refine r_aload0 dX6_counted_108 ?_
    refine r_getf dX6_counted_109 f_X6_7 (hT.ob) rfl ?_
    refine r_bipush (v := 15) dX6_counted_112 (by decide) ?_
    refine r_iald dX6_counted_114 hT.rz (i := 15) (rfl) (by omega) (by decide) ?_
    exact r_iret dX6_counted_115 rfl ⟨(Nat.le_of_ble_eq_true rfl), (Nat.le_of_ble_eq_true rfl)⟩ ⟨by first | rfl | (show _ = some (Value.int (z_disputed z (z_n (z 9)))); rw [hz9, z_nI (by omega)]; done), rfl⟩
  · refine r_tableIn (tgt := 116) dX6_counted_1 (by decide) (by decide) rfl (by decide) ?_
    refine r_aload0 dX6_counted_116 ?_
    refine r_getf dX6_counted_117 f_X6_26 (hT.ob) rfl ?_
    exact r_iret dX6_counted_120 rfl ⟨(Nat.le_of_ble_eq_true rfl), (Nat.le_of_ble_eq_true rfl)⟩ ⟨by first | rfl | (show _ = some (Value.int (z_disputed z (z_n (z 9)))); rw [hz9, z_nI (by omega)]; done), rfl⟩

