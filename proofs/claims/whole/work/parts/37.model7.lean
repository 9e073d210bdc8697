def z_clT (z : Nat → Int32) (w : Nat) : Nat → Int32
  | 0 => z (z_at w 0)
  | i + 1 => z_clT z w i + z_brings z w (i + 1) 0 (z (z_at w (i + 1)))
set_option maxRecDepth 100000 in
set_option maxHeartbeats 4000000 in
theorem M_neededFor_lp {l : Launch} {G : tp_G} {y : Nat} {h0 h : tp_H} {z hi tx pa : Nat → Int32} {st len thr rd nu du : Int32} {hs : Int64} (hl : l.stackTraces = false) (hT0 : mm_S G y h0 z hi tx pa st len thr rd nu du hs h) {w c a r s : Nat} (hw : w < 4) (hc : c < 4) (hr : z_rate z w c = nI r) (hr0 : 100 ≤ r ∧ r ≤ 2000) (hs : z 1 = nI s) (hs2 : s ≤ 100) (ha : 1 ≤ a ∧ a ≤ 9999) : ∀ d (lo up : Nat) (a6 : Option Value), up ≤ lo + d → lo ≤ up → up ≤ 200000 → a ≤ z_net r s up → (∀ j, j < lo → z_net r s j < a) → tp_Run l G mX6_neededFor (tp_rm mX6_neededFor 0 0) (tp_QM G 0 0 (tp_PR (.int (nI (z_need r s a))) h) tp_NX) 0 0 h 7 [some (.ref y), some (.int (nI w)), some (.int (nI c)), some (.int (nI a)), some (.int (nI lo)), some (.int (nI up)), a6] [] := by
  intro d
  have hT := hT0.self
  induction d with
  | zero =>
    intro lo up a6 hd h1 h2 h3 h4
    refine r_iload4 dX6_neededFor_7 ?_
    refine r_iload5 dX6_neededFor_9 ?_
    refine r_icmp_ge (tgt := 52) dX6_neededFor_11 (by decide) (fun c11 => ?_) (fun c11 => ?_)
    · refine r_iload4 dX6_neededFor_52 ?_
      exact r_iret dX6_neededFor_54 rfl ⟨(Nat.le_of_ble_eq_true rfl), (Nat.le_of_ble_eq_true rfl)⟩ ⟨by rw [tp_le (by omega) (by omega)] at c11; rw [show up = lo by omega] at h3; rw [z_need_eq (show lo ≤ 200000 by omega) h3 h4], rfl⟩
    · rw [tp_le (by omega) (by omega)] at c11; omega
  | succ d ih =>
    intro lo up a6 hd h1 h2 h3 h4
    refine r_iload4 dX6_neededFor_7 ?_
    refine r_iload5 dX6_neededFor_9 ?_
    refine r_icmp_ge (tgt := 52) dX6_neededFor_11 (by decide) (fun c11 => ?_) (fun c11 => ?_)
    · refine r_iload4 dX6_neededFor_52 ?_
      exact r_iret dX6_neededFor_54 rfl ⟨(Nat.le_of_ble_eq_true rfl), (Nat.le_of_ble_eq_true rfl)⟩ ⟨by rw [tp_le (by omega) (by omega)] at c11; rw [show up = lo by omega] at h3; rw [z_need_eq (show lo ≤ 200000 by omega) h3 h4], rfl⟩
    · have hlt : lo < up := by rw [tp_le (by omega) (by omega)] at c11; omega
      refine r_iload4 dX6_neededFor_14 ?_
      refine r_iload5 dX6_neededFor_16 ?_
      refine r_iadd dX6_neededFor_18 ?_
      refine r_iconst (v := 2) dX6_neededFor_19 (by decide) ?_
      refine r_idiv dX6_neededFor_20 (by decide) ?_
      have e21 : (nI lo + nI up) / 2 = nI ((lo + up) / 2) := by
        rw [tp_add]; exact pk_div (d := 2) (by omega) (by omega) (by omega)
      rw [e21]
      refine r_istore6 dX6_neededFor_21 (Nat.le_of_ble_eq_true rfl) rfl ?_
      refine r_aload0 dX6_neededFor_23 ?_
      refine r_iload1 dX6_neededFor_24 ?_
      refine r_iconst (v := 0) dX6_neededFor_25 (by decide) ?_
      refine r_iload2 dX6_neededFor_26 ?_
      refine r_iload6 dX6_neededFor_27 ?_
      refine r_pV dX6_neededFor_29 v_X6_206 (M_brings (w := w) (f := 0) (t := c) hl hT hw (by omega) hc (show ¬ (z_rate z w c).toInt64 = 0 by rw [hr, nI_l (by omega)]; exact fun q => absurd ((lN_eq (by omega) (by omega)).mp (q.trans (show (0 : Int64) = lN 0 from rfl))) (by omega))) rfl (hT.ob) rfl rfl rfl (Nat.le_of_ble_eq_true rfl) ⟨(Nat.le_of_ble_eq_true rfl), (Nat.le_of_ble_eq_true rfl)⟩ ⟨(Nat.le_of_ble_eq_true rfl), (Nat.le_of_ble_eq_true rfl)⟩ ?_
      have em : 1000 * ((lo + up) / 2) / r ≤ 2000000 := by
        have q := Nat.div_le_div_left (show 100 ≤ r from hr0.1) (show 0 < 100 by omega) (a := 1000 * ((lo + up) / 2))
        omega
      have eb := z_brings_eq (m := (lo + up) / 2) hr (by omega) (by omega) hs (by omega) (by omega) (by omega)
      have en : z_net r s ((lo + up) / 2) ≤ 2000000 := by
        unfold z_net
        omega
      refine r_iload3 dX6_neededFor_32 ?_
      refine r_icmp_ge (tgt := 45) dX6_neededFor_33 (by decide) (fun c33 => ?_) (fun c33 => ?_)
      · rw [eb, tp_le (by omega) (by omega)] at c33
        refine r_iload6 dX6_neededFor_45 ?_
        refine r_istore5 dX6_neededFor_47 (Nat.le_of_ble_eq_true rfl) rfl ?_
        refine r_goto (tgt := 7) dX6_neededFor_49 (by decide) ?_
        first | exact ih lo ((lo + up) / 2) _ (by omega) (by omega) (by omega) c33 h4 | exact (ih ((lo + up) / 2 + 1) up _ (by omega) (by omega) (by omega) h3 (fun j hj => Nat.lt_of_le_of_lt (z_net_mono (by omega) (show j ≤ (lo + up) / 2 by omega)) (Nat.not_le.mp c33)))
      · rw [eb, tp_le (by omega) (by omega)] at c33
        refine r_iload6 dX6_neededFor_36 ?_
        refine r_iconst (v := 1) dX6_neededFor_38 (by decide) ?_
        refine r_iadd dX6_neededFor_39 ?_
        rw [tp_1]
        refine r_istore4 dX6_neededFor_40 (Nat.le_of_ble_eq_true rfl) rfl ?_
        refine r_goto (tgt := 49) dX6_neededFor_42 (by decide) ?_
        refine r_goto (tgt := 7) dX6_neededFor_49 (by decide) ?_
        first | exact ih lo ((lo + up) / 2) _ (by omega) (by omega) (by omega) c33 h4 | exact (ih ((lo + up) / 2 + 1) up _ (by omega) (by omega) (by omega) h3 (fun j hj => Nat.lt_of_le_of_lt (z_net_mono (by omega) (show j ≤ (lo + up) / 2 by omega)) (Nat.not_le.mp c33)))

set_option maxRecDepth 100000 in
set_option maxHeartbeats 4000000 in
theorem M_neededFor {l : Launch} {G : tp_G} {y : Nat} {h0 h : tp_H} {z hi tx pa : Nat → Int32} {st len thr rd nu du : Int32} {hs : Int64} (hl : l.stackTraces = false) (hT0 : mm_S G y h0 z hi tx pa st len thr rd nu du hs h) {w c a r s : Nat} (hw : w < 4) (hc : c < 4) (hr : z_rate z w c = nI r) (hr0 : 100 ≤ r ∧ r ≤ 2000) (hs : z 1 = nI s) (hs2 : s ≤ 100) (ha : 1 ≤ a ∧ a ≤ 9999) : tp_Met l G mX6_neededFor 0 0 [.ref y, .int (nI w), .int (nI c), .int (nI a)] h (tp_PR (.int (nI (z_need r s a))) h) tp_NX := by
  have hT := hT0.self
  refine tp_start (L0 := [some (.ref y), some (.int (nI w)), some (.int (nI c)), some (.int (nI a)), none, none, none]) (by decide) rfl hl (Nat.le_of_ble_eq_true rfl) rfl ?_
  refine r_iconst (v := 1) dX6_neededFor_0 (by decide) ?_
  refine r_istore4 dX6_neededFor_1 (Nat.le_of_ble_eq_true rfl) rfl ?_
  refine r_ldc dX6_neededFor_3 c_X6_212 ?_
  refine r_istore5 dX6_neededFor_5 (Nat.le_of_ble_eq_true rfl) rfl ?_
  exact M_neededFor_lp hl hT hw hc hr hr0 hs hs2 ha 200000 1 200000 none (by omega) (by omega) (by omega) (z_net_top (by omega) (by omega) hs2 ha.2) (fun j hj => by rw [show j = 0 by omega, z_net0]; omega)

set_option maxRecDepth 100000 in
set_option maxHeartbeats 4000000 in
theorem M_roomOf_lp {l : Launch} {G : tp_G} {y : Nat} {h0 h : tp_H} {z hi tx pa : Nat → Int32} {st len thr rd nu du : Int32} {hs : Int64} (hl : l.stackTraces = false) (hT0 : mm_S G y h0 z hi tx pa st len thr rd nu du hs h) {w c t f N : Nat} (hw : w < 4) (hc : c < 4) (hz8 : z 8 = nI N) (hN : N ≤ 8) (hf : z_free z w c = nI f) (hf2 : f < 2 ^ 30) (ht : z 2 = nI t) (ht2 : t ≤ 100) : ∀ d (lo up : Nat) (a6 : Option Value), up ≤ lo + d → lo ≤ up → up ≤ 99999 → z_tipN t lo ≤ f → (up = 99999 ∨ f < z_tipN t (up + 1)) → tp_Run l G mX6_roomOf (tp_rm mX6_roomOf 0 0) (tp_QM G 0 0 (tp_PR (.int (nI (z_room t f))) h) tp_NX) 0 0 h 14 [some (.ref y), some (.int (nI w)), some (.int (nI c)), some (.int (nI f)), some (.int (nI lo)), some (.int (nI up)), a6] [] := by
  intro d
  have hT := hT0.self
  induction d with
  | zero =>
    intro lo up a6 hd h1 h2 h3 h4
    refine r_iload4 dX6_roomOf_14 ?_
    refine r_iload5 dX6_roomOf_16 ?_
    refine r_icmp_ge (tgt := 58) dX6_roomOf_18 (by decide) (fun c18 => ?_) (fun c18 => ?_)
    · refine r_iload4 dX6_roomOf_58 ?_
      exact r_iret dX6_roomOf_60 rfl ⟨(Nat.le_of_ble_eq_true rfl), (Nat.le_of_ble_eq_true rfl)⟩ ⟨by rw [tp_le (by omega) (by omega)] at c18; rw [show up = lo by omega] at h4; rw [z_room_eq (show lo ≤ 99999 by omega) h3 h4], rfl⟩
    · rw [tp_le (by omega) (by omega)] at c18; omega
  | succ d ih =>
    intro lo up a6 hd h1 h2 h3 h4
    refine r_iload4 dX6_roomOf_14 ?_
    refine r_iload5 dX6_roomOf_16 ?_
    refine r_icmp_ge (tgt := 58) dX6_roomOf_18 (by decide) (fun c18 => ?_) (fun c18 => ?_)
    · refine r_iload4 dX6_roomOf_58 ?_
      exact r_iret dX6_roomOf_60 rfl ⟨(Nat.le_of_ble_eq_true rfl), (Nat.le_of_ble_eq_true rfl)⟩ ⟨by rw [tp_le (by omega) (by omega)] at c18; rw [show up = lo by omega] at h4; rw [z_room_eq (show lo ≤ 99999 by omega) h3 h4], rfl⟩
    · have hlt : lo < up := by rw [tp_le (by omega) (by omega)] at c18; omega
      refine r_iload4 dX6_roomOf_21 ?_
      refine r_iload5 dX6_roomOf_23 ?_
      refine r_iadd dX6_roomOf_25 ?_
      refine r_iconst (v := 1) dX6_roomOf_26 (by decide) ?_
      refine r_iadd dX6_roomOf_27 ?_
      refine r_iconst (v := 2) dX6_roomOf_28 (by decide) ?_
      refine r_idiv dX6_roomOf_29 (by decide) ?_
      have e30 : (nI lo + nI up + 1) / 2 = nI ((lo + up + 1) / 2) := by
        rw [tp_add, tp_1]; exact pk_div (d := 2) (by omega) (by omega) (by omega)
      rw [e30]
      refine r_istore6 dX6_roomOf_30 (Nat.le_of_ble_eq_true rfl) rfl ?_
      refine r_aload0 dX6_roomOf_32 ?_
      refine r_iload6 dX6_roomOf_33 ?_
      refine r_pV dX6_roomOf_35 v_X6_111 (M_withTip hl hT) rfl (hT.ob) rfl rfl rfl (Nat.le_of_ble_eq_true rfl) ⟨(Nat.le_of_ble_eq_true rfl), (Nat.le_of_ble_eq_true rfl)⟩ ⟨(Nat.le_of_ble_eq_true rfl), (Nat.le_of_ble_eq_true rfl)⟩ ?_
      have eb := z_tip_eq (m := (lo + up + 1) / 2) ht ht2 (by omega)
      have en : z_tipN t ((lo + up + 1) / 2) ≤ 200000 := by
        have q : (lo + up + 1) / 2 * t ≤ (lo + up + 1) / 2 * 100 := Nat.mul_le_mul_left _ ht2
        unfold z_tipN
        omega
      refine r_iload3 dX6_roomOf_38 ?_
      refine r_icmp_gt (tgt := 49) dX6_roomOf_39 (by decide) (fun c39 => ?_) (fun c39 => ?_)
      · rw [eb, tp_lt (by omega) (by omega)] at c39
        refine r_iload6 dX6_roomOf_49 ?_
        refine r_iconst (v := 1) dX6_roomOf_51 (by decide) ?_
        refine r_isub dX6_roomOf_52 ?_
        rw [show nI ((lo + up + 1) / 2) - 1 = nI ((lo + up + 1) / 2 - 1) from tp_m1 (by omega)]
        refine r_istore5 dX6_roomOf_53 (Nat.le_of_ble_eq_true rfl) rfl ?_
        refine r_goto (tgt := 14) dX6_roomOf_55 (by decide) ?_
        first | exact ih ((lo + up + 1) / 2) up _ (by omega) (by omega) (by omega) (Nat.not_lt.mp c39) h4 | exact (ih lo ((lo + up + 1) / 2 - 1) _ (by omega) (by omega) (by omega) h3 (Or.inr (by rw [Nat.sub_add_cancel (by omega)]; exact c39)))
      · rw [eb, tp_lt (by omega) (by omega)] at c39
        refine r_iload6 dX6_roomOf_42 ?_
        refine r_istore4 dX6_roomOf_44 (Nat.le_of_ble_eq_true rfl) rfl ?_
        refine r_goto (tgt := 55) dX6_roomOf_46 (by decide) ?_
        refine r_goto (tgt := 14) dX6_roomOf_55 (by decide) ?_
        first | exact ih ((lo + up + 1) / 2) up _ (by omega) (by omega) (by omega) (Nat.not_lt.mp c39) h4 | exact (ih lo ((lo + up + 1) / 2 - 1) _ (by omega) (by omega) (by omega) h3 (Or.inr (by rw [Nat.sub_add_cancel (by omega)]; exact c39)))

set_option maxRecDepth 100000 in
set_option maxHeartbeats 4000000 in
theorem M_roomOf {l : Launch} {G : tp_G} {y : Nat} {h0 h : tp_H} {z hi tx pa : Nat → Int32} {st len thr rd nu du : Int32} {hs : Int64} (hl : l.stackTraces = false) (hT0 : mm_S G y h0 z hi tx pa st len thr rd nu du hs h) {w c t f N : Nat} (hw : w < 4) (hc : c < 4) (hz8 : z 8 = nI N) (hN : N ≤ 8) (hf : z_free z w c = nI f) (hf2 : f < 2 ^ 30) (ht : z 2 = nI t) (ht2 : t ≤ 100) : tp_Met l G mX6_roomOf 0 0 [.ref y, .int (nI w), .int (nI c)] h (tp_PR (.int (nI (z_room t f))) h) tp_NX := by
  have hT := hT0.self
  refine tp_start (L0 := [some (.ref y), some (.int (nI w)), some (.int (nI c)), none, none, none, none]) (by decide) rfl hl (Nat.le_of_ble_eq_true rfl) rfl ?_
  refine r_aload0 dX6_roomOf_0 ?_
  refine r_iload1 dX6_roomOf_1 ?_
  refine r_iload2 dX6_roomOf_2 ?_
  refine r_pV dX6_roomOf_3 v_X6_102 (M_freeOf hl hT hw hc hz8 hN) rfl (hT.ob) rfl rfl rfl (Nat.le_of_ble_eq_true rfl) ⟨(Nat.le_of_ble_eq_true rfl), (Nat.le_of_ble_eq_true rfl)⟩ ⟨(Nat.le_of_ble_eq_true rfl), (Nat.le_of_ble_eq_true rfl)⟩ ?_
  rw [hf]
  refine r_istore3 dX6_roomOf_6 (Nat.le_of_ble_eq_true rfl) rfl ?_
  refine r_iconst (v := 0) dX6_roomOf_7 (by decide) ?_
  refine r_istore4 dX6_roomOf_8 (Nat.le_of_ble_eq_true rfl) rfl ?_
  refine r_ldc dX6_roomOf_10 c_X6_44 ?_
  refine r_istore5 dX6_roomOf_12 (Nat.le_of_ble_eq_true rfl) rfl ?_
  exact M_roomOf_lp hl hT hw hc hz8 hN hf hf2 ht ht2 99999 0 99999 none (by omega) (by omega) (by omega) (by rw [z_tipN0]; omega) (Or.inl rfl)

set_option maxRecDepth 100000 in
set_option maxHeartbeats 4000000 in
theorem M_closedThen_lp {l : Launch} {G : tp_G} {y : Nat} {h0 h : tp_H} {z hi tx pa : Nat → Int32} {st len thr rd nu du : Int32} {hs : Int64} (hl : l.stackTraces = false) (hT0 : mm_S G y h0 z hi tx pa st len thr rd nu du hs h) {w N P : Nat} (hw : w < 4) (hz8 : z 8 = nI N) (hN : N ≤ 8) (hz9 : z 9 = nI P) (hP9 : P ≤ 12) (c0 : ¬ 0 < z_whyClose z w) : ∀ d (c : Nat) (a4 : Option Value), c + d = 3 → tp_Run l G mX6_closedThen (tp_rm mX6_closedThen 0 0) (tp_QM G 0 0 (tp_PR (.int (z_closed z w)) h) tp_NX) 0 0 h 20 [some (.ref y), some (.int (nI w)), some (.int (z_clT z w c)), some (.int (nI (c + 1))), a4] [] := by
  intro d
  have hT := hT0.self
  induction d with
  | zero =>
    intro c a4 hd
    refine r_iload3 dX6_closedThen_20 ?_
    refine r_iconst (v := 4) dX6_closedThen_21 (by decide) ?_
    refine r_icmp_ge (tgt := 52) dX6_closedThen_22 (by decide) (fun c22 => ?_) (fun c22 => ?_)
    · refine r_iload2 dX6_closedThen_52 ?_
      exact r_iret dX6_closedThen_53 rfl ⟨(Nat.le_of_ble_eq_true rfl), (Nat.le_of_ble_eq_true rfl)⟩ ⟨by unfold z_closed; rw [if_neg c0, show c = 3 by omega]; rfl, rfl⟩
    · rw [show (4 : Int32) = nI 4 from rfl, tp_le (by omega) (by omega)] at c22; omega
  | succ d ih =>
    intro c a4 hd
    refine r_iload3 dX6_closedThen_20 ?_
    refine r_iconst (v := 4) dX6_closedThen_21 (by decide) ?_
    refine r_icmp_ge (tgt := 52) dX6_closedThen_22 (by decide) (fun c22 => ?_) (fun c22 => ?_)
    · rw [show (4 : Int32) = nI 4 from rfl, tp_le (by omega) (by omega)] at c22; omega
    · refine r_aload0 dX6_closedThen_25 ?_
      refine r_iload1 dX6_closedThen_26 ?_
      refine r_iload3 dX6_closedThen_27 ?_
      refine r_iconst (v := 0) dX6_closedThen_28 (by decide) ?_
      refine r_aload0 dX6_closedThen_29 ?_
      refine r_iload1 dX6_closedThen_30 ?_
      refine r_iload3 dX6_closedThen_31 ?_
      refine r_iconst (v := 0) dX6_closedThen_32 (by decide) ?_
      refine r_pV dX6_closedThen_33 v_X6_55 (M_of (j := 0) hl hT hw (by omega) (by omega)) rfl (hT.ob) rfl rfl rfl (Nat.le_of_ble_eq_true rfl) ⟨(Nat.le_of_ble_eq_true rfl), (Nat.le_of_ble_eq_true rfl)⟩ ⟨(Nat.le_of_ble_eq_true rfl), (Nat.le_of_ble_eq_true rfl)⟩ ?_
      refine r_pV dX6_closedThen_36 v_X6_206 (M_brings (w := w) (f := c + 1) (t := 0) hl hT hw (by omega) (by omega) (z_rate0 _ _)) rfl (hT.ob) rfl rfl rfl (Nat.le_of_ble_eq_true rfl) ⟨(Nat.le_of_ble_eq_true rfl), (Nat.le_of_ble_eq_true rfl)⟩ ⟨(Nat.le_of_ble_eq_true rfl), (Nat.le_of_ble_eq_true rfl)⟩ ?_
      refine r_istore4 dX6_closedThen_39 (Nat.le_of_ble_eq_true rfl) rfl ?_
      refine r_iload2 dX6_closedThen_41 ?_
      refine r_iload4 dX6_closedThen_42 ?_
      refine r_iadd dX6_closedThen_44 ?_
      refine r_istore2 dX6_closedThen_45 (Nat.le_of_ble_eq_true rfl) rfl ?_
      refine r_iinc3 (v := nI ((c + 1) + 1)) dX6_closedThen_46 (Nat.le_of_ble_eq_true rfl) rfl (tp_inc (c + 1)) ?_
      exact r_goto (tgt := 20) dX6_closedThen_49 (by decide) (ih (c + 1) _ (by omega))

set_option maxRecDepth 100000 in
set_option maxHeartbeats 4000000 in
theorem M_closedThen {l : Launch} {G : tp_G} {y : Nat} {h0 h : tp_H} {z hi tx pa : Nat → Int32} {st len thr rd nu du : Int32} {hs : Int64} (hl : l.stackTraces = false) (hT0 : mm_S G y h0 z hi tx pa st len thr rd nu du hs h) {w N P : Nat} (hw : w < 4) (hz8 : z 8 = nI N) (hN : N ≤ 8) (hz9 : z 9 = nI P) (hP9 : P ≤ 12) : tp_Met l G mX6_closedThen 0 0 [.ref y, .int (nI w)] h (tp_PR (.int (z_closed z w)) h) tp_NX := by
  have hT := hT0.self
  refine tp_start (L0 := [some (.ref y), some (.int (nI w)), none, none, none]) (by decide) rfl hl (Nat.le_of_ble_eq_true rfl) rfl ?_
  refine r_aload0 dX6_closedThen_0 ?_
  refine r_iload1 dX6_closedThen_1 ?_
  refine r_pV dX6_closedThen_2 v_X6_148 (M_whyNoClosing hl hT hw hz8 hN hz9 hP9) rfl (hT.ob) rfl rfl rfl (Nat.le_of_ble_eq_true rfl) ⟨(Nat.le_of_ble_eq_true rfl), (Nat.le_of_ble_eq_true rfl)⟩ ⟨(Nat.le_of_ble_eq_true rfl), (Nat.le_of_ble_eq_true rfl)⟩ ?_
  refine r_if_le (tgt := 10) dX6_closedThen_5 (by decide) (fun c5 => ?_) (fun c5 => ?_)
  · refine r_aload0 dX6_closedThen_10 ?_
    refine r_iload1 dX6_closedThen_11 ?_
    refine r_iconst (v := 0) dX6_closedThen_12 (by decide) ?_
    refine r_iconst (v := 0) dX6_closedThen_13 (by decide) ?_
    refine r_pV dX6_closedThen_14 v_X6_55 (M_of (c := 0) (j := 0) hl hT hw (by omega) (by omega)) rfl (hT.ob) rfl rfl rfl (Nat.le_of_ble_eq_true rfl) ⟨(Nat.le_of_ble_eq_true rfl), (Nat.le_of_ble_eq_true rfl)⟩ ⟨(Nat.le_of_ble_eq_true rfl), (Nat.le_of_ble_eq_true rfl)⟩ ?_
    refine r_istore2 dX6_closedThen_17 (Nat.le_of_ble_eq_true rfl) rfl ?_
    refine r_iconst (v := 1) dX6_closedThen_18 (by decide) ?_
    refine r_istore3 dX6_closedThen_19 (Nat.le_of_ble_eq_true rfl) rfl ?_
    exact M_closedThen_lp hl hT hw hz8 hN hz9 hP9 (Int32.not_lt.mpr c5) 3 0 none (by omega)
  · refine r_iconst (v := (-1)) dX6_closedThen_8 (by decide) ?_
    exact r_iret dX6_closedThen_9 rfl ⟨(Nat.le_of_ble_eq_true rfl), (Nat.le_of_ble_eq_true rfl)⟩ ⟨by unfold z_closed; rw [if_pos (Int32.not_le.mp c5)], rfl⟩

set_option maxRecDepth 100000 in
set_option maxHeartbeats 4000000 in
theorem M_share {l : Launch} {G : tp_G} {y : Nat} {h0 h : tp_H} {z hi tx pa : Nat → Int32} {st len thr rd nu du : Int32} {hs : Int64} (hl : l.stackTraces = false) (hT0 : mm_S G y h0 z hi tx pa st len thr rd nu du hs h) {w c N : Nat} (hw : w < 4) (hc : c < 4) (hz8 : z 8 = nI N) (hN : N ≤ 8) (hq : ¬ z (z_at w c) = 0 → vf_n64 (FP.ddiv (FP.i2d (z_kept z w c N)) (FP.i2d (z (z_at w c))))) : tp_Met l G mX6_share 0 0 [.ref y, .int (nI w), .int (nI c)] h (tp_PR (.double (z_share z w c)) h) tp_NX := by
  have hT := hT0.self
  refine tp_start (L0 := [some (.ref y), some (.int (nI w)), some (.int (nI c)), none]) (by decide) rfl hl (Nat.le_of_ble_eq_true rfl) rfl ?_
  refine r_aload0 dX6_share_0 ?_
  refine r_iload1 dX6_share_1 ?_
  refine r_iload2 dX6_share_2 ?_
  refine r_iconst (v := 0) dX6_share_3 (by decide) ?_
  refine r_pV dX6_share_4 v_X6_55 (M_of (j := 0) hl hT hw hc (by omega)) rfl (hT.ob) rfl rfl rfl (Nat.le_of_ble_eq_true rfl) ⟨(Nat.le_of_ble_eq_true rfl), (Nat.le_of_ble_eq_true rfl)⟩ ⟨(Nat.le_of_ble_eq_true rfl), (Nat.le_of_ble_eq_true rfl)⟩ ?_
  refine r_istore3 dX6_share_7 (Nat.le_of_ble_eq_true rfl) rfl ?_
  refine r_iload3 dX6_share_8 ?_
  refine r_if_ne (tgt := 16) dX6_share_9 (by decide) (fun c9 => ?_) (fun c9 => ?_)
  · refine r_aload0 dX6_share_16 ?_
    refine r_iload1 dX6_share_17 ?_
    refine r_iload2 dX6_share_18 ?_
    refine r_pV dX6_share_19 v_X6_59 (M_keptOf hl hT hz8 hN) rfl (hT.ob) rfl rfl rfl (Nat.le_of_ble_eq_true rfl) ⟨(Nat.le_of_ble_eq_true rfl), (Nat.le_of_ble_eq_true rfl)⟩ ⟨(Nat.le_of_ble_eq_true rfl), (Nat.le_of_ble_eq_true rfl)⟩ ?_
    refine r_i2d dX6_share_22 ?_
    refine r_iload3 dX6_share_23 ?_
    refine r_i2d dX6_share_24 ?_
    refine r_ddiv dX6_share_25 (hq c9) ?_
    exact r_dret dX6_share_26 rfl ⟨(Nat.le_of_ble_eq_true rfl), (Nat.le_of_ble_eq_true rfl)⟩ ⟨by unfold z_share; rw [hz8, z_nI (by omega)]; first | (rw [if_pos (show z (z_at w c) = 0 from c9)]; done) | (rw [if_neg (show ¬ z (z_at w c) = 0 from c9)]; rfl), rfl⟩
  · refine r_dconst0 dX6_share_12 ?_
    refine r_goto (tgt := 26) dX6_share_13 (by decide) ?_
    exact r_dret dX6_share_26 rfl ⟨(Nat.le_of_ble_eq_true rfl), (Nat.le_of_ble_eq_true rfl)⟩ ⟨by unfold z_share; rw [hz8, z_nI (by omega)]; first | (rw [if_pos (show z (z_at w c) = 0 from c9)]; done) | (rw [if_neg (show ¬ z (z_at w c) = 0 from c9)]; rfl), rfl⟩

