def k_exThen (u : Nat → Int32) (w f t : Nat) (a : Int32) : Int32 := if f = t ∨ (0 < f ∧ 0 < t) then -1 else k_net u w f t a
def k_needOf (u : Nat → Int32) (w c a : Nat) : Nat := z_need (z_n (k_rate u w c)) (z_n (u 1)) a
def k_mixP (u : Nat → Int32) (w c : Nat) (h : Int64) : Int64 := 31 * (31 * z_mixN (fun j => (k_purse u w c j).toInt64) 8 h + (nI (z_roomOf u w c)).toInt64) + (z_share u w c).toInt64
def k_mixW (u : Nat → Int32) (w : Nat) (h : Int64) : Int64 := 31 * (31 * (31 * (31 * (31 * z_mixC (k_mixP u w) 4 h + (k_exThen u w 0 1 1000).toInt64) + (k_exThen u w 2 0 1000).toInt64) + (nI (k_needOf u w 3 500)).toInt64) + (z_whyClose u w).toInt64) + (k_closed u w).toInt64
def k_digest (u tx : Nat → Int32) (st : Int32) (len : Nat) : Int64 :=
  z_mixN (fun j => (tx j).toInt64) len (31 * z_mixN (fun j => (k_payn u (j / 6) (j % 6)).toInt64) (6 * z_n (u 9)) (z_mixN (fun j => (u (96 + j)).toInt64) (5 * z_n (u 8)) (z_mixC (k_mixW u) 4 (z_mixN (fun j => (u j).toInt64) 4 (z_mixN (fun j => (z_count u st j).toInt64) 14 2551)))) + (nI len).toInt64)
def k_I2 (u : Nat → Int32) : Prop := ∀ w c, w < 4 → c < 4 → (∃ r, k_rate u w c = nI r ∧ 100 ≤ r ∧ r ≤ 2000) ∧ (∃ f, z_free u w c = nI f ∧ f < 2 ^ 30) ∧ z_shr (z_share u w c)
theorem Y_purse {l : Launch} {G : tp_G} {x : Nat} {h0 h : tp_H} {u : Nat → Int32} {π ρ : Nat → Nat} {us : Nat → Nat → Int32} {σ : Nat → Nat} {st len : Int32} {tx rd : Nat → Int32} (hl : l.stackTraces = false) (hT0 : kx_S G x h0 u π ρ us σ st len tx rd h) (hI1 : z_I1 u) (hI2 : k_I2 u) {w c j : Nat} (hw : w < 4) (hc : c < 4) (hj : j < 8) : tp_Met l G mX5_purse 0 0 [.ref x, .int (nI w), .int (nI c), .int (nI j)] h (tp_PR (.int (k_purse u w c j)) h) tp_NX := by
  obtain ⟨⟨N, hu8, hN⟩, ⟨P, hu9, hP9⟩, ⟨s, hs, hs2⟩, t, ht, ht2⟩ := hI1
  exact X_purse hl hT0 hu8 hN hu9 hP9 hw hc hj
theorem Y_count {l : Launch} {G : tp_G} {x : Nat} {h0 h : tp_H} {u : Nat → Int32} {π ρ : Nat → Nat} {us : Nat → Nat → Int32} {σ : Nat → Nat} {st len : Int32} {tx rd : Nat → Int32} (hl : l.stackTraces = false) (hT0 : kx_S G x h0 u π ρ us σ st len tx rd h) (hI1 : z_I1 u) (hI2 : k_I2 u) {j : Nat} (hj : j < 14) : tp_Met l G mX5_count 0 0 [.ref x, .int (nI j)] h (tp_PR (.int (z_count u st j)) h) tp_NX := by
  obtain ⟨⟨N, hu8, hN⟩, ⟨P, hu9, hP9⟩, ⟨s, hs, hs2⟩, t, ht, ht2⟩ := hI1
  exact X_count hl hT0 hu9 hP9 hj
theorem Y_room {l : Launch} {G : tp_G} {x : Nat} {h0 h : tp_H} {u : Nat → Int32} {π ρ : Nat → Nat} {us : Nat → Nat → Int32} {σ : Nat → Nat} {st len : Int32} {tx rd : Nat → Int32} (hl : l.stackTraces = false) (hT0 : kx_S G x h0 u π ρ us σ st len tx rd h) (hI1 : z_I1 u) (hI2 : k_I2 u) {w c : Nat} (hw : w < 4) (hc : c < 4) : tp_Met l G mX5_room 0 0 [.ref x, .int (nI w), .int (nI c)] h (tp_PR (.int (nI (z_roomOf u w c))) h) tp_NX := by
  obtain ⟨⟨N, hu8, hN⟩, ⟨P, hu9, hP9⟩, ⟨s, hs, hs2⟩, t, ht, ht2⟩ := hI1
  obtain ⟨-, ⟨f, hf, hf2⟩, -⟩ := hI2 w c hw hc
  have e : z_roomOf u w c = z_room t f := by unfold z_roomOf; rw [ht, hf, z_nI (by omega), z_nI (by omega)]
  rw [e]
  exact X_room hl hT0 hw hc hu8 hN hf hf2 ht ht2
theorem Y_needed {l : Launch} {G : tp_G} {x : Nat} {h0 h : tp_H} {u : Nat → Int32} {π ρ : Nat → Nat} {us : Nat → Nat → Int32} {σ : Nat → Nat} {st len : Int32} {tx rd : Nat → Int32} (hl : l.stackTraces = false) (hT0 : kx_S G x h0 u π ρ us σ st len tx rd h) (hI1 : z_I1 u) (hI2 : k_I2 u) {w c a : Nat} (hw : w < 4) (hc : c < 4) (h0c : 0 < c) (ha : 1 ≤ a ∧ a ≤ 9999) : tp_Met l G mX5_needed 0 0 [.ref x, .int (nI w), .int (nI c), .int (nI a)] h (tp_PR (.int (nI (k_needOf u w c a))) h) tp_NX := by
  obtain ⟨⟨N, hu8, hN⟩, ⟨P, hu9, hP9⟩, ⟨s, hs, hs2⟩, t, ht, ht2⟩ := hI1
  obtain ⟨⟨r, hr, hr0⟩, -, -⟩ := hI2 w c hw hc
  have e : k_needOf u w c a = z_need r s a := by unfold k_needOf; rw [hs, hr, z_nI (by omega), z_nI (by omega)]
  rw [e]
  exact X_needed hl hT0 hw hc h0c hr hr0 hs hs2 ha
theorem Y_share {l : Launch} {G : tp_G} {x : Nat} {h0 h : tp_H} {u : Nat → Int32} {π ρ : Nat → Nat} {us : Nat → Nat → Int32} {σ : Nat → Nat} {st len : Int32} {tx rd : Nat → Int32} (hl : l.stackTraces = false) (hT0 : kx_S G x h0 u π ρ us σ st len tx rd h) (hI1 : z_I1 u) (hI2 : k_I2 u) {w c : Nat} (hw : w < 4) (hc : c < 4) : tp_Met l G mX5_heldShare 0 0 [.ref x, .int (nI w), .int (nI c)] h (tp_PR (.double (z_share u w c)) h) tp_NX := by
  obtain ⟨⟨N, hu8, hN⟩, ⟨P, hu9, hP9⟩, ⟨s, hs, hs2⟩, t, ht, ht2⟩ := hI1
  exact X_heldShare hl hT0 hw hc hu8 hN (z_shr_fin (hI2 w c hw hc).2.2)
theorem Y_why {l : Launch} {G : tp_G} {x : Nat} {h0 h : tp_H} {u : Nat → Int32} {π ρ : Nat → Nat} {us : Nat → Nat → Int32} {σ : Nat → Nat} {st len : Int32} {tx rd : Nat → Int32} (hl : l.stackTraces = false) (hT0 : kx_S G x h0 u π ρ us σ st len tx rd h) (hI1 : z_I1 u) (hI2 : k_I2 u) {w : Nat} (hw : w < 4) {π1 ρ1 : Nat → Nat} {h9 : tp_H} (hB : kb_S G (x + 1) h9 u π1 ρ1 h) : tp_Met l G mX0_closingReason 0 0 [.ref (x + 1), .int (nI w)] h (tp_PR (.int (z_whyClose u w)) h) tp_NX := by
  obtain ⟨⟨N, hu8, hN⟩, ⟨P, hu9, hP9⟩, ⟨s, hs, hs2⟩, t, ht, ht2⟩ := hI1
  exact K_closingReason hl hB hw hu8 hN hu9 hP9
theorem Y_ifClosed {l : Launch} {G : tp_G} {x : Nat} {h0 h : tp_H} {u : Nat → Int32} {π ρ : Nat → Nat} {us : Nat → Nat → Int32} {σ : Nat → Nat} {st len : Int32} {tx rd : Nat → Int32} (hl : l.stackTraces = false) (hT0 : kx_S G x h0 u π ρ us σ st len tx rd h) (hI1 : z_I1 u) (hI2 : k_I2 u) {w : Nat} (hw : w < 4) : tp_Met l G mX5_ifClosed 0 0 [.ref x, .int (nI w)] h (tp_PR (.int (k_closed u w)) h) tp_NX := by
  obtain ⟨⟨N, hu8, hN⟩, ⟨P, hu9, hP9⟩, ⟨s, hs, hs2⟩, t, ht, ht2⟩ := hI1
  exact X_ifClosed hl hT0 hu8 hN hu9 hP9 hw
theorem Y_held {l : Launch} {G : tp_G} {x : Nat} {h0 h : tp_H} {u : Nat → Int32} {π ρ : Nat → Nat} {us : Nat → Nat → Int32} {σ : Nat → Nat} {st len : Int32} {tx rd : Nat → Int32} (hl : l.stackTraces = false) (hT0 : kx_S G x h0 u π ρ us σ st len tx rd h) (hI1 : z_I1 u) (hI2 : k_I2 u) {j i : Nat} (hj : j < z_n (u 8)) (hi : i < 5) : tp_Met l G mX5_held 0 0 [.ref x, .int (nI j), .int (nI i)] h (tp_PR (.int (u (96 + 5 * j + i))) h) tp_NX := by
  obtain ⟨⟨N, hu8, hN⟩, ⟨P, hu9, hP9⟩, ⟨s, hs, hs2⟩, t, ht, ht2⟩ := hI1
  rw [hu8, z_nI (by omega)] at hj
  exact X_held hl hT0 hu8 hN hj hi
theorem Y_payment {l : Launch} {G : tp_G} {x : Nat} {h0 h : tp_H} {u : Nat → Int32} {π ρ : Nat → Nat} {us : Nat → Nat → Int32} {σ : Nat → Nat} {st len : Int32} {tx rd : Nat → Int32} (hl : l.stackTraces = false) (hT0 : kx_S G x h0 u π ρ us σ st len tx rd h) (hI1 : z_I1 u) (hI2 : k_I2 u) {j i : Nat} (hj : j < z_n (u 9)) (hi : i < 6) : tp_Met l G mX5_payment 0 0 [.ref x, .int (nI j), .int (nI i)] h (tp_PR (.int (k_payn u j i)) h) tp_NX := by
  obtain ⟨⟨N, hu8, hN⟩, ⟨P, hu9, hP9⟩, ⟨s, hs, hs2⟩, t, ht, ht2⟩ := hI1
  rw [hu9, z_nI (by omega)] at hj
  exact X_payment hl hT0 hu9 hP9 hj hi
set_option maxRecDepth 100000 in
set_option maxHeartbeats 4000000 in
theorem X_mw1 {l : Launch} {G : tp_G} {x : Nat} {h0 h : tp_H} {u : Nat → Int32} {π ρ : Nat → Nat} {us : Nat → Nat → Int32} {σ : Nat → Nat} {st len : Int32} {tx rd : Nat → Int32} (hl : l.stackTraces = false) (hT0 : kx_S G x h0 u π ρ us σ st len tx rd h) (hI1 : z_I1 u) (hI2 : k_I2 u) {Q : tp_Q} {s0 H : Int64} {w c : Nat} (hw : w < 4) (hc : c < 4) : ∀ d (j : Nat), j + d = 8 → tp_Run l G mX5_mixWallet (tp_rm mX5_mixWallet 0 0) Q 0 0 h 45 [some (.ref x), some (.long s0), none, some (.int (nI w)), some (.long (z_mixN (fun j => (k_purse u w c j).toInt64) 8 H)), none, some (.int (nI c)), none] [] → tp_Run l G mX5_mixWallet (tp_rm mX5_mixWallet 0 0) Q 0 0 h 15 [some (.ref x), some (.long s0), none, some (.int (nI w)), some (.long (z_mixN (fun j => (k_purse u w c j).toInt64) j H)), none, some (.int (nI c)), some (.int (nI j))] [] := by
  intro d
  have hT := hT0.self
  have hB := hT.bk
  induction d with
  | zero =>
    intro j hd kk
    refine r_iload7 dX5_mixWallet_15 ?_
    refine r_bipush (v := 8) dX5_mixWallet_17 (by decide) ?_
    refine r_icmp_ge (tgt := 45) dX5_mixWallet_19 (by decide) (fun c19 => ?_) (fun c19 => ?_)
    · rw [show j = 8 by omega]
      exact r_fg7 kk
    · rw [show (8 : Int32) = nI 8 from rfl, tp_le (by omega) (by omega)] at c19; omega
  | succ d ih =>
    intro j hd kk
    refine r_iload7 dX5_mixWallet_15 ?_
    refine r_bipush (v := 8) dX5_mixWallet_17 (by decide) ?_
    refine r_icmp_ge (tgt := 45) dX5_mixWallet_19 (by decide) (fun c19 => ?_) (fun c19 => ?_)
    · rw [show (8 : Int32) = nI 8 from rfl, tp_le (by omega) (by omega)] at c19; omega
    · refine r_lload4 dX5_mixWallet_22 ?_
      refine r_aload0 dX5_mixWallet_24 ?_
      refine r_iload3 dX5_mixWallet_25 ?_
      refine r_iload6 dX5_mixWallet_26 ?_
      refine r_iload7 dX5_mixWallet_28 ?_
      refine r_pV dX5_mixWallet_30 v_X5_360 (Y_purse hl hT hI1 hI2 hw hc (j := j) (by omega)) rfl (hT.ob) rfl rfl rfl (Nat.le_of_ble_eq_true rfl) ⟨(Nat.le_of_ble_eq_true rfl), (Nat.le_of_ble_eq_true rfl)⟩ ⟨(Nat.le_of_ble_eq_true rfl), (Nat.le_of_ble_eq_true rfl)⟩ ?_
      refine r_i2l dX5_mixWallet_33 ?_
      refine r_pS dX5_mixWallet_34 v_X5_300 (X_mix hl) rfl rfl rfl (Nat.le_of_ble_eq_true rfl) ⟨(Nat.le_of_ble_eq_true rfl), (Nat.le_of_ble_eq_true rfl)⟩ ⟨(Nat.le_of_ble_eq_true rfl), (Nat.le_of_ble_eq_true rfl)⟩ ?_
      refine r_lstore4 dX5_mixWallet_37 (Nat.le_of_ble_eq_true rfl) rfl ?_
      refine r_iinc7 (v := nI (j + 1)) dX5_mixWallet_39 (Nat.le_of_ble_eq_true rfl) rfl (tp_inc j) ?_
      exact r_goto (tgt := 15) dX5_mixWallet_42 (by decide) (ih (j + 1) (by omega) kk)

set_option maxRecDepth 100000 in
set_option maxHeartbeats 4000000 in
theorem X_mw2 {l : Launch} {G : tp_G} {x : Nat} {h0 h : tp_H} {u : Nat → Int32} {π ρ : Nat → Nat} {us : Nat → Nat → Int32} {σ : Nat → Nat} {st len : Int32} {tx rd : Nat → Int32} (hl : l.stackTraces = false) (hT0 : kx_S G x h0 u π ρ us σ st len tx rd h) (hI1 : z_I1 u) (hI2 : k_I2 u) {s0 : Int64} {w : Nat} (hw : w < 4) : ∀ d (c : Nat) (a7 : Option Value), c + d = 4 → tp_Run l G mX5_mixWallet (tp_rm mX5_mixWallet 0 0) (tp_QM G 0 0 (tp_PR (.long (k_mixW u w s0)) h) tp_NX) 0 0 h 6 [some (.ref x), some (.long s0), none, some (.int (nI w)), some (.long (z_mixC (k_mixP u w) c s0)), none, some (.int (nI c)), a7] [] := by
  intro d
  have hT := hT0.self
  have hB := hT.bk
  induction d with
  | zero =>
    intro c a7 hd
    refine r_iload6 dX5_mixWallet_6 ?_
    refine r_iconst (v := 4) dX5_mixWallet_8 (by decide) ?_
    refine r_icmp_ge (tgt := 83) dX5_mixWallet_9 (by decide) (fun c9 => ?_) (fun c9 => ?_)
    · refine r_lload4 dX5_mixWallet_83 ?_
      refine r_aload0 dX5_mixWallet_85 ?_
      refine r_iload3 dX5_mixWallet_86 ?_
      refine r_iconst (v := 0) dX5_mixWallet_87 (by decide) ?_
      refine r_iconst (v := 1) dX5_mixWallet_88 (by decide) ?_
      refine r_sipush (v := 1000) dX5_mixWallet_89 (by decide) ?_
      refine r_pV dX5_mixWallet_92 v_X5_376 (X_ifExchanged hl hT hw (f := 0) (t := 1) (by omega) (by omega) (by decide)) rfl (hT.ob) rfl rfl rfl (Nat.le_of_ble_eq_true rfl) ⟨(Nat.le_of_ble_eq_true rfl), (Nat.le_of_ble_eq_true rfl)⟩ ⟨(Nat.le_of_ble_eq_true rfl), (Nat.le_of_ble_eq_true rfl)⟩ ?_
      refine r_i2l dX5_mixWallet_95 ?_
      refine r_pS dX5_mixWallet_96 v_X5_300 (X_mix hl) rfl rfl rfl (Nat.le_of_ble_eq_true rfl) ⟨(Nat.le_of_ble_eq_true rfl), (Nat.le_of_ble_eq_true rfl)⟩ ⟨(Nat.le_of_ble_eq_true rfl), (Nat.le_of_ble_eq_true rfl)⟩ ?_
      refine r_lstore4 dX5_mixWallet_99 (Nat.le_of_ble_eq_true rfl) rfl ?_
      refine r_lload4 dX5_mixWallet_101 ?_
      refine r_aload0 dX5_mixWallet_103 ?_
      refine r_iload3 dX5_mixWallet_104 ?_
      refine r_iconst (v := 2) dX5_mixWallet_105 (by decide) ?_
      refine r_iconst (v := 0) dX5_mixWallet_106 (by decide) ?_
      refine r_sipush (v := 1000) dX5_mixWallet_107 (by decide) ?_
      refine r_pV dX5_mixWallet_110 v_X5_376 (X_ifExchanged hl hT hw (f := 2) (t := 0) (by omega) (by omega) (by decide)) rfl (hT.ob) rfl rfl rfl (Nat.le_of_ble_eq_true rfl) ⟨(Nat.le_of_ble_eq_true rfl), (Nat.le_of_ble_eq_true rfl)⟩ ⟨(Nat.le_of_ble_eq_true rfl), (Nat.le_of_ble_eq_true rfl)⟩ ?_
      refine r_i2l dX5_mixWallet_113 ?_
      refine r_pS dX5_mixWallet_114 v_X5_300 (X_mix hl) rfl rfl rfl (Nat.le_of_ble_eq_true rfl) ⟨(Nat.le_of_ble_eq_true rfl), (Nat.le_of_ble_eq_true rfl)⟩ ⟨(Nat.le_of_ble_eq_true rfl), (Nat.le_of_ble_eq_true rfl)⟩ ?_
      refine r_lstore4 dX5_mixWallet_117 (Nat.le_of_ble_eq_true rfl) rfl ?_
      refine r_lload4 dX5_mixWallet_119 ?_
      refine r_aload0 dX5_mixWallet_121 ?_
      refine r_iload3 dX5_mixWallet_122 ?_
      refine r_iconst (v := 3) dX5_mixWallet_123 (by decide) ?_
      refine r_sipush (v := 500) dX5_mixWallet_124 (by decide) ?_
      refine r_pV dX5_mixWallet_127 v_X5_380 (Y_needed hl hT hI1 hI2 hw (c := 3) (a := 500) (by omega) (by omega) (by omega)) rfl (hT.ob) rfl rfl rfl (Nat.le_of_ble_eq_true rfl) ⟨(Nat.le_of_ble_eq_true rfl), (Nat.le_of_ble_eq_true rfl)⟩ ⟨(Nat.le_of_ble_eq_true rfl), (Nat.le_of_ble_eq_true rfl)⟩ ?_
      refine r_i2l dX5_mixWallet_130 ?_
      refine r_pS dX5_mixWallet_131 v_X5_300 (X_mix hl) rfl rfl rfl (Nat.le_of_ble_eq_true rfl) ⟨(Nat.le_of_ble_eq_true rfl), (Nat.le_of_ble_eq_true rfl)⟩ ⟨(Nat.le_of_ble_eq_true rfl), (Nat.le_of_ble_eq_true rfl)⟩ ?_
      refine r_lstore4 dX5_mixWallet_134 (Nat.le_of_ble_eq_true rfl) rfl ?_
      refine r_lload4 dX5_mixWallet_136 ?_
      refine r_aload0 dX5_mixWallet_138 ?_
      refine r_getf dX5_mixWallet_139 f_X5_10 (hT.ob) rfl ?_
      refine r_iload3 dX5_mixWallet_142 ?_
      refine r_pV dX5_mixWallet_143 v_X5_166 (Y_why hl hT hI1 hI2 hw hB) rfl (hB.ob) rfl rfl rfl (Nat.le_of_ble_eq_true rfl) ⟨(Nat.le_of_ble_eq_true rfl), (Nat.le_of_ble_eq_true rfl)⟩ ⟨(Nat.le_of_ble_eq_true rfl), (Nat.le_of_ble_eq_true rfl)⟩ ?_
      refine r_i2l dX5_mixWallet_146 ?_
      refine r_pS dX5_mixWallet_147 v_X5_300 (X_mix hl) rfl rfl rfl (Nat.le_of_ble_eq_true rfl) ⟨(Nat.le_of_ble_eq_true rfl), (Nat.le_of_ble_eq_true rfl)⟩ ⟨(Nat.le_of_ble_eq_true rfl), (Nat.le_of_ble_eq_true rfl)⟩ ?_
      refine r_lstore4 dX5_mixWallet_150 (Nat.le_of_ble_eq_true rfl) rfl ?_
      refine r_lload4 dX5_mixWallet_152 ?_
      refine r_aload0 dX5_mixWallet_154 ?_
      refine r_iload3 dX5_mixWallet_155 ?_
      refine r_pV dX5_mixWallet_156 v_X5_383 (Y_ifClosed hl hT hI1 hI2 hw) rfl (hT.ob) rfl rfl rfl (Nat.le_of_ble_eq_true rfl) ⟨(Nat.le_of_ble_eq_true rfl), (Nat.le_of_ble_eq_true rfl)⟩ ⟨(Nat.le_of_ble_eq_true rfl), (Nat.le_of_ble_eq_true rfl)⟩ ?_
      refine r_i2l dX5_mixWallet_159 ?_
      refine r_pS dX5_mixWallet_160 v_X5_300 (X_mix hl) rfl rfl rfl (Nat.le_of_ble_eq_true rfl) ⟨(Nat.le_of_ble_eq_true rfl), (Nat.le_of_ble_eq_true rfl)⟩ ⟨(Nat.le_of_ble_eq_true rfl), (Nat.le_of_ble_eq_true rfl)⟩ ?_
      exact r_lret dX5_mixWallet_163 rfl ⟨(Nat.le_of_ble_eq_true rfl), (Nat.le_of_ble_eq_true rfl)⟩ ⟨by rw [show c = 4 by omega]; rfl, rfl⟩
    · rw [show (4 : Int32) = nI 4 from rfl, tp_le (by omega) (by omega)] at c9; omega
  | succ d ih =>
    intro c a7 hd
    refine r_iload6 dX5_mixWallet_6 ?_
    refine r_iconst (v := 4) dX5_mixWallet_8 (by decide) ?_
    refine r_icmp_ge (tgt := 83) dX5_mixWallet_9 (by decide) (fun c9 => ?_) (fun c9 => ?_)
    · rw [show (4 : Int32) = nI 4 from rfl, tp_le (by omega) (by omega)] at c9; omega
    · refine r_iconst (v := 0) dX5_mixWallet_12 (by decide) ?_
      refine r_istore7 dX5_mixWallet_13 (Nat.le_of_ble_eq_true rfl) rfl ?_
      refine X_mw1 hl hT hI1 hI2 hw (show c < 4 by omega) 8 0 (by omega) ?_
      refine r_lload4 dX5_mixWallet_45 ?_
      refine r_aload0 dX5_mixWallet_47 ?_
      refine r_iload3 dX5_mixWallet_48 ?_
      refine r_iload6 dX5_mixWallet_49 ?_
      refine r_pV dX5_mixWallet_51 v_X5_364 (Y_room hl hT hI1 hI2 hw (c := c) (by omega)) rfl (hT.ob) rfl rfl rfl (Nat.le_of_ble_eq_true rfl) ⟨(Nat.le_of_ble_eq_true rfl), (Nat.le_of_ble_eq_true rfl)⟩ ⟨(Nat.le_of_ble_eq_true rfl), (Nat.le_of_ble_eq_true rfl)⟩ ?_
      refine r_i2l dX5_mixWallet_54 ?_
      refine r_pS dX5_mixWallet_55 v_X5_300 (X_mix hl) rfl rfl rfl (Nat.le_of_ble_eq_true rfl) ⟨(Nat.le_of_ble_eq_true rfl), (Nat.le_of_ble_eq_true rfl)⟩ ⟨(Nat.le_of_ble_eq_true rfl), (Nat.le_of_ble_eq_true rfl)⟩ ?_
      refine r_lstore4 dX5_mixWallet_58 (Nat.le_of_ble_eq_true rfl) rfl ?_
      refine r_lload4 dX5_mixWallet_60 ?_
      refine r_aload0 dX5_mixWallet_62 ?_
      refine r_iload3 dX5_mixWallet_63 ?_
      refine r_iload6 dX5_mixWallet_64 ?_
      refine r_pV dX5_mixWallet_66 v_X5_368 (Y_share hl hT hI1 hI2 hw (c := c) (by omega)) rfl (hT.ob) rfl rfl rfl (Nat.le_of_ble_eq_true rfl) ⟨(Nat.le_of_ble_eq_true rfl), (Nat.le_of_ble_eq_true rfl)⟩ ⟨(Nat.le_of_ble_eq_true rfl), (Nat.le_of_ble_eq_true rfl)⟩ ?_
      refine r_pS dX5_mixWallet_69 v_X5_372 (X_bits hl (hI2 w c hw (by omega)).2.2) rfl rfl rfl (Nat.le_of_ble_eq_true rfl) ⟨(Nat.le_of_ble_eq_true rfl), (Nat.le_of_ble_eq_true rfl)⟩ ⟨(Nat.le_of_ble_eq_true rfl), (Nat.le_of_ble_eq_true rfl)⟩ ?_
      refine r_pS dX5_mixWallet_72 v_X5_300 (X_mix hl) rfl rfl rfl (Nat.le_of_ble_eq_true rfl) ⟨(Nat.le_of_ble_eq_true rfl), (Nat.le_of_ble_eq_true rfl)⟩ ⟨(Nat.le_of_ble_eq_true rfl), (Nat.le_of_ble_eq_true rfl)⟩ ?_
      refine r_lstore4 dX5_mixWallet_75 (Nat.le_of_ble_eq_true rfl) rfl ?_
      refine r_iinc6 (v := nI (c + 1)) dX5_mixWallet_77 (Nat.le_of_ble_eq_true rfl) rfl (tp_inc c) ?_
      exact r_goto (tgt := 6) dX5_mixWallet_80 (by decide) (ih (c + 1) _ (by omega))

set_option maxRecDepth 100000 in
set_option maxHeartbeats 4000000 in
theorem X_mixWallet {l : Launch} {G : tp_G} {x : Nat} {h0 h : tp_H} {u : Nat → Int32} {π ρ : Nat → Nat} {us : Nat → Nat → Int32} {σ : Nat → Nat} {st len : Int32} {tx rd : Nat → Int32} (hl : l.stackTraces = false) (hT0 : kx_S G x h0 u π ρ us σ st len tx rd h) (hI1 : z_I1 u) (hI2 : k_I2 u) {s0 : Int64} {w : Nat} (hw : w < 4) : tp_Met l G mX5_mixWallet 0 0 [.ref x, .long s0, .int (nI w)] h (tp_PR (.long (k_mixW u w s0)) h) tp_NX := by
  have hT := hT0.self
  have hB := hT.bk
  refine tp_start (L0 := [some (.ref x), some (.long s0), none, some (.int (nI w)), none, none, none, none]) (by decide) rfl hl (Nat.le_of_ble_eq_true rfl) rfl ?_
  refine r_lload1 dX5_mixWallet_0 ?_
  refine r_lstore4 dX5_mixWallet_1 (Nat.le_of_ble_eq_true rfl) rfl ?_
  refine r_iconst (v := 0) dX5_mixWallet_3 (by decide) ?_
  refine r_istore6 dX5_mixWallet_4 (Nat.le_of_ble_eq_true rfl) rfl ?_
  exact X_mw2 hl hT hI1 hI2 hw 4 0 none (by omega)

set_option maxRecDepth 100000 in
set_option maxHeartbeats 4000000 in
theorem X_mixHolds1 {l : Launch} {G : tp_G} {x : Nat} {h0 h : tp_H} {u : Nat → Int32} {π ρ : Nat → Nat} {us : Nat → Nat → Int32} {σ : Nat → Nat} {st len : Int32} {tx rd : Nat → Int32} (hl : l.stackTraces = false) (hT0 : kx_S G x h0 u π ρ us σ st len tx rd h) (hI1 : z_I1 u) (hI2 : k_I2 u) {Q : tp_Q} {s0 : Int64} {i : Nat} (hi : i < z_n (u 8)) : ∀ d (j : Nat), j + d = 5 → tp_Run l G mX5_mixHolds (tp_rm mX5_mixHolds 0 0) Q 0 0 h 46 [some (.ref x), some (.long s0), none, some (.long (z_mixN (fun j => (u (96 + j)).toInt64) (5 * i + 5) s0)), none, some (.int (nI i)), none] [] → tp_Run l G mX5_mixHolds (tp_rm mX5_mixHolds 0 0) Q 0 0 h 20 [some (.ref x), some (.long s0), none, some (.long (z_mixN (fun j => (u (96 + j)).toInt64) (5 * i + j) s0)), none, some (.int (nI i)), some (.int (nI j))] [] := by
  intro d
  have hT := hT0.self
  have hB := hT.bk
  induction d with
  | zero =>
    intro j hd kk
    refine r_iload6 dX5_mixHolds_20 ?_
    refine r_iconst (v := 5) dX5_mixHolds_22 (by decide) ?_
    refine r_icmp_ge (tgt := 46) dX5_mixHolds_23 (by decide) (fun c23 => ?_) (fun c23 => ?_)
    · rw [show j = 5 by omega]
      exact r_fg6 kk
    · rw [show (5 : Int32) = nI 5 from rfl, tp_le (by omega) (by omega)] at c23; omega
  | succ d ih =>
    intro j hd kk
    refine r_iload6 dX5_mixHolds_20 ?_
    refine r_iconst (v := 5) dX5_mixHolds_22 (by decide) ?_
    refine r_icmp_ge (tgt := 46) dX5_mixHolds_23 (by decide) (fun c23 => ?_) (fun c23 => ?_)
    · rw [show (5 : Int32) = nI 5 from rfl, tp_le (by omega) (by omega)] at c23; omega
    · refine r_lload3 dX5_mixHolds_26 ?_
      refine r_aload0 dX5_mixHolds_27 ?_
      refine r_iload5 dX5_mixHolds_28 ?_
      refine r_iload6 dX5_mixHolds_30 ?_
      refine r_pV dX5_mixHolds_32 v_X5_386 (Y_held hl hT hI1 hI2 (j := i) (i := j) hi (by omega)) rfl (hT.ob) rfl rfl rfl (Nat.le_of_ble_eq_true rfl) ⟨(Nat.le_of_ble_eq_true rfl), (Nat.le_of_ble_eq_true rfl)⟩ ⟨(Nat.le_of_ble_eq_true rfl), (Nat.le_of_ble_eq_true rfl)⟩ ?_
      rw [show (u (96 + 5 * i + j)) = u (96 + (5 * i + j)) by rw [Nat.add_assoc]]
      refine r_i2l dX5_mixHolds_35 ?_
      refine r_pS dX5_mixHolds_36 v_X5_300 (X_mix hl) rfl rfl rfl (Nat.le_of_ble_eq_true rfl) ⟨(Nat.le_of_ble_eq_true rfl), (Nat.le_of_ble_eq_true rfl)⟩ ⟨(Nat.le_of_ble_eq_true rfl), (Nat.le_of_ble_eq_true rfl)⟩ ?_
      refine r_lstore3 dX5_mixHolds_39 (Nat.le_of_ble_eq_true rfl) rfl ?_
      refine r_iinc6 (v := nI (j + 1)) dX5_mixHolds_40 (Nat.le_of_ble_eq_true rfl) rfl (tp_inc j) ?_
      exact r_goto (tgt := 20) dX5_mixHolds_43 (by decide) (ih (j + 1) (by omega) kk)

set_option maxRecDepth 100000 in
set_option maxHeartbeats 4000000 in
theorem X_mixHolds2 {l : Launch} {G : tp_G} {x : Nat} {h0 h : tp_H} {u : Nat → Int32} {π ρ : Nat → Nat} {us : Nat → Nat → Int32} {σ : Nat → Nat} {st len : Int32} {tx rd : Nat → Int32} (hl : l.stackTraces = false) (hT0 : kx_S G x h0 u π ρ us σ st len tx rd h) (hI1 : z_I1 u) (hI2 : k_I2 u) {s0 : Int64} : ∀ d (i : Nat) (a6 : Option Value), i + d = z_n (u 8) → tp_Run l G mX5_mixHolds (tp_rm mX5_mixHolds 0 0) (tp_QM G 0 0 (tp_PR (.long (z_mixN (fun j => (u (96 + j)).toInt64) (5 * z_n (u 8)) s0)) h) tp_NX) 0 0 h 5 [some (.ref x), some (.long s0), none, some (.long (z_mixN (fun j => (u (96 + j)).toInt64) (5 * i) s0)), none, some (.int (nI i)), a6] [] := by
  intro d
  have hT := hT0.self
  have hB := hT.bk
  have hq : u 8 = nI (z_n (u 8)) ∧ z_n (u 8) ≤ 12 := by
    obtain ⟨⟨N, hu8, hN⟩, ⟨P, hu9, hP9⟩, -⟩ := hI1
    first | (rw [hu8, z_nI (by omega)]; exact ⟨rfl, by omega⟩) | (rw [hu9, z_nI (by omega)]; exact ⟨rfl, by omega⟩)
  obtain ⟨hq, hq12⟩ := hq
  induction d with
  | zero =>
    intro i a6 hd
    refine r_iload5 dX5_mixHolds_5 ?_
    refine r_aload0 dX5_mixHolds_7 ?_
    refine r_getf dX5_mixHolds_8 f_X5_10 (hT.ob) rfl ?_
    refine r_getf dX5_mixHolds_11 f_X5_253 (hB.ob) rfl ?_
    refine r_icmp_ge (tgt := 52) dX5_mixHolds_14 (by decide) (fun c14 => ?_) (fun c14 => ?_)
    · refine r_lload3 dX5_mixHolds_52 ?_
      exact r_lret dX5_mixHolds_53 rfl ⟨(Nat.le_of_ble_eq_true rfl), (Nat.le_of_ble_eq_true rfl)⟩ ⟨by rw [show i = z_n (u 8) by omega], rfl⟩
    · rw [hq, tp_le (by omega) (by omega)] at c14; omega
  | succ d ih =>
    intro i a6 hd
    refine r_iload5 dX5_mixHolds_5 ?_
    refine r_aload0 dX5_mixHolds_7 ?_
    refine r_getf dX5_mixHolds_8 f_X5_10 (hT.ob) rfl ?_
    refine r_getf dX5_mixHolds_11 f_X5_253 (hB.ob) rfl ?_
    refine r_icmp_ge (tgt := 52) dX5_mixHolds_14 (by decide) (fun c14 => ?_) (fun c14 => ?_)
    · rw [hq, tp_le (by omega) (by omega)] at c14; omega
    · refine r_iconst (v := 0) dX5_mixHolds_17 (by decide) ?_
      refine r_istore6 dX5_mixHolds_18 (Nat.le_of_ble_eq_true rfl) rfl ?_
      refine X_mixHolds1 hl hT hI1 hI2 (show i < z_n (u 8) by omega) 5 0 (by omega) ?_
      refine r_iinc5 (v := nI (i + 1)) dX5_mixHolds_46 (Nat.le_of_ble_eq_true rfl) rfl (tp_inc i) ?_
      exact r_goto (tgt := 5) dX5_mixHolds_49 (by decide) (ih (i + 1) none (by omega))

set_option maxRecDepth 100000 in
set_option maxHeartbeats 4000000 in
theorem X_mixHolds {l : Launch} {G : tp_G} {x : Nat} {h0 h : tp_H} {u : Nat → Int32} {π ρ : Nat → Nat} {us : Nat → Nat → Int32} {σ : Nat → Nat} {st len : Int32} {tx rd : Nat → Int32} (hl : l.stackTraces = false) (hT0 : kx_S G x h0 u π ρ us σ st len tx rd h) (hI1 : z_I1 u) (hI2 : k_I2 u) {s0 : Int64} : tp_Met l G mX5_mixHolds 0 0 [.ref x, .long s0] h (tp_PR (.long (z_mixN (fun j => (u (96 + j)).toInt64) (5 * z_n (u 8)) s0)) h) tp_NX := by
  have hT := hT0.self
  have hB := hT.bk
  refine tp_start (L0 := [some (.ref x), some (.long s0), none, none, none, none, none]) (by decide) rfl hl (Nat.le_of_ble_eq_true rfl) rfl ?_
  refine r_lload1 dX5_mixHolds_0 ?_
  refine r_lstore3 dX5_mixHolds_1 (Nat.le_of_ble_eq_true rfl) rfl ?_
  refine r_iconst (v := 0) dX5_mixHolds_2 (by decide) ?_
  refine r_istore5 dX5_mixHolds_3 (Nat.le_of_ble_eq_true rfl) rfl ?_
  exact X_mixHolds2 hl hT hI1 hI2 (z_n (u 8)) 0 none (by omega)

set_option maxRecDepth 100000 in
set_option maxHeartbeats 4000000 in
theorem X_mixPayments1 {l : Launch} {G : tp_G} {x : Nat} {h0 h : tp_H} {u : Nat → Int32} {π ρ : Nat → Nat} {us : Nat → Nat → Int32} {σ : Nat → Nat} {st len : Int32} {tx rd : Nat → Int32} (hl : l.stackTraces = false) (hT0 : kx_S G x h0 u π ρ us σ st len tx rd h) (hI1 : z_I1 u) (hI2 : k_I2 u) {Q : tp_Q} {s0 : Int64} {i : Nat} (hi : i < z_n (u 9)) : ∀ d (j : Nat), j + d = 6 → tp_Run l G mX5_mixPayments (tp_rm mX5_mixPayments 0 0) Q 0 0 h 47 [some (.ref x), some (.long s0), none, some (.long (z_mixN (fun j => (k_payn u (j / 6) (j % 6)).toInt64) (6 * i + 6) s0)), none, some (.int (nI i)), none] [] → tp_Run l G mX5_mixPayments (tp_rm mX5_mixPayments 0 0) Q 0 0 h 20 [some (.ref x), some (.long s0), none, some (.long (z_mixN (fun j => (k_payn u (j / 6) (j % 6)).toInt64) (6 * i + j) s0)), none, some (.int (nI i)), some (.int (nI j))] [] := by
  intro d
  have hT := hT0.self
  have hB := hT.bk
  induction d with
  | zero =>
    intro j hd kk
    refine r_iload6 dX5_mixPayments_20 ?_
    refine r_bipush (v := 6) dX5_mixPayments_22 (by decide) ?_
    refine r_icmp_ge (tgt := 47) dX5_mixPayments_24 (by decide) (fun c24 => ?_) (fun c24 => ?_)
    · rw [show j = 6 by omega]
      exact r_fg6 kk
    · rw [show (6 : Int32) = nI 6 from rfl, tp_le (by omega) (by omega)] at c24; omega
  | succ d ih =>
    intro j hd kk
    refine r_iload6 dX5_mixPayments_20 ?_
    refine r_bipush (v := 6) dX5_mixPayments_22 (by decide) ?_
    refine r_icmp_ge (tgt := 47) dX5_mixPayments_24 (by decide) (fun c24 => ?_) (fun c24 => ?_)
    · rw [show (6 : Int32) = nI 6 from rfl, tp_le (by omega) (by omega)] at c24; omega
    · refine r_lload3 dX5_mixPayments_27 ?_
      refine r_aload0 dX5_mixPayments_28 ?_
      refine r_iload5 dX5_mixPayments_29 ?_
      refine r_iload6 dX5_mixPayments_31 ?_
      refine r_pV dX5_mixPayments_33 v_X5_389 (Y_payment hl hT hI1 hI2 (j := i) (i := j) hi (by omega)) rfl (hT.ob) rfl rfl rfl (Nat.le_of_ble_eq_true rfl) ⟨(Nat.le_of_ble_eq_true rfl), (Nat.le_of_ble_eq_true rfl)⟩ ⟨(Nat.le_of_ble_eq_true rfl), (Nat.le_of_ble_eq_true rfl)⟩ ?_
      rw [show k_payn u i j = k_payn u ((6 * i + j) / 6) ((6 * i + j) % 6) by rw [show (6 * i + j) / 6 = i by omega, show (6 * i + j) % 6 = j by omega]]
      refine r_i2l dX5_mixPayments_36 ?_
      refine r_pS dX5_mixPayments_37 v_X5_300 (X_mix hl) rfl rfl rfl (Nat.le_of_ble_eq_true rfl) ⟨(Nat.le_of_ble_eq_true rfl), (Nat.le_of_ble_eq_true rfl)⟩ ⟨(Nat.le_of_ble_eq_true rfl), (Nat.le_of_ble_eq_true rfl)⟩ ?_
      refine r_lstore3 dX5_mixPayments_40 (Nat.le_of_ble_eq_true rfl) rfl ?_
      refine r_iinc6 (v := nI (j + 1)) dX5_mixPayments_41 (Nat.le_of_ble_eq_true rfl) rfl (tp_inc j) ?_
      exact r_goto (tgt := 20) dX5_mixPayments_44 (by decide) (ih (j + 1) (by omega) kk)

set_option maxRecDepth 100000 in
set_option maxHeartbeats 4000000 in
theorem X_mixPayments2 {l : Launch} {G : tp_G} {x : Nat} {h0 h : tp_H} {u : Nat → Int32} {π ρ : Nat → Nat} {us : Nat → Nat → Int32} {σ : Nat → Nat} {st len : Int32} {tx rd : Nat → Int32} (hl : l.stackTraces = false) (hT0 : kx_S G x h0 u π ρ us σ st len tx rd h) (hI1 : z_I1 u) (hI2 : k_I2 u) {s0 : Int64} : ∀ d (i : Nat) (a6 : Option Value), i + d = z_n (u 9) → tp_Run l G mX5_mixPayments (tp_rm mX5_mixPayments 0 0) (tp_QM G 0 0 (tp_PR (.long (z_mixN (fun j => (k_payn u (j / 6) (j % 6)).toInt64) (6 * z_n (u 9)) s0)) h) tp_NX) 0 0 h 5 [some (.ref x), some (.long s0), none, some (.long (z_mixN (fun j => (k_payn u (j / 6) (j % 6)).toInt64) (6 * i) s0)), none, some (.int (nI i)), a6] [] := by
  intro d
  have hT := hT0.self
  have hB := hT.bk
  have hq : u 9 = nI (z_n (u 9)) ∧ z_n (u 9) ≤ 12 := by
    obtain ⟨⟨N, hu8, hN⟩, ⟨P, hu9, hP9⟩, -⟩ := hI1
    first | (rw [hu8, z_nI (by omega)]; exact ⟨rfl, by omega⟩) | (rw [hu9, z_nI (by omega)]; exact ⟨rfl, by omega⟩)
  obtain ⟨hq, hq12⟩ := hq
  induction d with
  | zero =>
    intro i a6 hd
    refine r_iload5 dX5_mixPayments_5 ?_
    refine r_aload0 dX5_mixPayments_7 ?_
    refine r_getf dX5_mixPayments_8 f_X5_10 (hT.ob) rfl ?_
    refine r_getf dX5_mixPayments_11 f_X5_123 (hB.ob) rfl ?_
    refine r_icmp_ge (tgt := 53) dX5_mixPayments_14 (by decide) (fun c14 => ?_) (fun c14 => ?_)
    · refine r_lload3 dX5_mixPayments_53 ?_
      exact r_lret dX5_mixPayments_54 rfl ⟨(Nat.le_of_ble_eq_true rfl), (Nat.le_of_ble_eq_true rfl)⟩ ⟨by rw [show i = z_n (u 9) by omega], rfl⟩
    · rw [hq, tp_le (by omega) (by omega)] at c14; omega
  | succ d ih =>
    intro i a6 hd
    refine r_iload5 dX5_mixPayments_5 ?_
    refine r_aload0 dX5_mixPayments_7 ?_
    refine r_getf dX5_mixPayments_8 f_X5_10 (hT.ob) rfl ?_
    refine r_getf dX5_mixPayments_11 f_X5_123 (hB.ob) rfl ?_
    refine r_icmp_ge (tgt := 53) dX5_mixPayments_14 (by decide) (fun c14 => ?_) (fun c14 => ?_)
    · rw [hq, tp_le (by omega) (by omega)] at c14; omega
    · refine r_iconst (v := 0) dX5_mixPayments_17 (by decide) ?_
      refine r_istore6 dX5_mixPayments_18 (Nat.le_of_ble_eq_true rfl) rfl ?_
      refine X_mixPayments1 hl hT hI1 hI2 (show i < z_n (u 9) by omega) 6 0 (by omega) ?_
      refine r_iinc5 (v := nI (i + 1)) dX5_mixPayments_47 (Nat.le_of_ble_eq_true rfl) rfl (tp_inc i) ?_
      exact r_goto (tgt := 5) dX5_mixPayments_50 (by decide) (ih (i + 1) none (by omega))

set_option maxRecDepth 100000 in
set_option maxHeartbeats 4000000 in
theorem X_mixPayments {l : Launch} {G : tp_G} {x : Nat} {h0 h : tp_H} {u : Nat → Int32} {π ρ : Nat → Nat} {us : Nat → Nat → Int32} {σ : Nat → Nat} {st len : Int32} {tx rd : Nat → Int32} (hl : l.stackTraces = false) (hT0 : kx_S G x h0 u π ρ us σ st len tx rd h) (hI1 : z_I1 u) (hI2 : k_I2 u) {s0 : Int64} : tp_Met l G mX5_mixPayments 0 0 [.ref x, .long s0] h (tp_PR (.long (z_mixN (fun j => (k_payn u (j / 6) (j % 6)).toInt64) (6 * z_n (u 9)) s0)) h) tp_NX := by
  have hT := hT0.self
  have hB := hT.bk
  refine tp_start (L0 := [some (.ref x), some (.long s0), none, none, none, none, none]) (by decide) rfl hl (Nat.le_of_ble_eq_true rfl) rfl ?_
  refine r_lload1 dX5_mixPayments_0 ?_
  refine r_lstore3 dX5_mixPayments_1 (Nat.le_of_ble_eq_true rfl) rfl ?_
  refine r_iconst (v := 0) dX5_mixPayments_2 (by decide) ?_
  refine r_istore5 dX5_mixPayments_3 (Nat.le_of_ble_eq_true rfl) rfl ?_
  exact X_mixPayments2 hl hT hI1 hI2 (z_n (u 9)) 0 none (by omega)

set_option maxRecDepth 100000 in
set_option maxHeartbeats 4000000 in
theorem X_mb {l : Launch} {G : tp_G} {x : Nat} {h0 h : tp_H} {u : Nat → Int32} {π ρ : Nat → Nat} {us : Nat → Nat → Int32} {σ : Nat → Nat} {st len : Int32} {tx rd : Nat → Int32} (hl : l.stackTraces = false) (hT0 : kx_S G x h0 u π ρ us σ st len tx rd h) {s0 : Int64} {n : Nat} (hlen : len = nI n) (hn : n ≤ 60) : ∀ d (i : Nat), i + d = n → tp_Run l G mX5_mixBuffer (tp_rm mX5_mixBuffer 0 0) (tp_QM G 0 0 (tp_PR (.long (z_mixN (fun j => (tx j).toInt64) n (31 * s0 + (nI n).toInt64))) h) tp_NX) 0 0 h 13 [some (.ref x), some (.long s0), none, some (.long (z_mixN (fun j => (tx j).toInt64) i (31 * s0 + (nI n).toInt64))), none, some (.int (nI i))] [] := by
  intro d
  have hT := hT0.self
  have hB := hT.bk
  induction d with
  | zero =>
    intro i hd
    refine r_iload5 dX5_mixBuffer_13 ?_
    refine r_aload0 dX5_mixBuffer_15 ?_
    refine r_getf dX5_mixBuffer_16 f_X5_193 (hT.ob) rfl ?_
    refine r_icmp_ge (tgt := 41) dX5_mixBuffer_19 (by decide) (fun c19 => ?_) (fun c19 => ?_)
    · refine r_lload3 dX5_mixBuffer_41 ?_
      exact r_lret dX5_mixBuffer_42 rfl ⟨(Nat.le_of_ble_eq_true rfl), (Nat.le_of_ble_eq_true rfl)⟩ ⟨by rw [show i = n by omega], rfl⟩
    · rw [hlen, tp_le (by omega) (by omega)] at c19; omega
  | succ d ih =>
    intro i hd
    refine r_iload5 dX5_mixBuffer_13 ?_
    refine r_aload0 dX5_mixBuffer_15 ?_
    refine r_getf dX5_mixBuffer_16 f_X5_193 (hT.ob) rfl ?_
    refine r_icmp_ge (tgt := 41) dX5_mixBuffer_19 (by decide) (fun c19 => ?_) (fun c19 => ?_)
    · rw [hlen, tp_le (by omega) (by omega)] at c19; omega
    · refine r_lload3 dX5_mixBuffer_22 ?_
      refine r_aload0 dX5_mixBuffer_23 ?_
      refine r_getf dX5_mixBuffer_24 f_X5_20 (hT.ob) rfl ?_
      refine r_iload5 dX5_mixBuffer_27 ?_
      refine r_iald dX5_mixBuffer_29 hT.bu (i := i) rfl (by omega) (by decide) ?_
      refine r_i2l dX5_mixBuffer_30 ?_
      refine r_pS dX5_mixBuffer_31 v_X5_300 (X_mix hl) rfl rfl rfl (Nat.le_of_ble_eq_true rfl) ⟨(Nat.le_of_ble_eq_true rfl), (Nat.le_of_ble_eq_true rfl)⟩ ⟨(Nat.le_of_ble_eq_true rfl), (Nat.le_of_ble_eq_true rfl)⟩ ?_
      refine r_lstore3 dX5_mixBuffer_34 (Nat.le_of_ble_eq_true rfl) rfl ?_
      refine r_iinc5 (v := nI (i + 1)) dX5_mixBuffer_35 (Nat.le_of_ble_eq_true rfl) rfl (tp_inc i) ?_
      exact r_goto (tgt := 13) dX5_mixBuffer_38 (by decide) (ih (i + 1) (by omega))

set_option maxRecDepth 100000 in
set_option maxHeartbeats 4000000 in
theorem X_mixBuffer {l : Launch} {G : tp_G} {x : Nat} {h0 h : tp_H} {u : Nat → Int32} {π ρ : Nat → Nat} {us : Nat → Nat → Int32} {σ : Nat → Nat} {st len : Int32} {tx rd : Nat → Int32} (hl : l.stackTraces = false) (hT0 : kx_S G x h0 u π ρ us σ st len tx rd h) {s0 : Int64} {n : Nat} (hlen : len = nI n) (hn : n ≤ 60) : tp_Met l G mX5_mixBuffer 0 0 [.ref x, .long s0] h (tp_PR (.long (z_mixN (fun j => (tx j).toInt64) n (31 * s0 + (nI n).toInt64))) h) tp_NX := by
  have hT := hT0.self
  have hB := hT.bk
  refine tp_start (L0 := [some (.ref x), some (.long s0), none, none, none, none]) (by decide) rfl hl (Nat.le_of_ble_eq_true rfl) rfl ?_
  refine r_lload1 dX5_mixBuffer_0 ?_
  refine r_aload0 dX5_mixBuffer_1 ?_
  refine r_getf dX5_mixBuffer_2 f_X5_193 (hT.ob) rfl ?_
  rw [hlen]
  refine r_i2l dX5_mixBuffer_5 ?_
  refine r_pS dX5_mixBuffer_6 v_X5_300 (X_mix hl) rfl rfl rfl (Nat.le_of_ble_eq_true rfl) ⟨(Nat.le_of_ble_eq_true rfl), (Nat.le_of_ble_eq_true rfl)⟩ ⟨(Nat.le_of_ble_eq_true rfl), (Nat.le_of_ble_eq_true rfl)⟩ ?_
  refine r_lstore3 dX5_mixBuffer_9 (Nat.le_of_ble_eq_true rfl) rfl ?_
  refine r_iconst (v := 0) dX5_mixBuffer_10 (by decide) ?_
  refine r_istore5 dX5_mixBuffer_11 (Nat.le_of_ble_eq_true rfl) rfl ?_
  exact X_mb hl hT hlen hn n 0 (by omega)

set_option maxRecDepth 100000 in
set_option maxHeartbeats 4000000 in
theorem X_dg1 {l : Launch} {G : tp_G} {x : Nat} {h0 h : tp_H} {u : Nat → Int32} {π ρ : Nat → Nat} {us : Nat → Nat → Int32} {σ : Nat → Nat} {st len : Int32} {tx rd : Nat → Int32} (hl : l.stackTraces = false) (hT0 : kx_S G x h0 u π ρ us σ st len tx rd h) (hI1 : z_I1 u) (hI2 : k_I2 u) {Q : tp_Q} {H : Int64} : ∀ d (i : Nat), i + d = 14 → tp_Run l G mX5_digest (tp_rm mX5_digest 0 0) Q 0 0 h 29 [some (.ref x), some (.long (z_mixN (fun j => (z_count u st j).toInt64) 14 H)), none, none] [] → tp_Run l G mX5_digest (tp_rm mX5_digest 0 0) Q 0 0 h 6 [some (.ref x), some (.long (z_mixN (fun j => (z_count u st j).toInt64) i H)), none, some (.int (nI i))] [] := by
  intro d
  have hT := hT0.self
  have hB := hT.bk
  induction d with
  | zero =>
    intro i hd kk
    refine r_iload3 dX5_digest_6 ?_
    refine r_bipush (v := 14) dX5_digest_7 (by decide) ?_
    refine r_icmp_ge (tgt := 29) dX5_digest_9 (by decide) (fun c9 => ?_) (fun c9 => ?_)
    · rw [show i = 14 by omega]
      exact r_fg3 kk
    · rw [show (14 : Int32) = nI 14 from rfl, tp_le (by omega) (by omega)] at c9; omega
  | succ d ih =>
    intro i hd kk
    refine r_iload3 dX5_digest_6 ?_
    refine r_bipush (v := 14) dX5_digest_7 (by decide) ?_
    refine r_icmp_ge (tgt := 29) dX5_digest_9 (by decide) (fun c9 => ?_) (fun c9 => ?_)
    · rw [show (14 : Int32) = nI 14 from rfl, tp_le (by omega) (by omega)] at c9; omega
    · refine r_lload1 dX5_digest_12 ?_
      refine r_aload0 dX5_digest_13 ?_
      refine r_iload3 dX5_digest_14 ?_
      refine r_pV dX5_digest_15 v_X5_297 (Y_count hl hT hI1 hI2 (j := i) (by omega)) rfl (hT.ob) rfl rfl rfl (Nat.le_of_ble_eq_true rfl) ⟨(Nat.le_of_ble_eq_true rfl), (Nat.le_of_ble_eq_true rfl)⟩ ⟨(Nat.le_of_ble_eq_true rfl), (Nat.le_of_ble_eq_true rfl)⟩ ?_
      refine r_i2l dX5_digest_18 ?_
      refine r_pS dX5_digest_19 v_X5_300 (X_mix hl) rfl rfl rfl (Nat.le_of_ble_eq_true rfl) ⟨(Nat.le_of_ble_eq_true rfl), (Nat.le_of_ble_eq_true rfl)⟩ ⟨(Nat.le_of_ble_eq_true rfl), (Nat.le_of_ble_eq_true rfl)⟩ ?_
      refine r_lstore1 dX5_digest_22 (Nat.le_of_ble_eq_true rfl) rfl ?_
      refine r_iinc3 (v := nI (i + 1)) dX5_digest_23 (Nat.le_of_ble_eq_true rfl) rfl (tp_inc i) ?_
      exact r_goto (tgt := 6) dX5_digest_26 (by decide) (ih (i + 1) (by omega) kk)

set_option maxRecDepth 100000 in
set_option maxHeartbeats 4000000 in
theorem X_dg2 {l : Launch} {G : tp_G} {x : Nat} {h0 h : tp_H} {u : Nat → Int32} {π ρ : Nat → Nat} {us : Nat → Nat → Int32} {σ : Nat → Nat} {st len : Int32} {tx rd : Nat → Int32} (hl : l.stackTraces = false) (hT0 : kx_S G x h0 u π ρ us σ st len tx rd h) (hI1 : z_I1 u) (hI2 : k_I2 u) {Q : tp_Q} {H : Int64} : ∀ d (i : Nat), i + d = 4 → tp_Run l G mX5_digest (tp_rm mX5_digest 0 0) Q 0 0 h 53 [some (.ref x), some (.long (z_mixN (fun j => (u j).toInt64) 4 H)), none, none] [] → tp_Run l G mX5_digest (tp_rm mX5_digest 0 0) Q 0 0 h 31 [some (.ref x), some (.long (z_mixN (fun j => (u j).toInt64) i H)), none, some (.int (nI i))] [] := by
  intro d
  have hT := hT0.self
  have hB := hT.bk
  induction d with
  | zero =>
    intro i hd kk
    refine r_iload3 dX5_digest_31 ?_
    refine r_iconst (v := 4) dX5_digest_32 (by decide) ?_
    refine r_icmp_ge (tgt := 53) dX5_digest_33 (by decide) (fun c33 => ?_) (fun c33 => ?_)
    · rw [show i = 4 by omega]
      exact r_fg3 kk
    · rw [show (4 : Int32) = nI 4 from rfl, tp_le (by omega) (by omega)] at c33; omega
  | succ d ih =>
    intro i hd kk
    refine r_iload3 dX5_digest_31 ?_
    refine r_iconst (v := 4) dX5_digest_32 (by decide) ?_
    refine r_icmp_ge (tgt := 53) dX5_digest_33 (by decide) (fun c33 => ?_) (fun c33 => ?_)
    · rw [show (4 : Int32) = nI 4 from rfl, tp_le (by omega) (by omega)] at c33; omega
    · refine r_lload1 dX5_digest_36 ?_
      refine r_aload0 dX5_digest_37 ?_
      refine r_iload3 dX5_digest_38 ?_
      refine r_pV dX5_digest_39 v_X5_304 (X_setting hl hT (j := i) (by omega)) rfl (hT.ob) rfl rfl rfl (Nat.le_of_ble_eq_true rfl) ⟨(Nat.le_of_ble_eq_true rfl), (Nat.le_of_ble_eq_true rfl)⟩ ⟨(Nat.le_of_ble_eq_true rfl), (Nat.le_of_ble_eq_true rfl)⟩ ?_
      refine r_i2l dX5_digest_42 ?_
      refine r_pS dX5_digest_43 v_X5_300 (X_mix hl) rfl rfl rfl (Nat.le_of_ble_eq_true rfl) ⟨(Nat.le_of_ble_eq_true rfl), (Nat.le_of_ble_eq_true rfl)⟩ ⟨(Nat.le_of_ble_eq_true rfl), (Nat.le_of_ble_eq_true rfl)⟩ ?_
      refine r_lstore1 dX5_digest_46 (Nat.le_of_ble_eq_true rfl) rfl ?_
      refine r_iinc3 (v := nI (i + 1)) dX5_digest_47 (Nat.le_of_ble_eq_true rfl) rfl (tp_inc i) ?_
      exact r_goto (tgt := 31) dX5_digest_50 (by decide) (ih (i + 1) (by omega) kk)

set_option maxRecDepth 100000 in
set_option maxHeartbeats 4000000 in
theorem X_dg3 {l : Launch} {G : tp_G} {x : Nat} {h0 h : tp_H} {u : Nat → Int32} {π ρ : Nat → Nat} {us : Nat → Nat → Int32} {σ : Nat → Nat} {st len : Int32} {tx rd : Nat → Int32} (hl : l.stackTraces = false) (hT0 : kx_S G x h0 u π ρ us σ st len tx rd h) (hI1 : z_I1 u) (hI2 : k_I2 u) {Q : tp_Q} {H : Int64} : ∀ d (i : Nat), i + d = 4 → tp_Run l G mX5_digest (tp_rm mX5_digest 0 0) Q 0 0 h 73 [some (.ref x), some (.long (z_mixC (k_mixW u) 4 H)), none, none] [] → tp_Run l G mX5_digest (tp_rm mX5_digest 0 0) Q 0 0 h 55 [some (.ref x), some (.long (z_mixC (k_mixW u) i H)), none, some (.int (nI i))] [] := by
  intro d
  have hT := hT0.self
  have hB := hT.bk
  induction d with
  | zero =>
    intro i hd kk
    refine r_iload3 dX5_digest_55 ?_
    refine r_iconst (v := 4) dX5_digest_56 (by decide) ?_
    refine r_icmp_ge (tgt := 73) dX5_digest_57 (by decide) (fun c57 => ?_) (fun c57 => ?_)
    · rw [show i = 4 by omega]
      exact r_fg3 kk
    · rw [show (4 : Int32) = nI 4 from rfl, tp_le (by omega) (by omega)] at c57; omega
  | succ d ih =>
    intro i hd kk
    refine r_iload3 dX5_digest_55 ?_
    refine r_iconst (v := 4) dX5_digest_56 (by decide) ?_
    refine r_icmp_ge (tgt := 73) dX5_digest_57 (by decide) (fun c57 => ?_) (fun c57 => ?_)
    · rw [show (4 : Int32) = nI 4 from rfl, tp_le (by omega) (by omega)] at c57; omega
    · refine r_aload0 dX5_digest_60 ?_
      refine r_lload1 dX5_digest_61 ?_
      refine r_iload3 dX5_digest_62 ?_
      refine r_pV dX5_digest_63 v_X5_307 (X_mixWallet hl hT hI1 hI2 (w := i) (by omega)) rfl (hT.ob) rfl rfl rfl (Nat.le_of_ble_eq_true rfl) ⟨(Nat.le_of_ble_eq_true rfl), (Nat.le_of_ble_eq_true rfl)⟩ ⟨(Nat.le_of_ble_eq_true rfl), (Nat.le_of_ble_eq_true rfl)⟩ ?_
      refine r_lstore1 dX5_digest_66 (Nat.le_of_ble_eq_true rfl) rfl ?_
      refine r_iinc3 (v := nI (i + 1)) dX5_digest_67 (Nat.le_of_ble_eq_true rfl) rfl (tp_inc i) ?_
      exact r_goto (tgt := 55) dX5_digest_70 (by decide) (ih (i + 1) (by omega) kk)

set_option maxRecDepth 100000 in
set_option maxHeartbeats 4000000 in
theorem X_digest {l : Launch} {G : tp_G} {x : Nat} {h0 h : tp_H} {u : Nat → Int32} {π ρ : Nat → Nat} {us : Nat → Nat → Int32} {σ : Nat → Nat} {st len : Int32} {tx rd : Nat → Int32} (hl : l.stackTraces = false) (hT0 : kx_S G x h0 u π ρ us σ st len tx rd h) (hI1 : z_I1 u) (hI2 : k_I2 u) {n : Nat} (hlen : len = nI n) (hn : n ≤ 60) : tp_Met l G mX5_digest 0 0 [.ref x] h (tp_PR (.long (k_digest u tx st n)) h) tp_NX := by
  have hT := hT0.self
  refine tp_start (L0 := [some (.ref x), none, none, none]) (by decide) rfl hl (Nat.le_of_ble_eq_true rfl) rfl ?_
  refine r_ldc2 dX5_digest_0 c_X5_295 ?_
  refine r_lstore1 dX5_digest_3 (Nat.le_of_ble_eq_true rfl) rfl ?_
  refine r_iconst (v := 0) dX5_digest_4 (by decide) ?_
  refine r_istore3 dX5_digest_5 (Nat.le_of_ble_eq_true rfl) rfl ?_
  refine X_dg1 hl hT hI1 hI2 14 0 (by omega) ?_
  refine r_iconst (v := 0) dX5_digest_29 (by decide) ?_
  refine r_istore3 dX5_digest_30 (Nat.le_of_ble_eq_true rfl) rfl ?_
  refine X_dg2 hl hT hI1 hI2 4 0 (by omega) ?_
  refine r_iconst (v := 0) dX5_digest_53 (by decide) ?_
  refine r_istore3 dX5_digest_54 (Nat.le_of_ble_eq_true rfl) rfl ?_
  refine X_dg3 hl hT hI1 hI2 4 0 (by omega) ?_
  refine r_aload0 dX5_digest_73 ?_
  refine r_lload1 dX5_digest_74 ?_
  refine r_pV dX5_digest_75 v_X5_311 (X_mixHolds hl hT hI1 hI2) rfl (hT.ob) rfl rfl rfl (Nat.le_of_ble_eq_true rfl) ⟨(Nat.le_of_ble_eq_true rfl), (Nat.le_of_ble_eq_true rfl)⟩ ⟨(Nat.le_of_ble_eq_true rfl), (Nat.le_of_ble_eq_true rfl)⟩ ?_
  refine r_lstore1 dX5_digest_78 (Nat.le_of_ble_eq_true rfl) rfl ?_
  refine r_aload0 dX5_digest_79 ?_
  refine r_lload1 dX5_digest_80 ?_
  refine r_pV dX5_digest_81 v_X5_315 (X_mixPayments hl hT hI1 hI2) rfl (hT.ob) rfl rfl rfl (Nat.le_of_ble_eq_true rfl) ⟨(Nat.le_of_ble_eq_true rfl), (Nat.le_of_ble_eq_true rfl)⟩ ⟨(Nat.le_of_ble_eq_true rfl), (Nat.le_of_ble_eq_true rfl)⟩ ?_
  refine r_lstore1 dX5_digest_84 (Nat.le_of_ble_eq_true rfl) rfl ?_
  refine r_aload0 dX5_digest_85 ?_
  refine r_lload1 dX5_digest_86 ?_
  refine r_pV dX5_digest_87 v_X5_318 (X_mixBuffer hl hT hlen hn) rfl (hT.ob) rfl rfl rfl (Nat.le_of_ble_eq_true rfl) ⟨(Nat.le_of_ble_eq_true rfl), (Nat.le_of_ble_eq_true rfl)⟩ ⟨(Nat.le_of_ble_eq_true rfl), (Nat.le_of_ble_eq_true rfl)⟩ ?_
  exact r_lret dX5_digest_90 rfl ⟨(Nat.le_of_ble_eq_true rfl), (Nat.le_of_ble_eq_true rfl)⟩ ⟨rfl, rfl⟩

