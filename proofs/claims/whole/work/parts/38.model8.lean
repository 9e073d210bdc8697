/-! doubles' bits -/
def z_fin (x : UInt64) : Prop := vf_n64 x ∧ FP.dcmp x x = some .eq
section DB
variable {l : Launch} {G : tp_G} {M : tp_M} {R : Room} {Q : tp_Q} {k n : Nat} {h : tp_H} {pc : Nat} {L : List (Option Value)} {st : List Value}
theorem r_bits {x : UInt64} {ix : Nat} (hd : decode M.2.1 pc = .ok (.invokestatic ix, 3)) (hw : Cond.methodLink M.1.cls ix ⟨"java/lang/Double", "doubleToRawLongBits", "(D)J"⟩ ∈ tp_all ∧ Cond.static ⟨"java/lang/Double", "doubleToRawLongBits", "(D)J"⟩ ∈ tp_all ∧ Cond.native ⟨"java/lang/Double", "doubleToRawLongBits", "(D)J"⟩ ∈ tp_all ∧ Cond.initialized "java/lang/Double" ∈ tp_all) (hfr : 1 ≤ R.frames) (hlo : (st.map fun v => v.category).sum + 15 ≤ R.locals) (kk : tp_Run l G M R Q k n h (pc + 3) L (.long x.toInt64 :: st)) : tp_Run l G M R Q k n h pc L (.double x :: st) := by
  intro p e s m args below meth c A H locs ls hR hS hl
  exact vn_d2l A.hx A.hb (by rw [hl.1, A.hml]) A.hown (A.hts _ hw.1) (A.hts _ hw.2.2.1) (A.hts _ hw.2.1) (A.hts _ hw.2.2.2) hfr hlo hd (kk p e s m args below meth c A H locs ls hR hS hl)
theorem v_bits : Cond.methodLink RJxe99ae 134 ⟨"java/lang/Double", "doubleToRawLongBits", "(D)J"⟩ ∈ tp_all ∧ Cond.static ⟨"java/lang/Double", "doubleToRawLongBits", "(D)J"⟩ ∈ tp_all ∧ Cond.native ⟨"java/lang/Double", "doubleToRawLongBits", "(D)J"⟩ ∈ tp_all ∧ Cond.initialized "java/lang/Double" ∈ tp_all := ⟨tp_in 1292 (by decide +kernel) rfl, tp_in 1293 (by decide +kernel) rfl, tp_in 1294 (by decide +kernel) rfl, tp_in 82 (by decide +kernel) rfl⟩
end DB
set_option maxRecDepth 100000 in
set_option maxHeartbeats 4000000 in
theorem M_isNaN {l : Launch} {G : tp_G} {h : tp_H} (hl : l.stackTraces = false) {x : UInt64} (hx : z_fin x) : tp_Met l G mJxe99ae_isNaN_b9ae7 0 0 [.double x] h (tp_PR (.int 0) h) tp_NX := by
  refine tp_start (L0 := [some (.double x), none]) (by decide) rfl hl (Nat.le_of_ble_eq_true rfl) rfl ?_
  refine r_dload0 dJxe99ae_isNaN_b9ae7_0 ?_
  refine r_dload0 dJxe99ae_isNaN_b9ae7_1 ?_
  refine r_dcmp dJxe99ae_isNaN_b9ae7_2 ?_
  rw [hx.2, show Op.cmpValue (some .eq) .l = 0 from rfl]
  refine r_if_eq (tgt := 10) dJxe99ae_isNaN_b9ae7_3 (by decide) (fun c3 => ?_) (fun c3 => ?_)
  · refine r_iconst (v := 0) dJxe99ae_isNaN_b9ae7_10 (by decide) ?_
    exact r_zret dJxe99ae_isNaN_b9ae7_11 rfl ⟨(Nat.le_of_ble_eq_true rfl), (Nat.le_of_ble_eq_true rfl)⟩ (by first | rfl | decide) ⟨rfl, rfl⟩
  · exact absurd rfl c3

set_option maxRecDepth 100000 in
set_option maxHeartbeats 4000000 in
theorem M_bits {l : Launch} {G : tp_G} {h : tp_H} (hl : l.stackTraces = false) {x : UInt64} (hx : z_fin x) : tp_Met l G mJxe99ae_doubleToLongBits_ccdee 0 0 [.double x] h (tp_PR (.long x.toInt64) h) tp_NX := by
  refine tp_start (L0 := [some (.double x), none]) (by decide) rfl hl (Nat.le_of_ble_eq_true rfl) rfl ?_
  refine r_dload0 dJxe99ae_doubleToLongBits_ccdee_0 ?_
  refine r_pS dJxe99ae_doubleToLongBits_ccdee_1 v_Jxe99ae_122 (M_isNaN hl hx) rfl rfl rfl (Nat.le_of_ble_eq_true rfl) ⟨(Nat.le_of_ble_eq_true rfl), (Nat.le_of_ble_eq_true rfl)⟩ ⟨(Nat.le_of_ble_eq_true rfl), (Nat.le_of_ble_eq_true rfl)⟩ ?_
  refine r_if_ne (tgt := 12) dJxe99ae_doubleToLongBits_ccdee_4 (by decide) (fun c4 => ?_) (fun c4 => ?_)
  · exact absurd rfl c4
  · refine r_dload0 dJxe99ae_doubleToLongBits_ccdee_7 ?_
    refine r_bits dJxe99ae_doubleToLongBits_ccdee_8 v_bits (Nat.le_of_ble_eq_true rfl) (Nat.le_of_ble_eq_true rfl) ?_
    exact r_lret dJxe99ae_doubleToLongBits_ccdee_11 rfl ⟨(Nat.le_of_ble_eq_true rfl), (Nat.le_of_ble_eq_true rfl)⟩ ⟨rfl, rfl⟩

def z_mixN (f : Nat → Int64) : Nat → Int64 → Int64
  | 0, h => h
  | n + 1, h => 31 * z_mixN f n h + f n
def z_mixC (f : Nat → Int64 → Int64) : Nat → Int64 → Int64
  | 0, h => h
  | n + 1, h => f n (z_mixC f n h)
def z_roomOf (z : Nat → Int32) (w c : Nat) : Nat := z_room (z_n (z 2)) (z_n (z_free z w c))
def z_needOf (z : Nat → Int32) (w c a : Nat) : Nat := z_need (z_n (z_rate z w c)) (z_n (z 1)) a
def z_mixP (z : Nat → Int32) (w c : Nat) (h : Int64) : Int64 := 31 * (31 * z_mixN (fun j => (z_purse z w c j).toInt64) 8 h + (nI (z_roomOf z w c)).toInt64) + (z_share z w c).toInt64
def z_mixW (z : Nat → Int32) (w : Nat) (h : Int64) : Int64 := 31 * (31 * (31 * (31 * (31 * z_mixC (z_mixP z w) 4 h + (z_exThen z w 0 1 1000).toInt64) + (z_exThen z w 2 0 1000).toInt64) + (nI (z_needOf z w 3 500)).toInt64) + (z_whyClose z w).toInt64) + (z_closed z w).toInt64
def z_pay (z : Nat → Int32) (p j : Nat) : Int32 := if j < 5 then z (136 + 5 * p + j) else tp_b (z (136 + 5 * p + 4) = 0 ∧ z 4 ≤ z (136 + 5 * p + 3) + 30)
def z_digest (z tx : Nat → Int32) (st : Int32) (len : Nat) : Int64 :=
  z_mixN (fun j => (tx j).toInt64) len (31 * z_mixN (fun j => (z_pay z (j / 6) (j % 6)).toInt64) (6 * z_n (z 9)) (z_mixN (fun j => (z (96 + j)).toInt64) (5 * z_n (z 8)) (z_mixC (z_mixW z) 4 (z_mixN (fun j => (z j).toInt64) 4 (z_mixN (fun j => (z_count z st j).toInt64) 14 2551)))) + (nI len).toInt64)
/-- what the questions need of the value -/
def z_I1 (z : Nat → Int32) : Prop := (∃ N, z 8 = nI N ∧ N ≤ 8) ∧ (∃ P, z 9 = nI P ∧ P ≤ 12) ∧ (∃ s, z 1 = nI s ∧ s ≤ 100) ∧ (∃ t, z 2 = nI t ∧ t ≤ 100)
def z_I2 (z : Nat → Int32) : Prop := ∀ w c, w < 4 → c < 4 → (∃ r, z_rate z w c = nI r ∧ 100 ≤ r ∧ r ≤ 2000) ∧ (∃ f, z_free z w c = nI f ∧ f < 2 ^ 30) ∧ z_fin (z_share z w c)
theorem z_I2.ne {z : Nat → Int32} (h : z_I2 z) {w c : Nat} (hw : w < 4) (hc : c < 4) : ¬ (z_rate z w c).toInt64 = 0 := by
  obtain ⟨⟨r, hr, h1, h2⟩, -⟩ := h w c hw hc
  rw [hr, nI_l (by omega)]
  exact fun q => absurd ((lN_eq (by omega) (by omega)).mp (q.trans (show (0 : Int64) = lN 0 from rfl))) (by omega)
section MW
variable {l : Launch} {G : tp_G} {y : Nat} {h0 h : tp_H} {z hi tx pa : Nat → Int32} {st len thr rd nu du : Int32} {hs : Int64}
theorem M_room {w c : Nat} (hl : l.stackTraces = false) (hT0 : mm_S G y h0 z hi tx pa st len thr rd nu du hs h) (h1 : z_I1 z) (h2 : z_I2 z) (hw : w < 4) (hc : c < 4) : tp_Met l G mX6_roomOf 0 0 [.ref y, .int (nI w), .int (nI c)] h (tp_PR (.int (nI (z_roomOf z w c))) h) tp_NX := by
  obtain ⟨⟨N, hz8, hN⟩, -, -, t, ht, ht2⟩ := h1
  obtain ⟨-, ⟨f, hf, hf2⟩, -⟩ := h2 w c hw hc
  have e : z_roomOf z w c = z_room t f := by unfold z_roomOf; rw [ht, hf, z_nI (by omega), z_nI (by omega)]
  rw [e]
  exact M_roomOf hl hT0 hw hc hz8 hN hf hf2 ht ht2
theorem M_need {w c a : Nat} (hl : l.stackTraces = false) (hT0 : mm_S G y h0 z hi tx pa st len thr rd nu du hs h) (h1 : z_I1 z) (h2 : z_I2 z) (hw : w < 4) (hc : c < 4) (ha : 1 ≤ a ∧ a ≤ 9999) : tp_Met l G mX6_neededFor 0 0 [.ref y, .int (nI w), .int (nI c), .int (nI a)] h (tp_PR (.int (nI (z_needOf z w c a))) h) tp_NX := by
  obtain ⟨-, -, ⟨s, hs, hs2⟩, -⟩ := h1
  obtain ⟨⟨r, hr, hr0⟩, -, -⟩ := h2 w c hw hc
  have e : z_needOf z w c a = z_need r s a := by unfold z_needOf; rw [hs, hr, z_nI (by omega), z_nI (by omega)]
  rw [e]
  exact M_neededFor hl hT0 hw hc hr hr0 hs hs2 ha
theorem M_shareOf {w c : Nat} (hl : l.stackTraces = false) (hT0 : mm_S G y h0 z hi tx pa st len thr rd nu du hs h) (h1 : z_I1 z) (h2 : z_I2 z) (hw : w < 4) (hc : c < 4) : tp_Met l G mX6_share 0 0 [.ref y, .int (nI w), .int (nI c)] h (tp_PR (.double (z_share z w c)) h) tp_NX := by
  obtain ⟨⟨N, hz8, hN⟩, -⟩ := h1
  obtain ⟨-, -, hq⟩ := h2 w c hw hc
  refine M_share hl hT0 hw hc hz8 hN (fun q => ?_)
  have := hq.1
  unfold z_share at this
  rw [if_neg q, hz8, z_nI (by omega)] at this
  exact this
end MW
theorem M_purseNow_I {w c j : Nat} {l : Launch} {G : tp_G} {y : Nat} {h0 h : tp_H} {z hi tx pa : Nat → Int32} {st len thr rd nu du : Int32} {hs : Int64} (hl : l.stackTraces = false) (hT0 : mm_S G y h0 z hi tx pa st len thr rd nu du hs h) (h1 : z_I1 z) (hw : w < 4) (hc : c < 4) (hj : j < 8) : tp_Met l G mX6_purseNow 0 0 [.ref y, .int (nI w), .int (nI c), .int (nI j)] h (tp_PR (.int (z_purse z w c j)) h) tp_NX := by
  obtain ⟨⟨N, hz8, hN⟩, ⟨P, hz9, hP9⟩, -⟩ := h1
  exact M_purseNow hl hT0 hw hc hj hz8 hN hz9 hP9
theorem M_whyNoClosing_I {w : Nat} {l : Launch} {G : tp_G} {y : Nat} {h0 h : tp_H} {z hi tx pa : Nat → Int32} {st len thr rd nu du : Int32} {hs : Int64} (hl : l.stackTraces = false) (hT0 : mm_S G y h0 z hi tx pa st len thr rd nu du hs h) (h1 : z_I1 z) (hw : w < 4) : tp_Met l G mX6_whyNoClosing 0 0 [.ref y, .int (nI w)] h (tp_PR (.int (z_whyClose z w)) h) tp_NX := by
  obtain ⟨⟨N, hz8, hN⟩, ⟨P, hz9, hP9⟩, -⟩ := h1
  exact M_whyNoClosing hl hT0 hw hz8 hN hz9 hP9
theorem M_closedThen_I {w : Nat} {l : Launch} {G : tp_G} {y : Nat} {h0 h : tp_H} {z hi tx pa : Nat → Int32} {st len thr rd nu du : Int32} {hs : Int64} (hl : l.stackTraces = false) (hT0 : mm_S G y h0 z hi tx pa st len thr rd nu du hs h) (h1 : z_I1 z) (hw : w < 4) : tp_Met l G mX6_closedThen 0 0 [.ref y, .int (nI w)] h (tp_PR (.int (z_closed z w)) h) tp_NX := by
  obtain ⟨⟨N, hz8, hN⟩, ⟨P, hz9, hP9⟩, -⟩ := h1
  exact M_closedThen hl hT0 hw hz8 hN hz9 hP9
theorem M_counted_I {j : Nat} {l : Launch} {G : tp_G} {y : Nat} {h0 h : tp_H} {z hi tx pa : Nat → Int32} {st len thr rd nu du : Int32} {hs : Int64} (hl : l.stackTraces = false) (hT0 : mm_S G y h0 z hi tx pa st len thr rd nu du hs h) (h1 : z_I1 z) (hj : j < 14) : tp_Met l G mX6_counted 0 0 [.ref y, .int (nI j)] h (tp_PR (.int (z_count z st j)) h) tp_NX := by
  obtain ⟨-, ⟨P, hz9, hP9⟩, -⟩ := h1
  exact M_counted hl hT0 hj hz9 hP9
set_option maxRecDepth 100000 in
set_option maxHeartbeats 4000000 in
theorem M_mixWallet_lp1  {l : Launch} {G : tp_G} {y : Nat} {h9 : tp_H} {z hi tx pa : Nat → Int32} {st len thr rd nu du : Int32} {hs : Int64} (hl : l.stackTraces = false) (hI1 : z_I1 z) (hI2 : z_I2 z) {w c : Nat} (hw : w < 4) (hc : c < 4) {Q : tp_Q} : ∀ d (j : Nat) (h1 : tp_H), j + d = 8 → mm_S G y h9 z hi tx pa st len thr rd nu du (z_mixN (fun j => (z_purse z w c j).toInt64) j hs) h1 → (∀ h1, mm_S G y h9 z hi tx pa st len thr rd nu du (z_mixN (fun j => (z_purse z w c j).toInt64) 8 hs) h1 → tp_Run l G mX6_mixWallet (tp_rm mX6_mixWallet 0 0) Q 0 0 h1 33 [some (.ref y), some (.int (nI w)), some (.int (nI c)), some (.int (nI 8))] []) → tp_Run l G mX6_mixWallet (tp_rm mX6_mixWallet 0 0) Q 0 0 h1 9 [some (.ref y), some (.int (nI w)), some (.int (nI c)), some (.int (nI j))] [] := by
  intro d
  induction d with
  | zero =>
    intro j h1 hd hT kk
    refine r_iload3 dX6_mixWallet_9 ?_
    refine r_bipush (v := 8) dX6_mixWallet_10 (by decide) ?_
    refine r_icmp_ge (tgt := 33) dX6_mixWallet_12 (by decide) (fun c12 => ?_) (fun c12 => ?_)
    · rw [show j = 8 by omega] at hT
      rw [show j = 8 by omega]
      exact kk h1 hT
    · rw [show (8 : Int32) = nI 8 from rfl, tp_le (by omega) (by omega)] at c12; omega
  | succ d ih =>
    intro j h1 hd hT kk
    refine r_iload3 dX6_mixWallet_9 ?_
    refine r_bipush (v := 8) dX6_mixWallet_10 (by decide) ?_
    refine r_icmp_ge (tgt := 33) dX6_mixWallet_12 (by decide) (fun c12 => ?_) (fun c12 => ?_)
    · rw [show (8 : Int32) = nI 8 from rfl, tp_le (by omega) (by omega)] at c12; omega
    · refine r_aload0 dX6_mixWallet_15 ?_
      refine r_aload0 dX6_mixWallet_16 ?_
      refine r_iload1 dX6_mixWallet_17 ?_
      refine r_iload2 dX6_mixWallet_18 ?_
      refine r_iload3 dX6_mixWallet_19 ?_
      refine r_pV dX6_mixWallet_20 v_X6_194 ((M_purseNow_I (w := w) (c := c) (j := j) hl hT hI1 hw hc (by omega))) rfl (hT.ob) rfl rfl rfl (Nat.le_of_ble_eq_true rfl) ⟨(Nat.le_of_ble_eq_true rfl), (Nat.le_of_ble_eq_true rfl)⟩ ⟨(Nat.le_of_ble_eq_true rfl), (Nat.le_of_ble_eq_true rfl)⟩ ?_
      refine r_i2l dX6_mixWallet_23 ?_
      refine r_sV0 dX6_mixWallet_24 v_X6_232 (M_mix hl hT) rfl (hT.ob) rfl rfl rfl (Nat.le_of_ble_eq_true rfl) ⟨(Nat.le_of_ble_eq_true rfl), (Nat.le_of_ble_eq_true rfl)⟩ ⟨(Nat.le_of_ble_eq_true rfl), (Nat.le_of_ble_eq_true rfl)⟩ (fun h1 hP => ?_)
      have hT := hT.trans hP
      refine r_iinc3 (v := nI (j + 1)) dX6_mixWallet_27 (Nat.le_of_ble_eq_true rfl) rfl (tp_inc j) ?_
      exact r_goto (tgt := 9) dX6_mixWallet_30 (by decide) (ih (j + 1) h1 (by omega) hT kk)

set_option maxRecDepth 100000 in
set_option maxHeartbeats 4000000 in
theorem M_mixWallet_lp2  {l : Launch} {G : tp_G} {y : Nat} {h9 : tp_H} {z hi tx pa : Nat → Int32} {st len thr rd nu du : Int32} {hs : Int64} (hl : l.stackTraces = false) (hI1 : z_I1 z) (hI2 : z_I2 z) {w : Nat} (hw : w < 4) : ∀ d (c : Nat) (a3 : Option Value) (h1 : tp_H), c + d = 4 → mm_S G y h9 z hi tx pa st len thr rd nu du (z_mixC (z_mixP z w) c hs) h1 → tp_Run l G mX6_mixWallet (tp_rm mX6_mixWallet 0 0) (tp_QM G 0 0 (tp_PS (none) (fun h2 => mm_S G y h9 z hi tx pa st len thr rd nu du (z_mixW z w hs) h2)) tp_NX) 0 0 h1 2 [some (.ref y), some (.int (nI w)), some (.int (nI c)), a3] [] := by
  intro d
  induction d with
  | zero =>
    intro c a3 h1 hd hT
    refine r_iload2 dX6_mixWallet_2 ?_
    refine r_iconst (v := 4) dX6_mixWallet_3 (by decide) ?_
    refine r_icmp_ge (tgt := 63) dX6_mixWallet_4 (by decide) (fun c4 => ?_) (fun c4 => ?_)
    · refine r_aload0 dX6_mixWallet_63 ?_
      refine r_aload0 dX6_mixWallet_64 ?_
      refine r_iload1 dX6_mixWallet_65 ?_
      refine r_iconst (v := 0) dX6_mixWallet_66 (by decide) ?_
      refine r_iconst (v := 1) dX6_mixWallet_67 (by decide) ?_
      refine r_sipush (v := 1000) dX6_mixWallet_68 (by decide) ?_
      refine r_pV dX6_mixWallet_71 v_X6_209 (M_exchangedThen (f := 0) (t := 1) hl hT hw (by omega) (by omega) (hI2.ne hw (by omega))) rfl (hT.ob) rfl rfl rfl (Nat.le_of_ble_eq_true rfl) ⟨(Nat.le_of_ble_eq_true rfl), (Nat.le_of_ble_eq_true rfl)⟩ ⟨(Nat.le_of_ble_eq_true rfl), (Nat.le_of_ble_eq_true rfl)⟩ ?_
      refine r_i2l dX6_mixWallet_74 ?_
      refine r_sV0 dX6_mixWallet_75 v_X6_232 (M_mix hl hT) rfl (hT.ob) rfl rfl rfl (Nat.le_of_ble_eq_true rfl) ⟨(Nat.le_of_ble_eq_true rfl), (Nat.le_of_ble_eq_true rfl)⟩ ⟨(Nat.le_of_ble_eq_true rfl), (Nat.le_of_ble_eq_true rfl)⟩ (fun h1 hP => ?_)
      have hT := hT.trans hP
      refine r_aload0 dX6_mixWallet_78 ?_
      refine r_aload0 dX6_mixWallet_79 ?_
      refine r_iload1 dX6_mixWallet_80 ?_
      refine r_iconst (v := 2) dX6_mixWallet_81 (by decide) ?_
      refine r_iconst (v := 0) dX6_mixWallet_82 (by decide) ?_
      refine r_sipush (v := 1000) dX6_mixWallet_83 (by decide) ?_
      refine r_pV dX6_mixWallet_86 v_X6_209 (M_exchangedThen (f := 2) (t := 0) hl hT hw (by omega) (by omega) (hI2.ne hw (by omega))) rfl (hT.ob) rfl rfl rfl (Nat.le_of_ble_eq_true rfl) ⟨(Nat.le_of_ble_eq_true rfl), (Nat.le_of_ble_eq_true rfl)⟩ ⟨(Nat.le_of_ble_eq_true rfl), (Nat.le_of_ble_eq_true rfl)⟩ ?_
      refine r_i2l dX6_mixWallet_89 ?_
      refine r_sV0 dX6_mixWallet_90 v_X6_232 (M_mix hl hT) rfl (hT.ob) rfl rfl rfl (Nat.le_of_ble_eq_true rfl) ⟨(Nat.le_of_ble_eq_true rfl), (Nat.le_of_ble_eq_true rfl)⟩ ⟨(Nat.le_of_ble_eq_true rfl), (Nat.le_of_ble_eq_true rfl)⟩ (fun h1 hP => ?_)
      have hT := hT.trans hP
      refine r_aload0 dX6_mixWallet_93 ?_
      refine r_aload0 dX6_mixWallet_94 ?_
      refine r_iload1 dX6_mixWallet_95 ?_
      refine r_iconst (v := 3) dX6_mixWallet_96 (by decide) ?_
      refine r_sipush (v := 500) dX6_mixWallet_97 (by decide) ?_
      refine r_pV dX6_mixWallet_100 v_X6_213 (M_need (c := 3) (a := 500) hl hT hI1 hI2 hw (by omega) (by omega)) rfl (hT.ob) rfl rfl rfl (Nat.le_of_ble_eq_true rfl) ⟨(Nat.le_of_ble_eq_true rfl), (Nat.le_of_ble_eq_true rfl)⟩ ⟨(Nat.le_of_ble_eq_true rfl), (Nat.le_of_ble_eq_true rfl)⟩ ?_
      refine r_i2l dX6_mixWallet_103 ?_
      refine r_sV0 dX6_mixWallet_104 v_X6_232 (M_mix hl hT) rfl (hT.ob) rfl rfl rfl (Nat.le_of_ble_eq_true rfl) ⟨(Nat.le_of_ble_eq_true rfl), (Nat.le_of_ble_eq_true rfl)⟩ ⟨(Nat.le_of_ble_eq_true rfl), (Nat.le_of_ble_eq_true rfl)⟩ (fun h1 hP => ?_)
      have hT := hT.trans hP
      refine r_aload0 dX6_mixWallet_107 ?_
      refine r_aload0 dX6_mixWallet_108 ?_
      refine r_iload1 dX6_mixWallet_109 ?_
      refine r_pV dX6_mixWallet_110 v_X6_148 (M_whyNoClosing_I hl hT hI1 hw) rfl (hT.ob) rfl rfl rfl (Nat.le_of_ble_eq_true rfl) ⟨(Nat.le_of_ble_eq_true rfl), (Nat.le_of_ble_eq_true rfl)⟩ ⟨(Nat.le_of_ble_eq_true rfl), (Nat.le_of_ble_eq_true rfl)⟩ ?_
      refine r_i2l dX6_mixWallet_113 ?_
      refine r_sV0 dX6_mixWallet_114 v_X6_232 (M_mix hl hT) rfl (hT.ob) rfl rfl rfl (Nat.le_of_ble_eq_true rfl) ⟨(Nat.le_of_ble_eq_true rfl), (Nat.le_of_ble_eq_true rfl)⟩ ⟨(Nat.le_of_ble_eq_true rfl), (Nat.le_of_ble_eq_true rfl)⟩ (fun h1 hP => ?_)
      have hT := hT.trans hP
      refine r_aload0 dX6_mixWallet_117 ?_
      refine r_aload0 dX6_mixWallet_118 ?_
      refine r_iload1 dX6_mixWallet_119 ?_
      refine r_pV dX6_mixWallet_120 v_X6_219 (M_closedThen_I hl hT hI1 hw) rfl (hT.ob) rfl rfl rfl (Nat.le_of_ble_eq_true rfl) ⟨(Nat.le_of_ble_eq_true rfl), (Nat.le_of_ble_eq_true rfl)⟩ ⟨(Nat.le_of_ble_eq_true rfl), (Nat.le_of_ble_eq_true rfl)⟩ ?_
      refine r_i2l dX6_mixWallet_123 ?_
      refine r_sV0 dX6_mixWallet_124 v_X6_232 (M_mix hl hT) rfl (hT.ob) rfl rfl rfl (Nat.le_of_ble_eq_true rfl) ⟨(Nat.le_of_ble_eq_true rfl), (Nat.le_of_ble_eq_true rfl)⟩ ⟨(Nat.le_of_ble_eq_true rfl), (Nat.le_of_ble_eq_true rfl)⟩ (fun h1 hP => ?_)
      have hT := hT.trans hP
      exact r_vret dX6_mixWallet_127 rfl ⟨(Nat.le_of_ble_eq_true rfl), (Nat.le_of_ble_eq_true rfl)⟩ ⟨rfl, by rw [show c = 4 by omega] at hT; exact hT⟩
    · rw [show (4 : Int32) = nI 4 from rfl, tp_le (by omega) (by omega)] at c4; omega
  | succ d ih =>
    intro c a3 h1 hd hT
    refine r_iload2 dX6_mixWallet_2 ?_
    refine r_iconst (v := 4) dX6_mixWallet_3 (by decide) ?_
    refine r_icmp_ge (tgt := 63) dX6_mixWallet_4 (by decide) (fun c4 => ?_) (fun c4 => ?_)
    · rw [show (4 : Int32) = nI 4 from rfl, tp_le (by omega) (by omega)] at c4; omega
    · refine r_iconst (v := 0) dX6_mixWallet_7 (by decide) ?_
      refine r_istore3 dX6_mixWallet_8 (Nat.le_of_ble_eq_true rfl) rfl ?_
      refine M_mixWallet_lp1 hl hI1 hI2 hw (show c < 4 by omega) 8 0 h1 (by omega) hT (fun h1 hT => ?_)
      refine r_aload0 dX6_mixWallet_33 ?_
      refine r_aload0 dX6_mixWallet_34 ?_
      refine r_iload1 dX6_mixWallet_35 ?_
      refine r_iload2 dX6_mixWallet_36 ?_
      refine r_pV dX6_mixWallet_37 v_X6_216 (M_room hl hT hI1 hI2 hw (by omega)) rfl (hT.ob) rfl rfl rfl (Nat.le_of_ble_eq_true rfl) ⟨(Nat.le_of_ble_eq_true rfl), (Nat.le_of_ble_eq_true rfl)⟩ ⟨(Nat.le_of_ble_eq_true rfl), (Nat.le_of_ble_eq_true rfl)⟩ ?_
      refine r_i2l dX6_mixWallet_40 ?_
      refine r_sV0 dX6_mixWallet_41 v_X6_232 (M_mix hl hT) rfl (hT.ob) rfl rfl rfl (Nat.le_of_ble_eq_true rfl) ⟨(Nat.le_of_ble_eq_true rfl), (Nat.le_of_ble_eq_true rfl)⟩ ⟨(Nat.le_of_ble_eq_true rfl), (Nat.le_of_ble_eq_true rfl)⟩ (fun h1 hP => ?_)
      have hT := hT.trans hP
      refine r_aload0 dX6_mixWallet_44 ?_
      refine r_aload0 dX6_mixWallet_45 ?_
      refine r_iload1 dX6_mixWallet_46 ?_
      refine r_iload2 dX6_mixWallet_47 ?_
      refine r_pV dX6_mixWallet_48 v_X6_222 (M_shareOf hl hT hI1 hI2 hw (by omega)) rfl (hT.ob) rfl rfl rfl (Nat.le_of_ble_eq_true rfl) ⟨(Nat.le_of_ble_eq_true rfl), (Nat.le_of_ble_eq_true rfl)⟩ ⟨(Nat.le_of_ble_eq_true rfl), (Nat.le_of_ble_eq_true rfl)⟩ ?_
      refine r_pS dX6_mixWallet_51 v_X6_236 (M_bits hl (hI2 w c hw (by omega)).2.2) rfl rfl rfl (Nat.le_of_ble_eq_true rfl) ⟨(Nat.le_of_ble_eq_true rfl), (Nat.le_of_ble_eq_true rfl)⟩ ⟨(Nat.le_of_ble_eq_true rfl), (Nat.le_of_ble_eq_true rfl)⟩ ?_
      refine r_sV0 dX6_mixWallet_54 v_X6_232 (M_mix hl hT) rfl (hT.ob) rfl rfl rfl (Nat.le_of_ble_eq_true rfl) ⟨(Nat.le_of_ble_eq_true rfl), (Nat.le_of_ble_eq_true rfl)⟩ ⟨(Nat.le_of_ble_eq_true rfl), (Nat.le_of_ble_eq_true rfl)⟩ (fun h1 hP => ?_)
      have hT := hT.trans hP
      refine r_iinc2 (v := nI (c + 1)) dX6_mixWallet_57 (Nat.le_of_ble_eq_true rfl) rfl (tp_inc c) ?_
      exact r_goto (tgt := 2) dX6_mixWallet_60 (by decide) (ih (c + 1) _ h1 (by omega) hT)

set_option maxRecDepth 100000 in
set_option maxHeartbeats 4000000 in
theorem M_mixWallet {l : Launch} {G : tp_G} {y : Nat} {h0 h : tp_H} {z hi tx pa : Nat → Int32} {st len thr rd nu du : Int32} {hs : Int64} (hl : l.stackTraces = false) (hT0 : mm_S G y h0 z hi tx pa st len thr rd nu du hs h) {w : Nat} (hw : w < 4) (hI1 : z_I1 z) (hI2 : z_I2 z) : tp_Met l G mX6_mixWallet 0 0 [.ref y, .int (nI w)] h (tp_PS (none) (fun h1 => mm_S G y h z hi tx pa st len thr rd nu du (z_mixW z w hs) h1)) tp_NX := by
  have hT := hT0.self
  refine tp_start (L0 := [some (.ref y), some (.int (nI w)), none, none]) (by decide) rfl hl (Nat.le_of_ble_eq_true rfl) rfl ?_
  refine r_iconst (v := 0) dX6_mixWallet_0 (by decide) ?_
  refine r_istore2 dX6_mixWallet_1 (Nat.le_of_ble_eq_true rfl) rfl ?_
  exact M_mixWallet_lp2 hl hI1 hI2 hw 4 0 none h (by omega) hT

