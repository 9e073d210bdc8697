def k_rate (u : Nat → Int32) (w c : Nat) : Int32 := if u 4 ≤ u (z_at w c + 3) then u (z_at w c + 2) else kR u c
def k_gross (u : Nat → Int32) (w f t : Nat) (a : Int32) : Int64 := if t = 0 then a.toInt64 * (k_rate u w f).toInt64 / 1000 else if 0 < k_rate u w t then a.toInt64 * 1000 / (k_rate u w t).toInt64 else 0
def k_spread (u : Nat → Int32) (g : Int64) : Int32 := (g * (u 1).toInt64 / 1000).toInt32
def k_net (u : Nat → Int32) (w f t : Nat) (a : Int32) : Int32 := (k_gross u w f t a).toInt32 - k_spread u (k_gross u w f t a)
def k_paid (u : Nat → Int32) (w c : Nat) : Nat → Int32
  | 0 => 0
  | i + 1 => k_paid u w c i + (if u (136 + 5 * i) = nI w ∧ u (136 + 5 * i + 1) = nI c then u (136 + 5 * i + 2) else 0)
theorem tp_l0 {x : Int32} (h : 0 < x) : ¬ x.toInt64 = 0 := fun q => by
  have e : x.toInt64.toInt = x.toInt := Int32.toInt_toInt64 x
  rw [q] at e
  rw [Int32.lt_iff_toInt_lt] at h
  have : (0 : Int64).toInt = 0 := rfl
  have : (0 : Int32).toInt = 0 := rfl
  omega
theorem kR_0 (u : Nat → Int32) : kR u 0 = 1000 := if_pos rfl
set_option maxRecDepth 100000 in
set_option maxHeartbeats 4000000 in
theorem K_isIn {l : Launch} {G : tp_G} {b : Nat} {h0 h : tp_H} {u : Nat → Int32} {π ρ : Nat → Nat} (hl : l.stackTraces = false) (hT0 : kb_S G b h0 u π ρ h) {w c j : Nat} (hw : w < 4) (hc : c < 4) (hj : j < 8) : tp_Met l G mX1_isIn 0 0 [.ref (b + 22 + π j), .ref (kp b w c)] h (tp_PR (.int (tp_b (u (96 + 5 * j) = nI w ∧ u (96 + 5 * j + 1) = nI c))) h) tp_NX := by
  have hT := hT0.self
  refine tp_start (L0 := [some (.ref (b + 22 + π j)), some (.ref (kp b w c))]) (by decide) rfl hl (Nat.le_of_ble_eq_true rfl) rfl ?_
  refine r_aload0 dX1_isIn_0 ?_
  refine r_getf dX1_isIn_1 f_X1_7 (hT.ho hj) rfl ?_
  refine r_aload1 dX1_isIn_4 ?_
  refine r_getf dX1_isIn_5 f_X1_13 (hT.pu hw hc) rfl ?_
  refine r_icmp_ne (tgt := 26) dX1_isIn_8 (by decide) (fun c8 => ?_) (fun c8 => ?_)
  · refine r_iconst (v := 0) dX1_isIn_26 (by decide) ?_
    exact r_zret dX1_isIn_27 rfl ⟨(Nat.le_of_ble_eq_true rfl), (Nat.le_of_ble_eq_true rfl)⟩ rfl ⟨by first | (rw [tp_b_t ⟨Classical.not_not.mp c8, Classical.not_not.mp c19⟩]; done) | (rw [tp_b_f (fun q => c8 q.1)]; done) | (rw [tp_b_f (fun q => c19 q.2)]; done) | (rw [tp_b_t ⟨c8, c19⟩]; done), rfl⟩
  · refine r_aload0 dX1_isIn_11 ?_
    refine r_getf dX1_isIn_12 f_X1_16 (hT.ho hj) rfl ?_
    refine r_aload1 dX1_isIn_15 ?_
    refine r_getf dX1_isIn_16 f_X1_19 (hT.pu hw hc) rfl ?_
    refine r_icmp_ne (tgt := 26) dX1_isIn_19 (by decide) (fun c19 => ?_) (fun c19 => ?_)
    · refine r_iconst (v := 0) dX1_isIn_26 (by decide) ?_
      exact r_zret dX1_isIn_27 rfl ⟨(Nat.le_of_ble_eq_true rfl), (Nat.le_of_ble_eq_true rfl)⟩ rfl ⟨by first | (rw [tp_b_t ⟨Classical.not_not.mp c8, Classical.not_not.mp c19⟩]; done) | (rw [tp_b_f (fun q => c8 q.1)]; done) | (rw [tp_b_f (fun q => c19 q.2)]; done) | (rw [tp_b_t ⟨c8, c19⟩]; done), rfl⟩
    · refine r_iconst (v := 1) dX1_isIn_22 (by decide) ?_
      refine r_goto (tgt := 27) dX1_isIn_23 (by decide) ?_
      exact r_zret dX1_isIn_27 rfl ⟨(Nat.le_of_ble_eq_true rfl), (Nat.le_of_ble_eq_true rfl)⟩ rfl ⟨by first | (rw [tp_b_t ⟨Classical.not_not.mp c8, Classical.not_not.mp c19⟩]; done) | (rw [tp_b_f (fun q => c8 q.1)]; done) | (rw [tp_b_f (fun q => c19 q.2)]; done) | (rw [tp_b_t ⟨c8, c19⟩]; done), rfl⟩

set_option maxRecDepth 100000 in
set_option maxHeartbeats 4000000 in
theorem K_isOutOf {l : Launch} {G : tp_G} {b : Nat} {h0 h : tp_H} {u : Nat → Int32} {π ρ : Nat → Nat} (hl : l.stackTraces = false) (hT0 : kb_S G b h0 u π ρ h) {w c j : Nat} (hw : w < 4) (hc : c < 4) (hj : j < 12) : tp_Met l G mX3_isOutOf 0 0 [.ref (b + 30 + j), .ref (kp b w c)] h (tp_PR (.int (tp_b (u (136 + 5 * j) = nI w ∧ u (136 + 5 * j + 1) = nI c))) h) tp_NX := by
  have hT := hT0.self
  refine tp_start (L0 := [some (.ref (b + 30 + j)), some (.ref (kp b w c))]) (by decide) rfl hl (Nat.le_of_ble_eq_true rfl) rfl ?_
  refine r_aload0 dX3_isOutOf_0 ?_
  refine r_getf dX3_isOutOf_1 f_X3_7 (hT.pa hj) rfl ?_
  refine r_aload1 dX3_isOutOf_4 ?_
  refine r_getf dX3_isOutOf_5 f_X3_13 (hT.pu hw hc) rfl ?_
  refine r_icmp_ne (tgt := 26) dX3_isOutOf_8 (by decide) (fun c8 => ?_) (fun c8 => ?_)
  · refine r_iconst (v := 0) dX3_isOutOf_26 (by decide) ?_
    exact r_zret dX3_isOutOf_27 rfl ⟨(Nat.le_of_ble_eq_true rfl), (Nat.le_of_ble_eq_true rfl)⟩ rfl ⟨by first | (rw [tp_b_t ⟨Classical.not_not.mp c8, Classical.not_not.mp c19⟩]; done) | (rw [tp_b_f (fun q => c8 q.1)]; done) | (rw [tp_b_f (fun q => c19 q.2)]; done) | (rw [tp_b_t ⟨c8, c19⟩]; done), rfl⟩
  · refine r_aload0 dX3_isOutOf_11 ?_
    refine r_getf dX3_isOutOf_12 f_X3_16 (hT.pa hj) rfl ?_
    refine r_aload1 dX3_isOutOf_15 ?_
    refine r_getf dX3_isOutOf_16 f_X3_19 (hT.pu hw hc) rfl ?_
    refine r_icmp_ne (tgt := 26) dX3_isOutOf_19 (by decide) (fun c19 => ?_) (fun c19 => ?_)
    · refine r_iconst (v := 0) dX3_isOutOf_26 (by decide) ?_
      exact r_zret dX3_isOutOf_27 rfl ⟨(Nat.le_of_ble_eq_true rfl), (Nat.le_of_ble_eq_true rfl)⟩ rfl ⟨by first | (rw [tp_b_t ⟨Classical.not_not.mp c8, Classical.not_not.mp c19⟩]; done) | (rw [tp_b_f (fun q => c8 q.1)]; done) | (rw [tp_b_f (fun q => c19 q.2)]; done) | (rw [tp_b_t ⟨c8, c19⟩]; done), rfl⟩
    · refine r_iconst (v := 1) dX3_isOutOf_22 (by decide) ?_
      refine r_goto (tgt := 27) dX3_isOutOf_23 (by decide) ?_
      exact r_zret dX3_isOutOf_27 rfl ⟨(Nat.le_of_ble_eq_true rfl), (Nat.le_of_ble_eq_true rfl)⟩ rfl ⟨by first | (rw [tp_b_t ⟨Classical.not_not.mp c8, Classical.not_not.mp c19⟩]; done) | (rw [tp_b_f (fun q => c8 q.1)]; done) | (rw [tp_b_f (fun q => c19 q.2)]; done) | (rw [tp_b_t ⟨c8, c19⟩]; done), rfl⟩

set_option maxRecDepth 100000 in
set_option maxHeartbeats 4000000 in
theorem K_keptIn_lp {l : Launch} {G : tp_G} {b : Nat} {h0 h : tp_H} {u : Nat → Int32} {π ρ : Nat → Nat} (hl : l.stackTraces = false) (hT0 : kb_S G b h0 u π ρ h) {w c N : Nat} (hw : w < 4) (hc : c < 4) (hu8 : u 8 = nI N) (hN : N ≤ 8) : ∀ d (i : Nat), i + d = N → tp_Run l G mX0_keptIn (tp_rm mX0_keptIn 0 0) (tp_QM G 0 0 (tp_PR (.int (z_kept u w c N)) h) tp_NX) 0 0 h 4 [some (.ref b), some (.ref (kp b w c)), some (.int (z_kept u w c i)), some (.int (nI i))] [] := by
  intro d
  have hT := hT0.self
  induction d with
  | zero =>
    intro i hi
    refine r_iload3 dX0_keptIn_4 ?_
    refine r_aload0 dX0_keptIn_5 ?_
    refine r_getf dX0_keptIn_6 f_X0_66 (hT.ob) rfl ?_
    refine r_icmp_ge (tgt := 43) dX0_keptIn_9 (by decide) (fun c9 => ?_) (fun c9 => ?_)
    · refine r_iload2 dX0_keptIn_43 ?_
      exact r_iret dX0_keptIn_44 rfl ⟨(Nat.le_of_ble_eq_true rfl), (Nat.le_of_ble_eq_true rfl)⟩ ⟨by rw [show i = N by omega], rfl⟩
    · rw [hu8, tp_le (by omega) (by omega)] at c9; omega
  | succ d ih =>
    intro i hi
    refine r_iload3 dX0_keptIn_4 ?_
    refine r_aload0 dX0_keptIn_5 ?_
    refine r_getf dX0_keptIn_6 f_X0_66 (hT.ob) rfl ?_
    refine r_icmp_ge (tgt := 43) dX0_keptIn_9 (by decide) (fun c9 => ?_) (fun c9 => ?_)
    · rw [hu8, tp_le (by omega) (by omega)] at c9; omega
    · refine r_aload0 dX0_keptIn_12 ?_
      refine r_getf dX0_keptIn_13 f_X0_37 (hT.ob) rfl ?_
      refine r_iload3 dX0_keptIn_16 ?_
      refine r_aald (t := 4) dX0_keptIn_17 (by decide) hT.hos (i := i) (rfl) (by omega) (by decide) (kFp_at (by omega)) ?_
      refine r_aload1 dX0_keptIn_18 ?_
      refine r_pV dX0_keptIn_19 v_X0_120 (K_isIn (j := i) hl hT hw hc (by omega)) rfl (hT.ho (j := i) (by omega)) rfl rfl rfl (Nat.le_of_ble_eq_true rfl) ⟨(Nat.le_of_ble_eq_true rfl), (Nat.le_of_ble_eq_true rfl)⟩ ⟨(Nat.le_of_ble_eq_true rfl), (Nat.le_of_ble_eq_true rfl)⟩ ?_
      refine r_if_eq (tgt := 37) dX0_keptIn_22 (by decide) (fun c22 => ?_) (fun c22 => ?_)
      · refine r_iinc3 (v := nI (i + 1)) dX0_keptIn_37 (Nat.le_of_ble_eq_true rfl) rfl (tp_inc i) ?_
        exact r_goto (tgt := 4) dX0_keptIn_40 (by decide) (tp_cong (by first | (simp only [z_kept, if_pos (tp_b_n c22)]; done) | (simp only [z_kept, if_neg (tp_b_0.mp c22), Int32.add_zero]; done)) rfl (ih (i + 1) (by omega)))
      · refine r_iload2 dX0_keptIn_25 ?_
        refine r_aload0 dX0_keptIn_26 ?_
        refine r_getf dX0_keptIn_27 f_X0_37 (hT.ob) rfl ?_
        refine r_iload3 dX0_keptIn_30 ?_
        refine r_aald (t := 4) dX0_keptIn_31 (by decide) hT.hos (i := i) (rfl) (by omega) (by decide) (kFp_at (by omega)) ?_
        refine r_getf dX0_keptIn_32 f_X0_124 (hT.ho (j := i) (by omega)) rfl ?_
        refine r_iadd dX0_keptIn_35 ?_
        refine r_istore2 dX0_keptIn_36 (Nat.le_of_ble_eq_true rfl) rfl ?_
        refine r_iinc3 (v := nI (i + 1)) dX0_keptIn_37 (Nat.le_of_ble_eq_true rfl) rfl (tp_inc i) ?_
        exact r_goto (tgt := 4) dX0_keptIn_40 (by decide) (tp_cong (by first | (simp only [z_kept, if_pos (tp_b_n c22)]; done) | (simp only [z_kept, if_neg (tp_b_0.mp c22), Int32.add_zero]; done)) rfl (ih (i + 1) (by omega)))

set_option maxRecDepth 100000 in
set_option maxHeartbeats 4000000 in
theorem K_keptIn {l : Launch} {G : tp_G} {b : Nat} {h0 h : tp_H} {u : Nat → Int32} {π ρ : Nat → Nat} (hl : l.stackTraces = false) (hT0 : kb_S G b h0 u π ρ h) {w c N : Nat} (hw : w < 4) (hc : c < 4) (hu8 : u 8 = nI N) (hN : N ≤ 8) : tp_Met l G mX0_keptIn 0 0 [.ref b, .ref (kp b w c)] h (tp_PR (.int (z_kept u w c N)) h) tp_NX := by
  have hT := hT0.self
  refine tp_start (L0 := [some (.ref b), some (.ref (kp b w c)), none, none]) (by decide) rfl hl (Nat.le_of_ble_eq_true rfl) rfl ?_
  refine r_iconst (v := 0) dX0_keptIn_0 (by decide) ?_
  refine r_istore2 dX0_keptIn_1 (Nat.le_of_ble_eq_true rfl) rfl ?_
  refine r_iconst (v := 0) dX0_keptIn_2 (by decide) ?_
  refine r_istore3 dX0_keptIn_3 (Nat.le_of_ble_eq_true rfl) rfl ?_
  exact K_keptIn_lp hl hT hw hc hu8 hN N 0 (by omega)

set_option maxRecDepth 100000 in
set_option maxHeartbeats 4000000 in
theorem K_freeOf {l : Launch} {G : tp_G} {b : Nat} {h0 h : tp_H} {u : Nat → Int32} {π ρ : Nat → Nat} (hl : l.stackTraces = false) (hT0 : kb_S G b h0 u π ρ h) {w c N : Nat} (hw : w < 4) (hc : c < 4) (hu8 : u 8 = nI N) (hN : N ≤ 8) : tp_Met l G mX0_freeOf 0 0 [.ref b, .ref (kp b w c)] h (tp_PR (.int (z_free u w c)) h) tp_NX := by
  have hT := hT0.self
  refine tp_start (L0 := [some (.ref b), some (.ref (kp b w c))]) (by decide) rfl hl (Nat.le_of_ble_eq_true rfl) rfl ?_
  refine r_aload1 dX0_freeOf_0 ?_
  refine r_getf dX0_freeOf_1 f_X0_105 (hT.pu hw hc) rfl ?_
  refine r_aload0 dX0_freeOf_4 ?_
  refine r_aload1 dX0_freeOf_5 ?_
  refine r_pV dX0_freeOf_6 v_X0_117 (K_keptIn hl hT hw hc hu8 hN) rfl (hT.ob) rfl rfl rfl (Nat.le_of_ble_eq_true rfl) ⟨(Nat.le_of_ble_eq_true rfl), (Nat.le_of_ble_eq_true rfl)⟩ ⟨(Nat.le_of_ble_eq_true rfl), (Nat.le_of_ble_eq_true rfl)⟩ ?_
  refine r_isub dX0_freeOf_9 ?_
  exact r_iret dX0_freeOf_10 rfl ⟨(Nat.le_of_ble_eq_true rfl), (Nat.le_of_ble_eq_true rfl)⟩ ⟨by unfold z_free; rw [hu8, z_nI (by omega)], rfl⟩

set_option maxRecDepth 100000 in
set_option maxHeartbeats 4000000 in
theorem K_isLocked {l : Launch} {G : tp_G} {b : Nat} {h0 h : tp_H} {u : Nat → Int32} {π ρ : Nat → Nat} (hl : l.stackTraces = false) (hT0 : kb_S G b h0 u π ρ h) {w c : Nat} (hw : w < 4) (hc : c < 4) : tp_Met l G mX0_isLocked 0 0 [.ref b, .ref (kp b w c)] h (tp_PR (.int (tp_b (u 4 ≤ u (z_at w c + 3)))) h) tp_NX := by
  have hT := hT0.self
  refine tp_start (L0 := [some (.ref b), some (.ref (kp b w c))]) (by decide) rfl hl (Nat.le_of_ble_eq_true rfl) rfl ?_
  refine r_aload1 dX0_isLocked_0 ?_
  refine r_getf dX0_isLocked_1 f_X0_127 (hT.pu hw hc) rfl ?_
  refine r_aload0 dX0_isLocked_4 ?_
  refine r_getf dX0_isLocked_5 f_X0_52 (hT.ob) rfl ?_
  refine r_icmp_lt (tgt := 15) dX0_isLocked_8 (by decide) (fun c8 => ?_) (fun c8 => ?_)
  · refine r_iconst (v := 0) dX0_isLocked_15 (by decide) ?_
    exact r_zret dX0_isLocked_16 rfl ⟨(Nat.le_of_ble_eq_true rfl), (Nat.le_of_ble_eq_true rfl)⟩ rfl ⟨by first | (rw [tp_b_t (Int32.not_lt.mp c8)]; done) | (rw [tp_b_f (Int32.not_le.mpr c8)]; done), rfl⟩
  · refine r_iconst (v := 1) dX0_isLocked_11 (by decide) ?_
    refine r_goto (tgt := 16) dX0_isLocked_12 (by decide) ?_
    exact r_zret dX0_isLocked_16 rfl ⟨(Nat.le_of_ble_eq_true rfl), (Nat.le_of_ble_eq_true rfl)⟩ rfl ⟨by first | (rw [tp_b_t (Int32.not_lt.mp c8)]; done) | (rw [tp_b_f (Int32.not_le.mpr c8)]; done), rfl⟩

set_option maxRecDepth 100000 in
set_option maxHeartbeats 4000000 in
theorem K_rateOf {l : Launch} {G : tp_G} {b : Nat} {h0 h : tp_H} {u : Nat → Int32} {π ρ : Nat → Nat} (hl : l.stackTraces = false) (hT0 : kb_S G b h0 u π ρ h) {w c : Nat} (hw : w < 4) (hc : c < 4) : tp_Met l G mX0_rateOf 0 0 [.ref b, .ref (kp b w c)] h (tp_PR (.int (k_rate u w c)) h) tp_NX := by
  have hT := hT0.self
  refine tp_start (L0 := [some (.ref b), some (.ref (kp b w c))]) (by decide) rfl hl (Nat.le_of_ble_eq_true rfl) rfl ?_
  refine r_aload0 dX0_rateOf_0 ?_
  refine r_aload1 dX0_rateOf_1 ?_
  refine r_pV dX0_rateOf_2 v_X0_130 (K_isLocked hl hT hw hc) rfl (hT.ob) rfl rfl rfl (Nat.le_of_ble_eq_true rfl) ⟨(Nat.le_of_ble_eq_true rfl), (Nat.le_of_ble_eq_true rfl)⟩ ⟨(Nat.le_of_ble_eq_true rfl), (Nat.le_of_ble_eq_true rfl)⟩ ?_
  refine r_if_eq (tgt := 15) dX0_rateOf_5 (by decide) (fun c5 => ?_) (fun c5 => ?_)
  · refine r_aload0 dX0_rateOf_15 ?_
    refine r_getf dX0_rateOf_16 f_X0_26 (hT.ob) rfl ?_
    refine r_aload1 dX0_rateOf_19 ?_
    refine r_getf dX0_rateOf_20 f_X0_136 (hT.pu hw hc) rfl ?_
    refine r_iald dX0_rateOf_23 hT.ra (i := c) rfl (by omega) (by decide) ?_
    exact r_iret dX0_rateOf_24 rfl ⟨(Nat.le_of_ble_eq_true rfl), (Nat.le_of_ble_eq_true rfl)⟩ ⟨by unfold k_rate; first | (rw [if_neg (tp_b_0.mp c5)]; done) | (rw [if_pos (tp_b_n c5)]; done), rfl⟩
  · refine r_aload1 dX0_rateOf_8 ?_
    refine r_getf dX0_rateOf_9 f_X0_133 (hT.pu hw hc) rfl ?_
    refine r_goto (tgt := 24) dX0_rateOf_12 (by decide) ?_
    exact r_iret dX0_rateOf_24 rfl ⟨(Nat.le_of_ble_eq_true rfl), (Nat.le_of_ble_eq_true rfl)⟩ ⟨by unfold k_rate; first | (rw [if_neg (tp_b_0.mp c5)]; done) | (rw [if_pos (tp_b_n c5)]; done), rfl⟩

set_option maxRecDepth 100000 in
set_option maxHeartbeats 4000000 in
theorem K_isPair {l : Launch} {G : tp_G} {b : Nat} {h0 h : tp_H} {u : Nat → Int32} {π ρ : Nat → Nat} (hl : l.stackTraces = false) (hT0 : kb_S G b h0 u π ρ h) {w f t : Nat} (hw : w < 4) (hf : f < 4) (ht : t < 4) : tp_Met l G mX0_isPair 0 0 [.ref b, .ref (kp b w f), .ref (kp b w t)] h (tp_PR (.int (tp_b (¬ (f = t ∨ (0 < f ∧ 0 < t))))) h) tp_NX := by
  have hT := hT0.self
  refine tp_start (L0 := [some (.ref b), some (.ref (kp b w f)), some (.ref (kp b w t))]) (by decide) rfl hl (Nat.le_of_ble_eq_true rfl) rfl ?_
  refine r_aload1 dX0_isPair_0 ?_
  refine r_getf dX0_isPair_1 f_X0_136 (hT.pu hw hf) rfl ?_
  refine r_aload2 dX0_isPair_4 ?_
  refine r_getf dX0_isPair_5 f_X0_136 (hT.pu hw ht) rfl ?_
  refine r_icmp_eq (tgt := 29) dX0_isPair_8 (by decide) (fun c8 => ?_) (fun c8 => ?_)
  · refine r_iconst (v := 0) dX0_isPair_29 (by decide) ?_
    exact r_zret dX0_isPair_30 rfl ⟨(Nat.le_of_ble_eq_true rfl), (Nat.le_of_ble_eq_true rfl)⟩ rfl ⟨by simp only [show (0 : Int32) = nI 0 from rfl, tp_eq (show f < 2 ^ 31 by omega) (show t < 2 ^ 31 by omega), tp_eq (show f < 2 ^ 31 by omega) (show 0 < 2 ^ 31 by omega), tp_eq (show t < 2 ^ 31 by omega) (show 0 < 2 ^ 31 by omega)] at *; first | (rw [tp_b_t (by omega)]; done) | (rw [tp_b_f (by omega)]; done) | (rw [tp_b_t (by omega)]; rfl) | (rw [tp_b_f (by omega)]; rfl), rfl⟩
  · refine r_aload1 dX0_isPair_11 ?_
    refine r_getf dX0_isPair_12 f_X0_136 (hT.pu hw hf) rfl ?_
    refine r_if_eq (tgt := 25) dX0_isPair_15 (by decide) (fun c15 => ?_) (fun c15 => ?_)
    · refine r_iconst (v := 1) dX0_isPair_25 (by decide) ?_
      refine r_goto (tgt := 30) dX0_isPair_26 (by decide) ?_
      exact r_zret dX0_isPair_30 rfl ⟨(Nat.le_of_ble_eq_true rfl), (Nat.le_of_ble_eq_true rfl)⟩ rfl ⟨by simp only [show (0 : Int32) = nI 0 from rfl, tp_eq (show f < 2 ^ 31 by omega) (show t < 2 ^ 31 by omega), tp_eq (show f < 2 ^ 31 by omega) (show 0 < 2 ^ 31 by omega), tp_eq (show t < 2 ^ 31 by omega) (show 0 < 2 ^ 31 by omega)] at *; first | (rw [tp_b_t (by omega)]; done) | (rw [tp_b_f (by omega)]; done) | (rw [tp_b_t (by omega)]; rfl) | (rw [tp_b_f (by omega)]; rfl), rfl⟩
    · refine r_aload2 dX0_isPair_18 ?_
      refine r_getf dX0_isPair_19 f_X0_136 (hT.pu hw ht) rfl ?_
      refine r_if_ne (tgt := 29) dX0_isPair_22 (by decide) (fun c22 => ?_) (fun c22 => ?_)
      · refine r_iconst (v := 0) dX0_isPair_29 (by decide) ?_
        exact r_zret dX0_isPair_30 rfl ⟨(Nat.le_of_ble_eq_true rfl), (Nat.le_of_ble_eq_true rfl)⟩ rfl ⟨by simp only [show (0 : Int32) = nI 0 from rfl, tp_eq (show f < 2 ^ 31 by omega) (show t < 2 ^ 31 by omega), tp_eq (show f < 2 ^ 31 by omega) (show 0 < 2 ^ 31 by omega), tp_eq (show t < 2 ^ 31 by omega) (show 0 < 2 ^ 31 by omega)] at *; first | (rw [tp_b_t (by omega)]; done) | (rw [tp_b_f (by omega)]; done) | (rw [tp_b_t (by omega)]; rfl) | (rw [tp_b_f (by omega)]; rfl), rfl⟩
      · refine r_iconst (v := 1) dX0_isPair_25 (by decide) ?_
        refine r_goto (tgt := 30) dX0_isPair_26 (by decide) ?_
        exact r_zret dX0_isPair_30 rfl ⟨(Nat.le_of_ble_eq_true rfl), (Nat.le_of_ble_eq_true rfl)⟩ rfl ⟨by simp only [show (0 : Int32) = nI 0 from rfl, tp_eq (show f < 2 ^ 31 by omega) (show t < 2 ^ 31 by omega), tp_eq (show f < 2 ^ 31 by omega) (show 0 < 2 ^ 31 by omega), tp_eq (show t < 2 ^ 31 by omega) (show 0 < 2 ^ 31 by omega)] at *; first | (rw [tp_b_t (by omega)]; done) | (rw [tp_b_f (by omega)]; done) | (rw [tp_b_t (by omega)]; rfl) | (rw [tp_b_f (by omega)]; rfl), rfl⟩

set_option maxRecDepth 100000 in
set_option maxHeartbeats 4000000 in
theorem K_grossOf {l : Launch} {G : tp_G} {b : Nat} {h0 h : tp_H} {u : Nat → Int32} {π ρ : Nat → Nat} (hl : l.stackTraces = false) (hT0 : kb_S G b h0 u π ρ h) {w f t : Nat} {a : Int32} (hw : w < 4) (hf : f < 4) (ht : t < 4) : tp_Met l G mX0_grossOf 0 0 [.ref b, .ref (kp b w f), .ref (kp b w t), .int a] h (tp_PR (.long (k_gross u w f t a)) h) tp_NX := by
  have hT := hT0.self
  refine tp_start (L0 := [some (.ref b), some (.ref (kp b w f)), some (.ref (kp b w t)), some (.int a), none]) (by decide) rfl hl (Nat.le_of_ble_eq_true rfl) rfl ?_
  refine r_aload2 dX0_grossOf_0 ?_
  refine r_getf dX0_grossOf_1 f_X0_136 (hT.pu hw ht) rfl ?_
  refine r_if_ne (tgt := 21) dX0_grossOf_4 (by decide) (fun c4 => ?_) (fun c4 => ?_)
  · refine r_aload0 dX0_grossOf_21 ?_
    refine r_aload2 dX0_grossOf_22 ?_
    refine r_pV dX0_grossOf_23 v_X0_139 (K_rateOf hl hT hw ht) rfl (hT.ob) rfl rfl rfl (Nat.le_of_ble_eq_true rfl) ⟨(Nat.le_of_ble_eq_true rfl), (Nat.le_of_ble_eq_true rfl)⟩ ⟨(Nat.le_of_ble_eq_true rfl), (Nat.le_of_ble_eq_true rfl)⟩ ?_
    refine r_istore4 dX0_grossOf_26 (Nat.le_of_ble_eq_true rfl) rfl ?_
    refine r_iload4 dX0_grossOf_28 ?_
    refine r_if_le (tgt := 46) dX0_grossOf_30 (by decide) (fun c30 => ?_) (fun c30 => ?_)
    · refine r_lconst (v := 0) dX0_grossOf_46 rfl ?_
      exact r_lret dX0_grossOf_47 rfl ⟨(Nat.le_of_ble_eq_true rfl), (Nat.le_of_ble_eq_true rfl)⟩ ⟨by unfold k_gross; simp only [show (0 : Int32) = nI 0 from rfl, tp_eq (show t < 2 ^ 31 by omega) (show 0 < 2 ^ 31 by omega)] at c4; first | (rw [if_pos c4]; done) | (rw [if_pos (Classical.not_not.mp c4)]; done) | (rw [if_neg c4, if_pos (Int32.not_le.mp c30)]; done) | (rw [if_neg c4, if_neg (Int32.not_lt.mpr c30)]; done), rfl⟩
    · refine r_iload3 dX0_grossOf_33 ?_
      refine r_i2l dX0_grossOf_34 ?_
      refine r_ldc2 dX0_grossOf_35 c_X0_142 ?_
      refine r_lmul dX0_grossOf_38 ?_
      refine r_iload4 dX0_grossOf_39 ?_
      refine r_i2l dX0_grossOf_41 ?_
      refine r_ldiv dX0_grossOf_42 (tp_l0 (Int32.not_le.mp c30)) ?_
      refine r_goto (tgt := 47) dX0_grossOf_43 (by decide) ?_
      exact r_lret dX0_grossOf_47 rfl ⟨(Nat.le_of_ble_eq_true rfl), (Nat.le_of_ble_eq_true rfl)⟩ ⟨by unfold k_gross; simp only [show (0 : Int32) = nI 0 from rfl, tp_eq (show t < 2 ^ 31 by omega) (show 0 < 2 ^ 31 by omega)] at c4; first | (rw [if_pos c4]; done) | (rw [if_pos (Classical.not_not.mp c4)]; done) | (rw [if_neg c4, if_pos (Int32.not_le.mp c30)]; done) | (rw [if_neg c4, if_neg (Int32.not_lt.mpr c30)]; done), rfl⟩
  · refine r_iload3 dX0_grossOf_7 ?_
    refine r_i2l dX0_grossOf_8 ?_
    refine r_aload0 dX0_grossOf_9 ?_
    refine r_aload1 dX0_grossOf_10 ?_
    refine r_pV dX0_grossOf_11 v_X0_139 (K_rateOf hl hT hw hf) rfl (hT.ob) rfl rfl rfl (Nat.le_of_ble_eq_true rfl) ⟨(Nat.le_of_ble_eq_true rfl), (Nat.le_of_ble_eq_true rfl)⟩ ⟨(Nat.le_of_ble_eq_true rfl), (Nat.le_of_ble_eq_true rfl)⟩ ?_
    refine r_i2l dX0_grossOf_14 ?_
    refine r_lmul dX0_grossOf_15 ?_
    refine r_ldc2 dX0_grossOf_16 c_X0_142 ?_
    refine r_ldiv dX0_grossOf_19 (by decide) ?_
    exact r_lret dX0_grossOf_20 rfl ⟨(Nat.le_of_ble_eq_true rfl), (Nat.le_of_ble_eq_true rfl)⟩ ⟨by unfold k_gross; simp only [show (0 : Int32) = nI 0 from rfl, tp_eq (show t < 2 ^ 31 by omega) (show 0 < 2 ^ 31 by omega)] at c4; first | (rw [if_pos c4]; done) | (rw [if_pos (Classical.not_not.mp c4)]; done) | (rw [if_neg c4, if_pos (Int32.not_le.mp c30)]; done) | (rw [if_neg c4, if_neg (Int32.not_lt.mpr c30)]; done), rfl⟩

set_option maxRecDepth 100000 in
set_option maxHeartbeats 4000000 in
theorem K_spreadOf {l : Launch} {G : tp_G} {b : Nat} {h0 h : tp_H} {u : Nat → Int32} {π ρ : Nat → Nat} (hl : l.stackTraces = false) (hT0 : kb_S G b h0 u π ρ h) {g : Int64} : tp_Met l G mX0_spreadOf 0 0 [.ref b, .long g] h (tp_PR (.int (k_spread u g)) h) tp_NX := by
  have hT := hT0.self
  refine tp_start (L0 := [some (.ref b), some (.long g), none]) (by decide) rfl hl (Nat.le_of_ble_eq_true rfl) rfl ?_
  refine r_lload1 dX0_spreadOf_0 ?_
  refine r_aload0 dX0_spreadOf_1 ?_
  refine r_getf dX0_spreadOf_2 f_X0_18 (hT.ob) rfl ?_
  refine r_iconst (v := 1) dX0_spreadOf_5 (by decide) ?_
  refine r_iald dX0_spreadOf_6 hT.se (i := 1) rfl (by omega) (by decide) ?_
  refine r_i2l dX0_spreadOf_7 ?_
  refine r_lmul dX0_spreadOf_8 ?_
  refine r_ldc2 dX0_spreadOf_9 c_X0_142 ?_
  refine r_ldiv dX0_spreadOf_12 (by decide) ?_
  refine r_l2i dX0_spreadOf_13 ?_
  exact r_iret dX0_spreadOf_14 rfl ⟨(Nat.le_of_ble_eq_true rfl), (Nat.le_of_ble_eq_true rfl)⟩ ⟨rfl, rfl⟩

set_option maxRecDepth 100000 in
set_option maxHeartbeats 4000000 in
theorem K_netOf {l : Launch} {G : tp_G} {b : Nat} {h0 h : tp_H} {u : Nat → Int32} {π ρ : Nat → Nat} (hl : l.stackTraces = false) (hT0 : kb_S G b h0 u π ρ h) {w f t : Nat} {a : Int32} (hw : w < 4) (hf : f < 4) (ht : t < 4) : tp_Met l G mX0_netOf 0 0 [.ref b, .ref (kp b w f), .ref (kp b w t), .int a] h (tp_PR (.int (k_net u w f t a)) h) tp_NX := by
  have hT := hT0.self
  refine tp_start (L0 := [some (.ref b), some (.ref (kp b w f)), some (.ref (kp b w t)), some (.int a), none, none]) (by decide) rfl hl (Nat.le_of_ble_eq_true rfl) rfl ?_
  refine r_aload0 dX0_netOf_0 ?_
  refine r_aload1 dX0_netOf_1 ?_
  refine r_aload2 dX0_netOf_2 ?_
  refine r_iload3 dX0_netOf_3 ?_
  refine r_pV dX0_netOf_4 v_X0_144 (K_grossOf hl hT hw hf ht) rfl (hT.ob) rfl rfl rfl (Nat.le_of_ble_eq_true rfl) ⟨(Nat.le_of_ble_eq_true rfl), (Nat.le_of_ble_eq_true rfl)⟩ ⟨(Nat.le_of_ble_eq_true rfl), (Nat.le_of_ble_eq_true rfl)⟩ ?_
  refine r_lstore4 dX0_netOf_7 (Nat.le_of_ble_eq_true rfl) rfl ?_
  refine r_lload4 dX0_netOf_9 ?_
  refine r_l2i dX0_netOf_11 ?_
  refine r_aload0 dX0_netOf_12 ?_
  refine r_lload4 dX0_netOf_13 ?_
  refine r_pV dX0_netOf_15 v_X0_148 (K_spreadOf hl hT) rfl (hT.ob) rfl rfl rfl (Nat.le_of_ble_eq_true rfl) ⟨(Nat.le_of_ble_eq_true rfl), (Nat.le_of_ble_eq_true rfl)⟩ ⟨(Nat.le_of_ble_eq_true rfl), (Nat.le_of_ble_eq_true rfl)⟩ ?_
  refine r_isub dX0_netOf_18 ?_
  exact r_iret dX0_netOf_19 rfl ⟨(Nat.le_of_ble_eq_true rfl), (Nat.le_of_ble_eq_true rfl)⟩ ⟨rfl, rfl⟩

set_option maxRecDepth 100000 in
set_option maxHeartbeats 4000000 in
theorem K_withTip {l : Launch} {G : tp_G} {b : Nat} {h0 h : tp_H} {u : Nat → Int32} {π ρ : Nat → Nat} (hl : l.stackTraces = false) (hT0 : kb_S G b h0 u π ρ h) {a : Int32} : tp_Met l G mX0_withTip 0 0 [.ref b, .int a] h (tp_PR (.int (z_tip u a)) h) tp_NX := by
  have hT := hT0.self
  refine tp_start (L0 := [some (.ref b), some (.int a)]) (by decide) rfl hl (Nat.le_of_ble_eq_true rfl) rfl ?_
  refine r_iload1 dX0_withTip_0 ?_
  refine r_iload1 dX0_withTip_1 ?_
  refine r_aload0 dX0_withTip_2 ?_
  refine r_getf dX0_withTip_3 f_X0_18 (hT.ob) rfl ?_
  refine r_iconst (v := 2) dX0_withTip_6 (by decide) ?_
  refine r_iald dX0_withTip_7 hT.se (i := 2) rfl (by omega) (by decide) ?_
  refine r_imul dX0_withTip_8 ?_
  refine r_bipush (v := 100) dX0_withTip_9 (by decide) ?_
  refine r_idiv dX0_withTip_11 (by decide) ?_
  refine r_iadd dX0_withTip_12 ?_
  exact r_iret dX0_withTip_13 rfl ⟨(Nat.le_of_ble_eq_true rfl), (Nat.le_of_ble_eq_true rfl)⟩ ⟨rfl, rfl⟩

set_option maxRecDepth 100000 in
set_option maxHeartbeats 4000000 in
theorem K_mayLoad {l : Launch} {G : tp_G} {b : Nat} {h0 h : tp_H} {u : Nat → Int32} {π ρ : Nat → Nat} (hl : l.stackTraces = false) (hT0 : kb_S G b h0 u π ρ h) {w c : Nat} {a : Int32} (hw : w < 4) (hc : c < 4) : tp_Met l G mX0_mayLoad 0 0 [.ref b, .ref (kp b w c), .int a] h (tp_PR (.int (tp_b (u (z_at w c) ≤ 1000000 - a))) h) tp_NX := by
  have hT := hT0.self
  refine tp_start (L0 := [some (.ref b), some (.ref (kp b w c)), some (.int a)]) (by decide) rfl hl (Nat.le_of_ble_eq_true rfl) rfl ?_
  refine r_aload1 dX0_mayLoad_0 ?_
  refine r_getf dX0_mayLoad_1 f_X0_105 (hT.pu hw hc) rfl ?_
  refine r_ldc dX0_mayLoad_4 c_X0_112 ?_
  refine r_iload2 dX0_mayLoad_6 ?_
  refine r_isub dX0_mayLoad_7 ?_
  refine r_icmp_gt (tgt := 15) dX0_mayLoad_8 (by decide) (fun c8 => ?_) (fun c8 => ?_)
  · refine r_iconst (v := 0) dX0_mayLoad_15 (by decide) ?_
    exact r_zret dX0_mayLoad_16 rfl ⟨(Nat.le_of_ble_eq_true rfl), (Nat.le_of_ble_eq_true rfl)⟩ rfl ⟨by first | (rw [tp_b_t (Int32.not_lt.mp c8)]; done) | (rw [tp_b_f (Int32.not_le.mpr c8)]; done), rfl⟩
  · refine r_iconst (v := 1) dX0_mayLoad_11 (by decide) ?_
    refine r_goto (tgt := 16) dX0_mayLoad_12 (by decide) ?_
    exact r_zret dX0_mayLoad_16 rfl ⟨(Nat.le_of_ble_eq_true rfl), (Nat.le_of_ble_eq_true rfl)⟩ rfl ⟨by first | (rw [tp_b_t (Int32.not_lt.mp c8)]; done) | (rw [tp_b_f (Int32.not_le.mpr c8)]; done), rfl⟩

set_option maxRecDepth 100000 in
set_option maxHeartbeats 4000000 in
theorem K_exchangeReason {l : Launch} {G : tp_G} {b : Nat} {h0 h : tp_H} {u : Nat → Int32} {π ρ : Nat → Nat} (hl : l.stackTraces = false) (hT0 : kb_S G b h0 u π ρ h) {w f t N : Nat} {a : Int32} (hw : w < 4) (hf : f < 4) (ht : t < 4) (hu8 : u 8 = nI N) (hN : N ≤ 8) : tp_Met l G mX0_exchangeReason 0 0 [.ref b, .ref (kp b w f), .ref (kp b w t), .int a] h (tp_PR (.int (z_whyEx u w f t a)) h) tp_NX := by
  have hT := hT0.self
  refine tp_start (L0 := [some (.ref b), some (.ref (kp b w f)), some (.ref (kp b w t)), some (.int a)]) (by decide) rfl hl (Nat.le_of_ble_eq_true rfl) rfl ?_
  refine r_aload0 dX0_exchangeReason_0 ?_
  refine r_aload1 dX0_exchangeReason_1 ?_
  refine r_aload2 dX0_exchangeReason_2 ?_
  refine r_pV dX0_exchangeReason_3 v_X0_152 (K_isPair hl hT hw hf ht) rfl (hT.ob) rfl rfl rfl (Nat.le_of_ble_eq_true rfl) ⟨(Nat.le_of_ble_eq_true rfl), (Nat.le_of_ble_eq_true rfl)⟩ ⟨(Nat.le_of_ble_eq_true rfl), (Nat.le_of_ble_eq_true rfl)⟩ ?_
  refine r_if_ne (tgt := 11) dX0_exchangeReason_6 (by decide) (fun c6 => ?_) (fun c6 => ?_)
  · refine r_aload0 dX0_exchangeReason_11 ?_
    refine r_aload1 dX0_exchangeReason_12 ?_
    refine r_pV dX0_exchangeReason_13 v_X0_108 (K_freeOf hl hT hw hf hu8 hN) rfl (hT.ob) rfl rfl rfl (Nat.le_of_ble_eq_true rfl) ⟨(Nat.le_of_ble_eq_true rfl), (Nat.le_of_ble_eq_true rfl)⟩ ⟨(Nat.le_of_ble_eq_true rfl), (Nat.le_of_ble_eq_true rfl)⟩ ?_
    refine r_iload3 dX0_exchangeReason_16 ?_
    refine r_icmp_ge (tgt := 24) dX0_exchangeReason_17 (by decide) (fun c17 => ?_) (fun c17 => ?_)
    · refine r_iconst (v := 0) dX0_exchangeReason_24 (by decide) ?_
      exact r_iret dX0_exchangeReason_25 rfl ⟨(Nat.le_of_ble_eq_true rfl), (Nat.le_of_ble_eq_true rfl)⟩ ⟨by unfold z_whyEx; first | (rw [if_pos (Classical.not_not.mp (tp_b_0.mp c6))]; done) | (rw [if_pos (Classical.not_not.mp (tp_b_0.mp (Classical.not_not.mp c6)))]; done) | (rw [if_neg (tp_b_n c6), if_neg (Int32.not_lt.mpr c17)]; done) | (rw [if_neg (tp_b_n c6), if_pos (Int32.not_le.mp c17)]; done), rfl⟩
    · refine r_iconst (v := 2) dX0_exchangeReason_20 (by decide) ?_
      refine r_goto (tgt := 25) dX0_exchangeReason_21 (by decide) ?_
      exact r_iret dX0_exchangeReason_25 rfl ⟨(Nat.le_of_ble_eq_true rfl), (Nat.le_of_ble_eq_true rfl)⟩ ⟨by unfold z_whyEx; first | (rw [if_pos (Classical.not_not.mp (tp_b_0.mp c6))]; done) | (rw [if_pos (Classical.not_not.mp (tp_b_0.mp (Classical.not_not.mp c6)))]; done) | (rw [if_neg (tp_b_n c6), if_neg (Int32.not_lt.mpr c17)]; done) | (rw [if_neg (tp_b_n c6), if_pos (Int32.not_le.mp c17)]; done), rfl⟩
  · refine r_iconst (v := 1) dX0_exchangeReason_9 (by decide) ?_
    exact r_iret dX0_exchangeReason_10 rfl ⟨(Nat.le_of_ble_eq_true rfl), (Nat.le_of_ble_eq_true rfl)⟩ ⟨by unfold z_whyEx; first | (rw [if_pos (Classical.not_not.mp (tp_b_0.mp c6))]; done) | (rw [if_pos (Classical.not_not.mp (tp_b_0.mp (Classical.not_not.mp c6)))]; done) | (rw [if_neg (tp_b_n c6), if_neg (Int32.not_lt.mpr c17)]; done) | (rw [if_neg (tp_b_n c6), if_pos (Int32.not_le.mp c17)]; done), rfl⟩

set_option maxRecDepth 100000 in
set_option maxHeartbeats 4000000 in
theorem K_holdReason {l : Launch} {G : tp_G} {b : Nat} {h0 h : tp_H} {u : Nat → Int32} {π ρ : Nat → Nat} (hl : l.stackTraces = false) (hT0 : kb_S G b h0 u π ρ h) {w c N : Nat} {a : Int32} (hw : w < 4) (hc : c < 4) (hu8 : u 8 = nI N) (hN : N ≤ 8) : tp_Met l G mX0_holdReason 0 0 [.ref b, .ref (kp b w c), .int a] h (tp_PR (.int (z_whyHold u w c a)) h) tp_NX := by
  have hT := hT0.self
  have e8 : (u 8 = 8) ↔ N = 8 := by rw [hu8, show (8 : Int32) = nI 8 from rfl, tp_eq (by omega) (by omega)]
  refine tp_start (L0 := [some (.ref b), some (.ref (kp b w c)), some (.int a)]) (by decide) rfl hl (Nat.le_of_ble_eq_true rfl) rfl ?_
  refine r_aload0 dX0_holdReason_0 ?_
  refine r_aload1 dX0_holdReason_1 ?_
  refine r_pV dX0_holdReason_2 v_X0_108 (K_freeOf hl hT hw hc hu8 hN) rfl (hT.ob) rfl rfl rfl (Nat.le_of_ble_eq_true rfl) ⟨(Nat.le_of_ble_eq_true rfl), (Nat.le_of_ble_eq_true rfl)⟩ ⟨(Nat.le_of_ble_eq_true rfl), (Nat.le_of_ble_eq_true rfl)⟩ ?_
  refine r_aload0 dX0_holdReason_5 ?_
  refine r_iload2 dX0_holdReason_6 ?_
  refine r_pV dX0_holdReason_7 v_X0_156 (K_withTip hl hT) rfl (hT.ob) rfl rfl rfl (Nat.le_of_ble_eq_true rfl) ⟨(Nat.le_of_ble_eq_true rfl), (Nat.le_of_ble_eq_true rfl)⟩ ⟨(Nat.le_of_ble_eq_true rfl), (Nat.le_of_ble_eq_true rfl)⟩ ?_
  refine r_icmp_ge (tgt := 15) dX0_holdReason_10 (by decide) (fun c10 => ?_) (fun c10 => ?_)
  · refine r_aload0 dX0_holdReason_15 ?_
    refine r_getf dX0_holdReason_16 f_X0_66 (hT.ob) rfl ?_
    refine r_bipush (v := 8) dX0_holdReason_19 (by decide) ?_
    refine r_icmp_lt (tgt := 28) dX0_holdReason_21 (by decide) (fun c21 => ?_) (fun c21 => ?_)
    · refine r_iconst (v := 0) dX0_holdReason_28 (by decide) ?_
      exact r_iret dX0_holdReason_29 rfl ⟨(Nat.le_of_ble_eq_true rfl), (Nat.le_of_ble_eq_true rfl)⟩ ⟨by unfold z_whyHold; first | (rw [if_pos (Int32.not_le.mp c10)]; done) | (rw [if_neg (Int32.not_lt.mpr c10)]; rw [hu8, show (8 : Int32) = nI 8 from rfl, tp_lt (by omega) (by omega)] at c21; first | (rw [if_neg (fun q => absurd (e8.mp q) (by omega))]; done) | (rw [if_pos (e8.mpr (by omega))]; done)), rfl⟩
    · refine r_iconst (v := 3) dX0_holdReason_24 (by decide) ?_
      refine r_goto (tgt := 29) dX0_holdReason_25 (by decide) ?_
      exact r_iret dX0_holdReason_29 rfl ⟨(Nat.le_of_ble_eq_true rfl), (Nat.le_of_ble_eq_true rfl)⟩ ⟨by unfold z_whyHold; first | (rw [if_pos (Int32.not_le.mp c10)]; done) | (rw [if_neg (Int32.not_lt.mpr c10)]; rw [hu8, show (8 : Int32) = nI 8 from rfl, tp_lt (by omega) (by omega)] at c21; first | (rw [if_neg (fun q => absurd (e8.mp q) (by omega))]; done) | (rw [if_pos (e8.mpr (by omega))]; done)), rfl⟩
  · refine r_iconst (v := 2) dX0_holdReason_13 (by decide) ?_
    exact r_iret dX0_holdReason_14 rfl ⟨(Nat.le_of_ble_eq_true rfl), (Nat.le_of_ble_eq_true rfl)⟩ ⟨by unfold z_whyHold; first | (rw [if_pos (Int32.not_le.mp c10)]; done) | (rw [if_neg (Int32.not_lt.mpr c10)]; rw [hu8, show (8 : Int32) = nI 8 from rfl, tp_lt (by omega) (by omega)] at c21; first | (rw [if_neg (fun q => absurd (e8.mp q) (by omega))]; done) | (rw [if_pos (e8.mpr (by omega))]; done)), rfl⟩

set_option maxRecDepth 100000 in
set_option maxHeartbeats 4000000 in
theorem K_mayDispute {l : Launch} {G : tp_G} {b : Nat} {h0 h : tp_H} {u : Nat → Int32} {π ρ : Nat → Nat} (hl : l.stackTraces = false) (hT0 : kb_S G b h0 u π ρ h) {j : Nat} (hj : j < 12) : tp_Met l G mX0_mayDispute 0 0 [.ref b, .ref (b + 30 + j)] h (tp_PR (.int (tp_b (u (136 + 5 * j + 4) = 0 ∧ u 4 - u (136 + 5 * j + 3) ≤ 30))) h) tp_NX := by
  have hT := hT0.self
  refine tp_start (L0 := [some (.ref b), some (.ref (b + 30 + j))]) (by decide) rfl hl (Nat.le_of_ble_eq_true rfl) rfl ?_
  refine r_aload1 dX0_mayDispute_0 ?_
  refine r_getf dX0_mayDispute_1 f_X0_164 (hT.pa hj) rfl ?_
  refine r_if_ne (tgt := 25) dX0_mayDispute_4 (by decide) (fun c4 => ?_) (fun c4 => ?_)
  · refine r_iconst (v := 0) dX0_mayDispute_25 (by decide) ?_
    exact r_zret dX0_mayDispute_26 rfl ⟨(Nat.le_of_ble_eq_true rfl), (Nat.le_of_ble_eq_true rfl)⟩ rfl ⟨by first | (rw [tp_b_t ⟨Classical.not_not.mp c4, Int32.not_lt.mp c18⟩]; done) | (rw [tp_b_t ⟨c4, Int32.not_lt.mp c18⟩]; done) | (rw [tp_b_f (fun q => c4 q.1)]; done) | (rw [tp_b_f (fun q => Int32.not_le.mpr c18 q.2)]; done), rfl⟩
  · refine r_aload0 dX0_mayDispute_7 ?_
    refine r_getf dX0_mayDispute_8 f_X0_52 (hT.ob) rfl ?_
    refine r_aload1 dX0_mayDispute_11 ?_
    refine r_getf dX0_mayDispute_12 f_X0_179 (hT.pa hj) rfl ?_
    refine r_isub dX0_mayDispute_15 ?_
    refine r_bipush (v := 30) dX0_mayDispute_16 (by decide) ?_
    refine r_icmp_gt (tgt := 25) dX0_mayDispute_18 (by decide) (fun c18 => ?_) (fun c18 => ?_)
    · refine r_iconst (v := 0) dX0_mayDispute_25 (by decide) ?_
      exact r_zret dX0_mayDispute_26 rfl ⟨(Nat.le_of_ble_eq_true rfl), (Nat.le_of_ble_eq_true rfl)⟩ rfl ⟨by first | (rw [tp_b_t ⟨Classical.not_not.mp c4, Int32.not_lt.mp c18⟩]; done) | (rw [tp_b_t ⟨c4, Int32.not_lt.mp c18⟩]; done) | (rw [tp_b_f (fun q => c4 q.1)]; done) | (rw [tp_b_f (fun q => Int32.not_le.mpr c18 q.2)]; done), rfl⟩
    · refine r_iconst (v := 1) dX0_mayDispute_21 (by decide) ?_
      refine r_goto (tgt := 26) dX0_mayDispute_22 (by decide) ?_
      exact r_zret dX0_mayDispute_26 rfl ⟨(Nat.le_of_ble_eq_true rfl), (Nat.le_of_ble_eq_true rfl)⟩ rfl ⟨by first | (rw [tp_b_t ⟨Classical.not_not.mp c4, Int32.not_lt.mp c18⟩]; done) | (rw [tp_b_t ⟨c4, Int32.not_lt.mp c18⟩]; done) | (rw [tp_b_f (fun q => c4 q.1)]; done) | (rw [tp_b_f (fun q => Int32.not_le.mpr c18 q.2)]; done), rfl⟩

set_option maxRecDepth 100000 in
set_option maxHeartbeats 4000000 in
theorem K_disputedPayments_lp {l : Launch} {G : tp_G} {b : Nat} {h0 h : tp_H} {u : Nat → Int32} {π ρ : Nat → Nat} (hl : l.stackTraces = false) (hT0 : kb_S G b h0 u π ρ h) {P : Nat} (hu9 : u 9 = nI P) (hP9 : P ≤ 12) : ∀ d (i : Nat), i + d = P → tp_Run l G mX0_disputedPayments (tp_rm mX0_disputedPayments 0 0) (tp_QM G 0 0 (tp_PR (.int (z_disputed u P)) h) tp_NX) 0 0 h 4 [some (.ref b), some (.int (z_disputed u i)), some (.int (nI i))] [] := by
  intro d
  have hT := hT0.self
  induction d with
  | zero =>
    intro i hi
    refine r_iload2 dX0_disputedPayments_4 ?_
    refine r_aload0 dX0_disputedPayments_5 ?_
    refine r_getf dX0_disputedPayments_6 f_X0_72 (hT.ob) rfl ?_
    refine r_icmp_ge (tgt := 34) dX0_disputedPayments_9 (by decide) (fun c9 => ?_) (fun c9 => ?_)
    · refine r_iload1 dX0_disputedPayments_34 ?_
      exact r_iret dX0_disputedPayments_35 rfl ⟨(Nat.le_of_ble_eq_true rfl), (Nat.le_of_ble_eq_true rfl)⟩ ⟨by rw [show i = P by omega], rfl⟩
    · rw [hu9, tp_le (by omega) (by omega)] at c9; omega
  | succ d ih =>
    intro i hi
    refine r_iload2 dX0_disputedPayments_4 ?_
    refine r_aload0 dX0_disputedPayments_5 ?_
    refine r_getf dX0_disputedPayments_6 f_X0_72 (hT.ob) rfl ?_
    refine r_icmp_ge (tgt := 34) dX0_disputedPayments_9 (by decide) (fun c9 => ?_) (fun c9 => ?_)
    · rw [hu9, tp_le (by omega) (by omega)] at c9; omega
    · refine r_aload0 dX0_disputedPayments_12 ?_
      refine r_getf dX0_disputedPayments_13 f_X0_43 (hT.ob) rfl ?_
      refine r_iload2 dX0_disputedPayments_16 ?_
      refine r_aald (t := 5) dX0_disputedPayments_17 (by decide) hT.pas (i := i) (rfl) (by omega) (by decide) (kF_at (by omega)) ?_
      refine r_getf dX0_disputedPayments_18 f_X0_164 (hT.pa (j := i) (by omega)) rfl ?_
      refine r_iconst (v := 1) dX0_disputedPayments_21 (by decide) ?_
      refine r_icmp_ne (tgt := 28) dX0_disputedPayments_22 (by decide) (fun c22 => ?_) (fun c22 => ?_)
      · refine r_iinc2 (v := nI (i + 1)) dX0_disputedPayments_28 (Nat.le_of_ble_eq_true rfl) rfl (tp_inc i) ?_
        exact r_goto (tgt := 4) dX0_disputedPayments_31 (by decide) (tp_cong (by first | (simp only [z_disputed, if_pos c22]; done) | (simp only [z_disputed, if_pos (Classical.not_not.mp c22)]; done) | (simp only [z_disputed, if_neg c22, Int32.add_zero]; done)) rfl (ih (i + 1) (by omega)))
      · refine r_iinc1 (v := z_disputed u i + 1) dX0_disputedPayments_25 (Nat.le_of_ble_eq_true rfl) rfl rfl ?_
        refine r_iinc2 (v := nI (i + 1)) dX0_disputedPayments_28 (Nat.le_of_ble_eq_true rfl) rfl (tp_inc i) ?_
        exact r_goto (tgt := 4) dX0_disputedPayments_31 (by decide) (tp_cong (by first | (simp only [z_disputed, if_pos c22]; done) | (simp only [z_disputed, if_pos (Classical.not_not.mp c22)]; done) | (simp only [z_disputed, if_neg c22, Int32.add_zero]; done)) rfl (ih (i + 1) (by omega)))

set_option maxRecDepth 100000 in
set_option maxHeartbeats 4000000 in
theorem K_disputedPayments {l : Launch} {G : tp_G} {b : Nat} {h0 h : tp_H} {u : Nat → Int32} {π ρ : Nat → Nat} (hl : l.stackTraces = false) (hT0 : kb_S G b h0 u π ρ h) {P : Nat} (hu9 : u 9 = nI P) (hP9 : P ≤ 12) : tp_Met l G mX0_disputedPayments 0 0 [.ref b] h (tp_PR (.int (z_disputed u P)) h) tp_NX := by
  have hT := hT0.self
  refine tp_start (L0 := [some (.ref b), none, none]) (by decide) rfl hl (Nat.le_of_ble_eq_true rfl) rfl ?_
  refine r_iconst (v := 0) dX0_disputedPayments_0 (by decide) ?_
  refine r_istore1 dX0_disputedPayments_1 (Nat.le_of_ble_eq_true rfl) rfl ?_
  refine r_iconst (v := 0) dX0_disputedPayments_2 (by decide) ?_
  refine r_istore2 dX0_disputedPayments_3 (Nat.le_of_ble_eq_true rfl) rfl ?_
  exact K_disputedPayments_lp hl hT hu9 hP9 P 0 (by omega)

set_option maxRecDepth 100000 in
set_option maxHeartbeats 4000000 in
theorem K_creditIn_lp {l : Launch} {G : tp_G} {b : Nat} {h0 h : tp_H} {u : Nat → Int32} {π ρ : Nat → Nat} (hl : l.stackTraces = false) (hT0 : kb_S G b h0 u π ρ h) {w c P : Nat} (hw : w < 4) (hc : c < 4) (hu9 : u 9 = nI P) (hP9 : P ≤ 12) : ∀ d (i : Nat), i + d = P → tp_Run l G mX0_creditIn (tp_rm mX0_creditIn 0 0) (tp_QM G 0 0 (tp_PR (.int (z_credit u w c P)) h) tp_NX) 0 0 h 4 [some (.ref b), some (.ref (kp b w c)), some (.int (z_credit u w c i)), some (.int (nI i))] [] := by
  intro d
  have hT := hT0.self
  induction d with
  | zero =>
    intro i hi
    refine r_iload3 dX0_creditIn_4 ?_
    refine r_aload0 dX0_creditIn_5 ?_
    refine r_getf dX0_creditIn_6 f_X0_72 (hT.ob) rfl ?_
    refine r_icmp_ge (tgt := 56) dX0_creditIn_9 (by decide) (fun c9 => ?_) (fun c9 => ?_)
    · refine r_iload2 dX0_creditIn_56 ?_
      exact r_iret dX0_creditIn_57 rfl ⟨(Nat.le_of_ble_eq_true rfl), (Nat.le_of_ble_eq_true rfl)⟩ ⟨by rw [show i = P by omega], rfl⟩
    · rw [hu9, tp_le (by omega) (by omega)] at c9; omega
  | succ d ih =>
    intro i hi
    refine r_iload3 dX0_creditIn_4 ?_
    refine r_aload0 dX0_creditIn_5 ?_
    refine r_getf dX0_creditIn_6 f_X0_72 (hT.ob) rfl ?_
    refine r_icmp_ge (tgt := 56) dX0_creditIn_9 (by decide) (fun c9 => ?_) (fun c9 => ?_)
    · rw [hu9, tp_le (by omega) (by omega)] at c9; omega
    · refine r_aload0 dX0_creditIn_12 ?_
      refine r_getf dX0_creditIn_13 f_X0_43 (hT.ob) rfl ?_
      refine r_iload3 dX0_creditIn_16 ?_
      refine r_aald (t := 5) dX0_creditIn_17 (by decide) hT.pas (i := i) (rfl) (by omega) (by decide) (kF_at (by omega)) ?_
      refine r_aload1 dX0_creditIn_18 ?_
      refine r_pV dX0_creditIn_19 v_X0_180 (K_isOutOf (j := i) hl hT hw hc (by omega)) rfl (hT.pa (j := i) (by omega)) rfl rfl rfl (Nat.le_of_ble_eq_true rfl) ⟨(Nat.le_of_ble_eq_true rfl), (Nat.le_of_ble_eq_true rfl)⟩ ⟨(Nat.le_of_ble_eq_true rfl), (Nat.le_of_ble_eq_true rfl)⟩ ?_
      refine r_if_eq (tgt := 50) dX0_creditIn_22 (by decide) (fun c22 => ?_) (fun c22 => ?_)
      · refine r_iinc3 (v := nI (i + 1)) dX0_creditIn_50 (Nat.le_of_ble_eq_true rfl) rfl (tp_inc i) ?_
        exact r_goto (tgt := 4) dX0_creditIn_53 (by decide) (tp_cong (by first | (simp only [z_credit, if_pos (And.intro (tp_b_n c22) c35)]; done) | (simp only [z_credit, if_pos (And.intro (tp_b_n c22) (Classical.not_not.mp c35))]; done) | (simp only [z_credit, if_neg (fun q : (u (136 + 5 * i) = nI w ∧ u (136 + 5 * i + 1) = nI c) ∧ u (136 + 5 * i + 4) = 1 => tp_b_0.mp c22 q.1), Int32.add_zero]; done) | (simp only [z_credit, if_neg (fun q : (u (136 + 5 * i) = nI w ∧ u (136 + 5 * i + 1) = nI c) ∧ u (136 + 5 * i + 4) = 1 => c35 q.2), Int32.add_zero]; done)) rfl (ih (i + 1) (by omega)))
      · refine r_aload0 dX0_creditIn_25 ?_
        refine r_getf dX0_creditIn_26 f_X0_43 (hT.ob) rfl ?_
        refine r_iload3 dX0_creditIn_29 ?_
        refine r_aald (t := 5) dX0_creditIn_30 (by decide) hT.pas (i := i) (rfl) (by omega) (by decide) (kF_at (by omega)) ?_
        refine r_getf dX0_creditIn_31 f_X0_164 (hT.pa (j := i) (by omega)) rfl ?_
        refine r_iconst (v := 1) dX0_creditIn_34 (by decide) ?_
        refine r_icmp_ne (tgt := 50) dX0_creditIn_35 (by decide) (fun c35 => ?_) (fun c35 => ?_)
        · refine r_iinc3 (v := nI (i + 1)) dX0_creditIn_50 (Nat.le_of_ble_eq_true rfl) rfl (tp_inc i) ?_
          exact r_goto (tgt := 4) dX0_creditIn_53 (by decide) (tp_cong (by first | (simp only [z_credit, if_pos (And.intro (tp_b_n c22) c35)]; done) | (simp only [z_credit, if_pos (And.intro (tp_b_n c22) (Classical.not_not.mp c35))]; done) | (simp only [z_credit, if_neg (fun q : (u (136 + 5 * i) = nI w ∧ u (136 + 5 * i + 1) = nI c) ∧ u (136 + 5 * i + 4) = 1 => tp_b_0.mp c22 q.1), Int32.add_zero]; done) | (simp only [z_credit, if_neg (fun q : (u (136 + 5 * i) = nI w ∧ u (136 + 5 * i + 1) = nI c) ∧ u (136 + 5 * i + 4) = 1 => c35 q.2), Int32.add_zero]; done)) rfl (ih (i + 1) (by omega)))
        · refine r_iload2 dX0_creditIn_38 ?_
          refine r_aload0 dX0_creditIn_39 ?_
          refine r_getf dX0_creditIn_40 f_X0_43 (hT.ob) rfl ?_
          refine r_iload3 dX0_creditIn_43 ?_
          refine r_aald (t := 5) dX0_creditIn_44 (by decide) hT.pas (i := i) (rfl) (by omega) (by decide) (kF_at (by omega)) ?_
          refine r_getf dX0_creditIn_45 f_X0_178 (hT.pa (j := i) (by omega)) rfl ?_
          refine r_iadd dX0_creditIn_48 ?_
          refine r_istore2 dX0_creditIn_49 (Nat.le_of_ble_eq_true rfl) rfl ?_
          refine r_iinc3 (v := nI (i + 1)) dX0_creditIn_50 (Nat.le_of_ble_eq_true rfl) rfl (tp_inc i) ?_
          exact r_goto (tgt := 4) dX0_creditIn_53 (by decide) (tp_cong (by first | (simp only [z_credit, if_pos (And.intro (tp_b_n c22) c35)]; done) | (simp only [z_credit, if_pos (And.intro (tp_b_n c22) (Classical.not_not.mp c35))]; done) | (simp only [z_credit, if_neg (fun q : (u (136 + 5 * i) = nI w ∧ u (136 + 5 * i + 1) = nI c) ∧ u (136 + 5 * i + 4) = 1 => tp_b_0.mp c22 q.1), Int32.add_zero]; done) | (simp only [z_credit, if_neg (fun q : (u (136 + 5 * i) = nI w ∧ u (136 + 5 * i + 1) = nI c) ∧ u (136 + 5 * i + 4) = 1 => c35 q.2), Int32.add_zero]; done)) rfl (ih (i + 1) (by omega)))

set_option maxRecDepth 100000 in
set_option maxHeartbeats 4000000 in
theorem K_creditIn {l : Launch} {G : tp_G} {b : Nat} {h0 h : tp_H} {u : Nat → Int32} {π ρ : Nat → Nat} (hl : l.stackTraces = false) (hT0 : kb_S G b h0 u π ρ h) {w c P : Nat} (hw : w < 4) (hc : c < 4) (hu9 : u 9 = nI P) (hP9 : P ≤ 12) : tp_Met l G mX0_creditIn 0 0 [.ref b, .ref (kp b w c)] h (tp_PR (.int (z_credit u w c P)) h) tp_NX := by
  have hT := hT0.self
  refine tp_start (L0 := [some (.ref b), some (.ref (kp b w c)), none, none]) (by decide) rfl hl (Nat.le_of_ble_eq_true rfl) rfl ?_
  refine r_iconst (v := 0) dX0_creditIn_0 (by decide) ?_
  refine r_istore2 dX0_creditIn_1 (Nat.le_of_ble_eq_true rfl) rfl ?_
  refine r_iconst (v := 0) dX0_creditIn_2 (by decide) ?_
  refine r_istore3 dX0_creditIn_3 (Nat.le_of_ble_eq_true rfl) rfl ?_
  exact K_creditIn_lp hl hT hw hc hu9 hP9 P 0 (by omega)

set_option maxRecDepth 100000 in
set_option maxHeartbeats 4000000 in
theorem K_paidFrom_lp {l : Launch} {G : tp_G} {b : Nat} {h0 h : tp_H} {u : Nat → Int32} {π ρ : Nat → Nat} (hl : l.stackTraces = false) (hT0 : kb_S G b h0 u π ρ h) {w c P : Nat} (hw : w < 4) (hc : c < 4) (hu9 : u 9 = nI P) (hP9 : P ≤ 12) : ∀ d (i : Nat), i + d = P → tp_Run l G mX0_paidFrom (tp_rm mX0_paidFrom 0 0) (tp_QM G 0 0 (tp_PR (.int (k_paid u w c P)) h) tp_NX) 0 0 h 4 [some (.ref b), some (.ref (kp b w c)), some (.int (k_paid u w c i)), some (.int (nI i))] [] := by
  intro d
  have hT := hT0.self
  induction d with
  | zero =>
    intro i hi
    refine r_iload3 dX0_paidFrom_4 ?_
    refine r_aload0 dX0_paidFrom_5 ?_
    refine r_getf dX0_paidFrom_6 f_X0_72 (hT.ob) rfl ?_
    refine r_icmp_ge (tgt := 43) dX0_paidFrom_9 (by decide) (fun c9 => ?_) (fun c9 => ?_)
    · refine r_iload2 dX0_paidFrom_43 ?_
      exact r_iret dX0_paidFrom_44 rfl ⟨(Nat.le_of_ble_eq_true rfl), (Nat.le_of_ble_eq_true rfl)⟩ ⟨by rw [show i = P by omega], rfl⟩
    · rw [hu9, tp_le (by omega) (by omega)] at c9; omega
  | succ d ih =>
    intro i hi
    refine r_iload3 dX0_paidFrom_4 ?_
    refine r_aload0 dX0_paidFrom_5 ?_
    refine r_getf dX0_paidFrom_6 f_X0_72 (hT.ob) rfl ?_
    refine r_icmp_ge (tgt := 43) dX0_paidFrom_9 (by decide) (fun c9 => ?_) (fun c9 => ?_)
    · rw [hu9, tp_le (by omega) (by omega)] at c9; omega
    · refine r_aload0 dX0_paidFrom_12 ?_
      refine r_getf dX0_paidFrom_13 f_X0_43 (hT.ob) rfl ?_
      refine r_iload3 dX0_paidFrom_16 ?_
      refine r_aald (t := 5) dX0_paidFrom_17 (by decide) hT.pas (i := i) (rfl) (by omega) (by decide) (kF_at (by omega)) ?_
      refine r_aload1 dX0_paidFrom_18 ?_
      refine r_pV dX0_paidFrom_19 v_X0_180 (K_isOutOf (j := i) hl hT hw hc (by omega)) rfl (hT.pa (j := i) (by omega)) rfl rfl rfl (Nat.le_of_ble_eq_true rfl) ⟨(Nat.le_of_ble_eq_true rfl), (Nat.le_of_ble_eq_true rfl)⟩ ⟨(Nat.le_of_ble_eq_true rfl), (Nat.le_of_ble_eq_true rfl)⟩ ?_
      refine r_if_eq (tgt := 37) dX0_paidFrom_22 (by decide) (fun c22 => ?_) (fun c22 => ?_)
      · refine r_iinc3 (v := nI (i + 1)) dX0_paidFrom_37 (Nat.le_of_ble_eq_true rfl) rfl (tp_inc i) ?_
        exact r_goto (tgt := 4) dX0_paidFrom_40 (by decide) (tp_cong (by first | (simp only [k_paid, if_pos (tp_b_n c22)]; done) | (simp only [k_paid, if_neg (tp_b_0.mp c22), Int32.add_zero]; done)) rfl (ih (i + 1) (by omega)))
      · refine r_iload2 dX0_paidFrom_25 ?_
        refine r_aload0 dX0_paidFrom_26 ?_
        refine r_getf dX0_paidFrom_27 f_X0_43 (hT.ob) rfl ?_
        refine r_iload3 dX0_paidFrom_30 ?_
        refine r_aald (t := 5) dX0_paidFrom_31 (by decide) hT.pas (i := i) (rfl) (by omega) (by decide) (kF_at (by omega)) ?_
        refine r_getf dX0_paidFrom_32 f_X0_178 (hT.pa (j := i) (by omega)) rfl ?_
        refine r_iadd dX0_paidFrom_35 ?_
        refine r_istore2 dX0_paidFrom_36 (Nat.le_of_ble_eq_true rfl) rfl ?_
        refine r_iinc3 (v := nI (i + 1)) dX0_paidFrom_37 (Nat.le_of_ble_eq_true rfl) rfl (tp_inc i) ?_
        exact r_goto (tgt := 4) dX0_paidFrom_40 (by decide) (tp_cong (by first | (simp only [k_paid, if_pos (tp_b_n c22)]; done) | (simp only [k_paid, if_neg (tp_b_0.mp c22), Int32.add_zero]; done)) rfl (ih (i + 1) (by omega)))

set_option maxRecDepth 100000 in
set_option maxHeartbeats 4000000 in
theorem K_paidFrom {l : Launch} {G : tp_G} {b : Nat} {h0 h : tp_H} {u : Nat → Int32} {π ρ : Nat → Nat} (hl : l.stackTraces = false) (hT0 : kb_S G b h0 u π ρ h) {w c P : Nat} (hw : w < 4) (hc : c < 4) (hu9 : u 9 = nI P) (hP9 : P ≤ 12) : tp_Met l G mX0_paidFrom 0 0 [.ref b, .ref (kp b w c)] h (tp_PR (.int (k_paid u w c P)) h) tp_NX := by
  have hT := hT0.self
  refine tp_start (L0 := [some (.ref b), some (.ref (kp b w c)), none, none]) (by decide) rfl hl (Nat.le_of_ble_eq_true rfl) rfl ?_
  refine r_iconst (v := 0) dX0_paidFrom_0 (by decide) ?_
  refine r_istore2 dX0_paidFrom_1 (Nat.le_of_ble_eq_true rfl) rfl ?_
  refine r_iconst (v := 0) dX0_paidFrom_2 (by decide) ?_
  refine r_istore3 dX0_paidFrom_3 (Nat.le_of_ble_eq_true rfl) rfl ?_
  exact K_paidFrom_lp hl hT hw hc hu9 hP9 P 0 (by omega)

