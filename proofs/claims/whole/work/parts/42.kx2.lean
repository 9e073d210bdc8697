theorem tp_min (x y : Int32) : (if y < x then y else x) = (if x < y then x else y) := by
  by_cases h : y < x
  · rw [if_pos h, if_neg (by rw [Int32.lt_iff_toInt_lt] at *; omega)]
  · rw [if_neg h]
    by_cases h2 : x < y
    · rw [if_pos h2]
    · rw [if_neg h2]
      apply Int32.toInt_inj.mp
      rw [Int32.lt_iff_toInt_lt] at h h2
      omega
theorem k_tip_up {u : Nat → Int32} {q : Nat} {x a : Int32} (h : q ≠ 2) : z_tip (va_up u q x) a = z_tip u a := by unfold z_tip; rw [va_c1 2 (by omega)]
def k_load (u : Nat → Int32) (w : Nat) (a : Int32) : Nat → Int32 := z_in (va_up u 10 (u 10 + a)) w 0 a
def k_payout (u : Nat → Int32) (w : Nat) : Nat → Int32 := va_up (va_up u (z_at w 0) 0) 11 ((va_up u (z_at w 0) 0) 11 + u (z_at w 0))
def k_conv1 (u : Nat → Int32) (t : Nat) (s : Int32) : Nat → Int32 := va_up (va_up u 12 (u 12 + 1)) (if t = 0 then 13 else 14) ((va_up u 12 (u 12 + 1)) (if t = 0 then 13 else 14) + s)
def k_conv (u : Nat → Int32) (w f t : Nat) (a : Int32) : Nat → Int32 :=
  z_in (va_up (k_conv1 u t (k_spread u (k_gross u w f t a))) (z_at w f) (k_conv1 u t (k_spread u (k_gross u w f t a)) (z_at w f) - a)) w t (k_net u w f t a)
def k_hold (u : Nat → Int32) (N w c : Nat) (a : Int32) : Nat → Int32 :=
  va_up (va_up (va_up (va_up (va_up (va_up u (96 + 5 * N) (nI w)) (96 + 5 * N + 1) (nI c)) (96 + 5 * N + 2) a) (96 + 5 * N + 3) (z_tip u a)) (96 + 5 * N + 4) (u 4)) 8 (u 8 + 1)
def k_pay (u : Nat → Int32) (P w c : Nat) (a : Int32) : Nat → Int32 :=
  va_up (va_up (va_up (va_up (va_up (va_up u (136 + 5 * P) (nI w)) (136 + 5 * P + 1) (nI c)) (136 + 5 * P + 2) a) (136 + 5 * P + 3) (u 4)) (136 + 5 * P + 4) 0) 9 (u 9 + 1)
set_option maxRecDepth 100000 in
set_option maxHeartbeats 4000000 in
theorem K_takeIn {l : Launch} {G : tp_G} {b : Nat} {h0 h : tp_H} {u : Nat → Int32} {π ρ : Nat → Nat} (hl : l.stackTraces = false) (hT0 : kb_S G b h0 u π ρ h) {w c : Nat} {m : Int32} (hw : w < 4) (hc : c < 4) : tp_Met l G mX0_takeIn 0 0 [.ref b, .ref (kp b w c), .int m] h (tp_PS (none) (fun h1 => kb_S G b h (z_in u w c m) π ρ h1)) tp_NX := by
  have hT := hT0.self
  refine tp_start (L0 := [some (.ref b), some (.ref (kp b w c)), some (.int m), none]) (by decide) rfl hl (Nat.le_of_ble_eq_true rfl) rfl ?_
  refine r_aload1 dX0_takeIn_0 ?_
  refine r_getf dX0_takeIn_1 f_X0_96 (hT.pu hw hc) rfl ?_
  refine r_iload2 dX0_takeIn_4 ?_
  refine r_min dX0_takeIn_5 v_X0_99 (Nat.le_of_ble_eq_true rfl) (Nat.le_of_ble_eq_true rfl) ⟨(Nat.le_of_ble_eq_true rfl), (Nat.le_of_ble_eq_true rfl)⟩ ?_
  rw [tp_min]
  refine r_istore3 dX0_takeIn_8 (Nat.le_of_ble_eq_true rfl) rfl ?_
  refine r_aload1 dX0_takeIn_9 ?_
  refine r_dup dX0_takeIn_10 rfl ?_
  refine r_getf dX0_takeIn_11 f_X0_96 (hT.pu hw hc) rfl ?_
  refine r_iload3 dX0_takeIn_14 ?_
  refine r_isub dX0_takeIn_15 ?_
  refine kb_put_debt dX0_takeIn_16 f_X0_96 hT hw hc (fun h1 hT => ?_)
  refine r_aload0 dX0_takeIn_19 ?_
  refine r_dup dX0_takeIn_20 rfl ?_
  refine r_getf dX0_takeIn_21 f_X0_93 (hT.ob) rfl ?_
  refine r_iload3 dX0_takeIn_24 ?_
  refine r_iadd dX0_takeIn_25 ?_
  refine kb_put_debtPaid dX0_takeIn_26 f_X0_93 hT (fun h1 hT => ?_)
  refine r_aload1 dX0_takeIn_29 ?_
  refine r_dup dX0_takeIn_30 rfl ?_
  refine r_getf dX0_takeIn_31 f_X0_105 (hT.pu hw hc) rfl ?_
  refine r_iload2 dX0_takeIn_34 ?_
  refine r_iload3 dX0_takeIn_35 ?_
  refine r_isub dX0_takeIn_36 ?_
  refine r_iadd dX0_takeIn_37 ?_
  refine kb_put_balance dX0_takeIn_38 f_X0_105 hT hw hc (fun h1 hT => ?_)
  exact r_vret dX0_takeIn_41 rfl ⟨(Nat.le_of_ble_eq_true rfl), (Nat.le_of_ble_eq_true rfl)⟩ ⟨rfl, hT⟩

set_option maxRecDepth 100000 in
set_option maxHeartbeats 4000000 in
theorem K_takeBack {l : Launch} {G : tp_G} {b : Nat} {h0 h : tp_H} {u : Nat → Int32} {π ρ : Nat → Nat} (hl : l.stackTraces = false) (hT0 : kb_S G b h0 u π ρ h) {w c N : Nat} {a : Int32} (hw : w < 4) (hc : c < 4) (hu8 : u 8 = nI N) (hN : N ≤ 8) : tp_Met l G mX0_takeBack 0 0 [.ref b, .ref (kp b w c), .int a] h (tp_PS (some (.int (a - z_taken u w c a))) (fun h1 => kb_S G b h (z_back u w c a) π ρ h1)) tp_NX := by
  have hT := hT0.self
  refine tp_start (L0 := [some (.ref b), some (.ref (kp b w c)), some (.int a), none]) (by decide) rfl hl (Nat.le_of_ble_eq_true rfl) rfl ?_
  refine r_aload0 dX0_takeBack_0 ?_
  refine r_aload1 dX0_takeBack_1 ?_
  refine r_pV dX0_takeBack_2 v_X0_108 (K_freeOf hl hT hw hc hu8 hN) rfl (hT.ob) rfl rfl rfl (Nat.le_of_ble_eq_true rfl) ⟨(Nat.le_of_ble_eq_true rfl), (Nat.le_of_ble_eq_true rfl)⟩ ⟨(Nat.le_of_ble_eq_true rfl), (Nat.le_of_ble_eq_true rfl)⟩ ?_
  refine r_iload2 dX0_takeBack_5 ?_
  refine r_min dX0_takeBack_6 v_X0_99 (Nat.le_of_ble_eq_true rfl) (Nat.le_of_ble_eq_true rfl) ⟨(Nat.le_of_ble_eq_true rfl), (Nat.le_of_ble_eq_true rfl)⟩ ?_
  rw [tp_min]
  refine r_istore3 dX0_takeBack_9 (Nat.le_of_ble_eq_true rfl) rfl ?_
  refine r_aload1 dX0_takeBack_10 ?_
  refine r_dup dX0_takeBack_11 rfl ?_
  refine r_getf dX0_takeBack_12 f_X0_105 (hT.pu hw hc) rfl ?_
  refine r_iload3 dX0_takeBack_15 ?_
  refine r_isub dX0_takeBack_16 ?_
  refine kb_put_balance dX0_takeBack_17 f_X0_105 hT hw hc (fun h1 hT => ?_)
  refine r_aload1 dX0_takeBack_20 ?_
  refine r_dup dX0_takeBack_21 rfl ?_
  refine r_getf dX0_takeBack_22 f_X0_96 (hT.pu hw hc) rfl ?_
  refine r_iload2 dX0_takeBack_25 ?_
  refine r_iload3 dX0_takeBack_26 ?_
  refine r_isub dX0_takeBack_27 ?_
  refine r_iadd dX0_takeBack_28 ?_
  refine kb_put_debt dX0_takeBack_29 f_X0_96 hT hw hc (fun h1 hT => ?_)
  refine r_iload2 dX0_takeBack_32 ?_
  refine r_iload3 dX0_takeBack_33 ?_
  refine r_isub dX0_takeBack_34 ?_
  exact r_iret dX0_takeBack_35 rfl ⟨(Nat.le_of_ble_eq_true rfl), (Nat.le_of_ble_eq_true rfl)⟩ ⟨rfl, hT⟩

set_option maxRecDepth 100000 in
set_option maxHeartbeats 4000000 in
theorem K_addLoad {l : Launch} {G : tp_G} {b : Nat} {h0 h : tp_H} {u : Nat → Int32} {π ρ : Nat → Nat} (hl : l.stackTraces = false) (hT0 : kb_S G b h0 u π ρ h) {w : Nat} {a : Int32} (hw : w < 4) : tp_Met l G mX0_addLoad 0 0 [.ref b, .ref (kp b w 0), .int a] h (tp_PS (none) (fun h1 => kb_S G b h (k_load u w a) π ρ h1)) tp_NX := by
  have hT := hT0.self
  refine tp_start (L0 := [some (.ref b), some (.ref (kp b w 0)), some (.int a)]) (by decide) rfl hl (Nat.le_of_ble_eq_true rfl) rfl ?_
  refine r_aload0 dX0_addLoad_0 ?_
  refine r_dup dX0_addLoad_1 rfl ?_
  refine r_getf dX0_addLoad_2 f_X0_78 (hT.ob) rfl ?_
  refine r_iload2 dX0_addLoad_5 ?_
  refine r_iadd dX0_addLoad_6 ?_
  refine kb_put_loaded dX0_addLoad_7 f_X0_78 hT (fun h1 hT => ?_)
  refine r_aload0 dX0_addLoad_10 ?_
  refine r_aload1 dX0_addLoad_11 ?_
  refine r_iload2 dX0_addLoad_12 ?_
  refine r_sV0 dX0_addLoad_13 v_X0_113 (K_takeIn hl hT hw (c := 0) (by omega)) rfl (hT.ob) rfl rfl rfl (Nat.le_of_ble_eq_true rfl) ⟨(Nat.le_of_ble_eq_true rfl), (Nat.le_of_ble_eq_true rfl)⟩ ⟨(Nat.le_of_ble_eq_true rfl), (Nat.le_of_ble_eq_true rfl)⟩ (fun h1 hP => ?_)
  have hT := hT.trans hP
  exact r_vret dX0_addLoad_16 rfl ⟨(Nat.le_of_ble_eq_true rfl), (Nat.le_of_ble_eq_true rfl)⟩ ⟨rfl, hT⟩

set_option maxRecDepth 100000 in
set_option maxHeartbeats 4000000 in
theorem K_payOut {l : Launch} {G : tp_G} {b : Nat} {h0 h : tp_H} {u : Nat → Int32} {π ρ : Nat → Nat} (hl : l.stackTraces = false) (hT0 : kb_S G b h0 u π ρ h) {w : Nat} (hw : w < 4) : tp_Met l G mX0_payOut 0 0 [.ref b, .ref (kp b w 0)] h (tp_PS (some (.int (u (z_at w 0)))) (fun h1 => kb_S G b h (k_payout u w) π ρ h1)) tp_NX := by
  have hT := hT0.self
  refine tp_start (L0 := [some (.ref b), some (.ref (kp b w 0)), none]) (by decide) rfl hl (Nat.le_of_ble_eq_true rfl) rfl ?_
  refine r_aload1 dX0_payOut_0 ?_
  refine r_getf dX0_payOut_1 f_X0_105 (hT.pu hw (c := 0) (by omega)) rfl ?_
  refine r_istore2 dX0_payOut_4 (Nat.le_of_ble_eq_true rfl) rfl ?_
  refine r_aload1 dX0_payOut_5 ?_
  refine r_iconst (v := 0) dX0_payOut_6 (by decide) ?_
  refine kb_put_balance dX0_payOut_7 f_X0_105 hT hw (c := 0) (by omega) (fun h1 hT => ?_)
  refine r_aload0 dX0_payOut_10 ?_
  refine r_dup dX0_payOut_11 rfl ?_
  refine r_getf dX0_payOut_12 f_X0_81 (hT.ob) rfl ?_
  refine r_iload2 dX0_payOut_15 ?_
  refine r_iadd dX0_payOut_16 ?_
  refine kb_put_paidOut dX0_payOut_17 f_X0_81 hT (fun h1 hT => ?_)
  refine r_iload2 dX0_payOut_20 ?_
  exact r_iret dX0_payOut_21 rfl ⟨(Nat.le_of_ble_eq_true rfl), (Nat.le_of_ble_eq_true rfl)⟩ ⟨rfl, hT⟩

set_option maxRecDepth 100000 in
set_option maxHeartbeats 4000000 in
theorem K_convert {l : Launch} {G : tp_G} {b : Nat} {h0 h : tp_H} {u : Nat → Int32} {π ρ : Nat → Nat} (hl : l.stackTraces = false) (hT0 : kb_S G b h0 u π ρ h) {w f t : Nat} {a : Int32} (hw : w < 4) (hf : f < 4) (ht : t < 4) : tp_Met l G mX0_convert 0 0 [.ref b, .ref (kp b w f), .ref (kp b w t), .int a] h (tp_PS (some (.int (k_net u w f t a))) (fun h1 => kb_S G b h (k_conv u w f t a) π ρ h1)) tp_NX := by
  have hT := hT0.self
  refine tp_start (L0 := [some (.ref b), some (.ref (kp b w f)), some (.ref (kp b w t)), some (.int a), none, none, none, none]) (by decide) rfl hl (Nat.le_of_ble_eq_true rfl) rfl ?_
  refine r_aload0 dX0_convert_0 ?_
  refine r_aload1 dX0_convert_1 ?_
  refine r_aload2 dX0_convert_2 ?_
  refine r_iload3 dX0_convert_3 ?_
  refine r_pV dX0_convert_4 v_X0_144 (K_grossOf hl hT hw hf ht) rfl (hT.ob) rfl rfl rfl (Nat.le_of_ble_eq_true rfl) ⟨(Nat.le_of_ble_eq_true rfl), (Nat.le_of_ble_eq_true rfl)⟩ ⟨(Nat.le_of_ble_eq_true rfl), (Nat.le_of_ble_eq_true rfl)⟩ ?_
  refine r_lstore4 dX0_convert_7 (Nat.le_of_ble_eq_true rfl) rfl ?_
  refine r_aload0 dX0_convert_9 ?_
  refine r_lload4 dX0_convert_10 ?_
  refine r_pV dX0_convert_12 v_X0_148 (K_spreadOf hl hT) rfl (hT.ob) rfl rfl rfl (Nat.le_of_ble_eq_true rfl) ⟨(Nat.le_of_ble_eq_true rfl), (Nat.le_of_ble_eq_true rfl)⟩ ⟨(Nat.le_of_ble_eq_true rfl), (Nat.le_of_ble_eq_true rfl)⟩ ?_
  refine r_istore6 dX0_convert_15 (Nat.le_of_ble_eq_true rfl) rfl ?_
  refine r_lload4 dX0_convert_17 ?_
  refine r_l2i dX0_convert_19 ?_
  refine r_iload6 dX0_convert_20 ?_
  refine r_isub dX0_convert_22 ?_
  refine r_istore7 dX0_convert_23 (Nat.le_of_ble_eq_true rfl) rfl ?_
  refine r_aload0 dX0_convert_25 ?_
  refine r_dup dX0_convert_26 rfl ?_
  refine r_getf dX0_convert_27 f_X0_84 (hT.ob) rfl ?_
  refine r_iconst (v := 1) dX0_convert_30 (by decide) ?_
  refine r_iadd dX0_convert_31 ?_
  refine kb_put_exchanges dX0_convert_32 f_X0_84 hT (fun h1 hT => ?_)
  refine r_aload2 dX0_convert_35 ?_
  refine r_getf dX0_convert_36 f_X0_136 (hT.pu hw ht) rfl ?_
  refine r_if_ne (tgt := 56) dX0_convert_39 (by decide) (fun c39 => ?_) (fun c39 => ?_)
  · have e39 : ¬ t = 0 := by
      have q := tp_eq (show t < 2 ^ 31 by omega) (show 0 < 2 ^ 31 by omega)
      first | exact q.mp c39 | exact q.mp (Classical.not_not.mp c39) | exact fun z => c39 (q.mpr z)
    refine r_aload0 dX0_convert_56 ?_
    refine r_dup dX0_convert_57 rfl ?_
    refine r_getf dX0_convert_58 f_X0_90 (hT.ob) rfl ?_
    refine r_iload6 dX0_convert_61 ?_
    refine r_iadd dX0_convert_63 ?_
    refine kb_put_otherSpread dX0_convert_64 f_X0_90 hT (fun h1 hT => ?_)
    have hT := hT.cz (u' := k_conv1 u t (k_spread u (k_gross u w f t a))) (by unfold k_conv1; first | (rw [if_pos e39]; done) | (rw [if_neg e39]; done) | (rw [if_pos e39]; rfl) | (rw [if_neg e39]; rfl))
    refine r_aload1 dX0_convert_67 ?_
    refine r_dup dX0_convert_68 rfl ?_
    refine r_getf dX0_convert_69 f_X0_105 (hT.pu hw hf) rfl ?_
    refine r_iload3 dX0_convert_72 ?_
    refine r_isub dX0_convert_73 ?_
    refine kb_put_balance dX0_convert_74 f_X0_105 hT hw hf (fun h1 hT => ?_)
    refine r_aload0 dX0_convert_77 ?_
    refine r_aload2 dX0_convert_78 ?_
    refine r_iload7 dX0_convert_79 ?_
    refine r_sV0 dX0_convert_81 v_X0_113 (K_takeIn hl hT hw ht) rfl (hT.ob) rfl rfl rfl (Nat.le_of_ble_eq_true rfl) ⟨(Nat.le_of_ble_eq_true rfl), (Nat.le_of_ble_eq_true rfl)⟩ ⟨(Nat.le_of_ble_eq_true rfl), (Nat.le_of_ble_eq_true rfl)⟩ (fun h1 hP => ?_)
    have hT := hT.trans hP
    refine r_iload7 dX0_convert_84 ?_
    exact r_iret dX0_convert_86 rfl ⟨(Nat.le_of_ble_eq_true rfl), (Nat.le_of_ble_eq_true rfl)⟩ ⟨rfl, hT⟩
  · have e39 : t = 0 := by
      have q := tp_eq (show t < 2 ^ 31 by omega) (show 0 < 2 ^ 31 by omega)
      first | exact q.mp c39 | exact q.mp (Classical.not_not.mp c39) | exact fun z => c39 (q.mpr z)
    refine r_aload0 dX0_convert_42 ?_
    refine r_dup dX0_convert_43 rfl ?_
    refine r_getf dX0_convert_44 f_X0_87 (hT.ob) rfl ?_
    refine r_iload6 dX0_convert_47 ?_
    refine r_iadd dX0_convert_49 ?_
    refine kb_put_homeSpread dX0_convert_50 f_X0_87 hT (fun h1 hT => ?_)
    refine r_goto (tgt := 67) dX0_convert_53 (by decide) ?_
    have hT := hT.cz (u' := k_conv1 u t (k_spread u (k_gross u w f t a))) (by unfold k_conv1; first | (rw [if_pos e39]; done) | (rw [if_neg e39]; done) | (rw [if_pos e39]; rfl) | (rw [if_neg e39]; rfl))
    refine r_aload1 dX0_convert_67 ?_
    refine r_dup dX0_convert_68 rfl ?_
    refine r_getf dX0_convert_69 f_X0_105 (hT.pu hw hf) rfl ?_
    refine r_iload3 dX0_convert_72 ?_
    refine r_isub dX0_convert_73 ?_
    refine kb_put_balance dX0_convert_74 f_X0_105 hT hw hf (fun h1 hT => ?_)
    refine r_aload0 dX0_convert_77 ?_
    refine r_aload2 dX0_convert_78 ?_
    refine r_iload7 dX0_convert_79 ?_
    refine r_sV0 dX0_convert_81 v_X0_113 (K_takeIn hl hT hw ht) rfl (hT.ob) rfl rfl rfl (Nat.le_of_ble_eq_true rfl) ⟨(Nat.le_of_ble_eq_true rfl), (Nat.le_of_ble_eq_true rfl)⟩ ⟨(Nat.le_of_ble_eq_true rfl), (Nat.le_of_ble_eq_true rfl)⟩ (fun h1 hP => ?_)
    have hT := hT.trans hP
    refine r_iload7 dX0_convert_84 ?_
    exact r_iret dX0_convert_86 rfl ⟨(Nat.le_of_ble_eq_true rfl), (Nat.le_of_ble_eq_true rfl)⟩ ⟨rfl, hT⟩

set_option maxRecDepth 100000 in
set_option maxHeartbeats 4000000 in
theorem K_addHold {l : Launch} {G : tp_G} {b : Nat} {h0 h : tp_H} {u : Nat → Int32} {π ρ : Nat → Nat} (hl : l.stackTraces = false) (hT0 : kb_S G b h0 u π ρ h) {w c N : Nat} {a : Int32} (hw : w < 4) (hc : c < 4) (hu8 : u 8 = nI N) (hN : N < 8) : tp_Met l G mX0_addHold 0 0 [.ref b, .ref (kp b w c), .int a] h (tp_PS (some (.int (u 8))) (fun h1 => kb_S G b h (k_hold u N w c a) π ρ h1)) tp_NX := by
  have hT := hT0.self
  refine tp_start (L0 := [some (.ref b), some (.ref (kp b w c)), some (.int a), none]) (by decide) rfl hl (Nat.le_of_ble_eq_true rfl) rfl ?_
  refine r_aload0 dX0_addHold_0 ?_
  refine r_getf dX0_addHold_1 f_X0_66 (hT.ob) rfl ?_
  refine r_aload0 dX0_addHold_4 ?_
  refine r_getf dX0_addHold_5 f_X0_37 (hT.ob) rfl ?_
  refine r_alen dX0_addHold_8 (t := 4) (by decide) hT.hos ?_
  refine r_icmp_lt (tgt := 14) dX0_addHold_9 (by decide) (fun c9 => ?_) (fun c9 => ?_)
  · refine r_aload0 dX0_addHold_14 ?_
    refine r_getf dX0_addHold_15 f_X0_37 (hT.ob) rfl ?_
    refine r_aload0 dX0_addHold_18 ?_
    refine r_getf dX0_addHold_19 f_X0_66 (hT.ob) rfl ?_
    refine r_aald (t := 4) dX0_addHold_22 (by decide) hT.hos (i := N) (hu8) (by omega) (by decide) (kFp_at hN) ?_
    refine r_astore3 dX0_addHold_23 (Nat.le_of_ble_eq_true rfl) rfl ?_
    refine r_aload3 dX0_addHold_24 ?_
    refine r_aload1 dX0_addHold_25 ?_
    refine r_getf dX0_addHold_26 f_X0_167 (hT.pu hw hc) rfl ?_
    refine kb_put_h0 dX0_addHold_29 f_X0_160 hT hN (fun h1 hT => ?_)
    refine r_aload3 dX0_addHold_32 ?_
    refine r_aload1 dX0_addHold_33 ?_
    refine r_getf dX0_addHold_34 f_X0_136 (hT.pu hw hc) rfl ?_
    refine kb_put_h1 dX0_addHold_37 f_X0_168 hT hN (fun h1 hT => ?_)
    refine r_aload3 dX0_addHold_40 ?_
    refine r_iload2 dX0_addHold_41 ?_
    refine kb_put_h2 dX0_addHold_42 f_X0_169 hT hN (fun h1 hT => ?_)
    refine r_aload3 dX0_addHold_45 ?_
    refine r_aload0 dX0_addHold_46 ?_
    refine r_iload2 dX0_addHold_47 ?_
    refine r_pV dX0_addHold_48 v_X0_156 (K_withTip hl hT) rfl (hT.ob) rfl rfl rfl (Nat.le_of_ble_eq_true rfl) ⟨(Nat.le_of_ble_eq_true rfl), (Nat.le_of_ble_eq_true rfl)⟩ ⟨(Nat.le_of_ble_eq_true rfl), (Nat.le_of_ble_eq_true rfl)⟩ ?_
    rw [k_tip_up (by omega), k_tip_up (by omega), k_tip_up (by omega)]
    refine kb_put_h3 dX0_addHold_51 f_X0_124 hT hN (fun h1 hT => ?_)
    refine r_aload3 dX0_addHold_54 ?_
    refine r_aload0 dX0_addHold_55 ?_
    refine r_getf dX0_addHold_56 f_X0_52 (hT.ob) rfl ?_
    rw [va_c1 4 (by omega), va_c1 4 (by omega), va_c1 4 (by omega), va_c1 4 (by omega)]
    refine kb_put_h4 dX0_addHold_59 f_X0_172 hT hN (fun h1 hT => ?_)
    refine r_aload0 dX0_addHold_62 ?_
    refine r_dup dX0_addHold_63 rfl ?_
    refine r_getf dX0_addHold_64 f_X0_66 (hT.ob) rfl ?_
    refine r_iconst (v := 1) dX0_addHold_67 (by decide) ?_
    refine r_iadd dX0_addHold_68 ?_
    rw [va_c1 8 (by omega), va_c1 8 (by omega), va_c1 8 (by omega), va_c1 8 (by omega), va_c1 8 (by omega)]
    refine kb_put_openHolds dX0_addHold_69 f_X0_66 hT (fun h1 hT => ?_)
    refine r_aload0 dX0_addHold_72 ?_
    refine r_getf dX0_addHold_73 f_X0_66 (hT.ob) rfl ?_
    refine r_iconst (v := 1) dX0_addHold_76 (by decide) ?_
    refine r_isub dX0_addHold_77 ?_
    exact r_iret dX0_addHold_78 rfl ⟨(Nat.le_of_ble_eq_true rfl), (Nat.le_of_ble_eq_true rfl)⟩ ⟨by rw [va_up_eq, Int32.add_sub_cancel], hT⟩
  · rw [hu8, tp_lt (by omega) (show 8 < 2 ^ 31 by decide)] at c9
    exact absurd hN c9

set_option maxRecDepth 100000 in
set_option maxHeartbeats 4000000 in
theorem K_addPayment {l : Launch} {G : tp_G} {b : Nat} {h0 h : tp_H} {u : Nat → Int32} {π ρ : Nat → Nat} (hl : l.stackTraces = false) (hT0 : kb_S G b h0 u π ρ h) {w c P : Nat} {a : Int32} (hw : w < 4) (hc : c < 4) (hu9 : u 9 = nI P) (hP9 : P < 12) : tp_Met l G mX0_addPayment 0 0 [.ref b, .ref (kp b w c), .int a] h (tp_PS (some (.int (u 9))) (fun h1 => kb_S G b h (k_pay u P w c a) π ρ h1)) tp_NX := by
  have hT := hT0.self
  refine tp_start (L0 := [some (.ref b), some (.ref (kp b w c)), some (.int a), none]) (by decide) rfl hl (Nat.le_of_ble_eq_true rfl) rfl ?_
  refine r_aload0 dX0_addPayment_0 ?_
  refine r_getf dX0_addPayment_1 f_X0_72 (hT.ob) rfl ?_
  refine r_aload0 dX0_addPayment_4 ?_
  refine r_getf dX0_addPayment_5 f_X0_43 (hT.ob) rfl ?_
  refine r_alen dX0_addPayment_8 (t := 5) (by decide) hT.pas ?_
  refine r_icmp_lt (tgt := 14) dX0_addPayment_9 (by decide) (fun c9 => ?_) (fun c9 => ?_)
  · refine r_aload0 dX0_addPayment_14 ?_
    refine r_getf dX0_addPayment_15 f_X0_43 (hT.ob) rfl ?_
    refine r_aload0 dX0_addPayment_18 ?_
    refine r_getf dX0_addPayment_19 f_X0_72 (hT.ob) rfl ?_
    refine r_aald (t := 5) dX0_addPayment_22 (by decide) hT.pas (i := P) (hu9) (by omega) (by decide) (kF_at hP9) ?_
    refine r_astore3 dX0_addPayment_23 (Nat.le_of_ble_eq_true rfl) rfl ?_
    refine r_aload3 dX0_addPayment_24 ?_
    refine r_aload1 dX0_addPayment_25 ?_
    refine r_getf dX0_addPayment_26 f_X0_167 (hT.pu hw hc) rfl ?_
    refine kb_put_p0 dX0_addPayment_29 f_X0_163 hT hP9 (fun h1 hT => ?_)
    refine r_aload3 dX0_addPayment_32 ?_
    refine r_aload1 dX0_addPayment_33 ?_
    refine r_getf dX0_addPayment_34 f_X0_136 (hT.pu hw hc) rfl ?_
    refine kb_put_p1 dX0_addPayment_37 f_X0_177 hT hP9 (fun h1 hT => ?_)
    refine r_aload3 dX0_addPayment_40 ?_
    refine r_iload2 dX0_addPayment_41 ?_
    refine kb_put_p2 dX0_addPayment_42 f_X0_178 hT hP9 (fun h1 hT => ?_)
    refine r_aload3 dX0_addPayment_45 ?_
    refine r_aload0 dX0_addPayment_46 ?_
    refine r_getf dX0_addPayment_47 f_X0_52 (hT.ob) rfl ?_
    rw [va_c1 4 (by omega), va_c1 4 (by omega), va_c1 4 (by omega)]
    refine kb_put_p3 dX0_addPayment_50 f_X0_179 hT hP9 (fun h1 hT => ?_)
    refine r_aload3 dX0_addPayment_53 ?_
    refine r_iconst (v := 0) dX0_addPayment_54 (by decide) ?_
    refine kb_put_p4 dX0_addPayment_55 f_X0_164 hT hP9 (fun h1 hT => ?_)
    refine r_aload0 dX0_addPayment_58 ?_
    refine r_dup dX0_addPayment_59 rfl ?_
    refine r_getf dX0_addPayment_60 f_X0_72 (hT.ob) rfl ?_
    refine r_iconst (v := 1) dX0_addPayment_63 (by decide) ?_
    refine r_iadd dX0_addPayment_64 ?_
    rw [va_c1 9 (by omega), va_c1 9 (by omega), va_c1 9 (by omega), va_c1 9 (by omega), va_c1 9 (by omega)]
    refine kb_put_paymentCount dX0_addPayment_65 f_X0_72 hT (fun h1 hT => ?_)
    refine r_aload0 dX0_addPayment_68 ?_
    refine r_getf dX0_addPayment_69 f_X0_72 (hT.ob) rfl ?_
    refine r_iconst (v := 1) dX0_addPayment_72 (by decide) ?_
    refine r_isub dX0_addPayment_73 ?_
    exact r_iret dX0_addPayment_74 rfl ⟨(Nat.le_of_ble_eq_true rfl), (Nat.le_of_ble_eq_true rfl)⟩ ⟨by rw [va_up_eq, Int32.add_sub_cancel], hT⟩
  · rw [hu9, tp_lt (by omega) (show 12 < 2 ^ 31 by decide)] at c9
    exact absurd hP9 c9

def k_sig (j N : Nat) : Nat → Nat := fun q => if j ≤ q ∧ q + 1 < N then q + 1 else if q + 1 = N then j else q
def k_tau (j N : Nat) : Nat → Nat := fun r => if j < r ∧ r < N then r - 1 else if r = j then N - 1 else r
theorem k_sig_tau {j N r : Nat} (hj : j < N) : k_sig j N (k_tau j N r) = r := by
  unfold k_sig k_tau
  by_cases h1 : j < r ∧ r < N
  · rw [if_pos h1, if_pos (by omega)]; omega
  · rw [if_neg h1]
    by_cases h2 : r = j
    · rw [if_pos h2, if_neg (by omega), if_pos (by omega)]; exact h2.symm
    · rw [if_neg h2, if_neg (by omega), if_neg (by omega)]
theorem k_tau_sig {j N q : Nat} (hj : j < N) : k_tau j N (k_sig j N q) = q := by
  unfold k_sig k_tau
  by_cases h1 : j ≤ q ∧ q + 1 < N
  · rw [if_pos h1, if_pos (by omega)]; omega
  · rw [if_neg h1]
    by_cases h2 : q + 1 = N
    · rw [if_pos h2, if_neg (by omega), if_pos rfl]; omega
    · rw [if_neg h2, if_neg (by omega), if_neg (by omega)]
theorem k_sig_lt {j N q : Nat} (hj : j < N) (hN : N ≤ 8) (hq : q < 8) : k_sig j N q < 8 := by
  unfold k_sig
  split
  · omega
  · split <;> omega
theorem k_tau_lt {j N q : Nat} (hj : j < N) (hN : N ≤ 8) (hq : q < 8) : k_tau j N q < 8 := by
  unfold k_tau
  split
  · omega
  · split <;> omega
def k_perm (u : Nat → Int32) (σ : Nat → Nat) : Nat → Int32 := fun q => if 96 ≤ q ∧ q < 136 then u (96 + 5 * σ ((q - 96) / 5) + (q - 96) % 5) else u q
theorem k_perm_r {u : Nat → Int32} {σ : Nat → Nat} {r f : Nat} (hr : r < 8) (hf : f < 5) : k_perm u σ (96 + 5 * r + f) = u (96 + 5 * σ r + f) := by
  unfold k_perm
  rw [if_pos (by omega), show (96 + 5 * r + f - 96) / 5 = r by omega, show (96 + 5 * r + f - 96) % 5 = f by omega]
theorem k_perm_n {u : Nat → Int32} {σ : Nat → Nat} {q : Nat} (h : ¬ (96 ≤ q ∧ q < 136)) : k_perm u σ q = u q := if_neg h
def k_drop (u : Nat → Int32) (N j : Nat) : Nat → Int32 := va_up (k_perm u (k_sig j N)) 8 (u 8 - 1)
theorem tp_up_up {f : Nat → Option va_E} {a : Nat} {e e' : va_E} : tp_up (tp_up f a e) a e' = tp_up f a e' := by
  funext q
  unfold tp_up
  by_cases h : q = a
  · rw [if_pos h, if_pos h]
  · rw [if_neg h, if_neg h, if_neg h]
theorem kb_S.perm {G : tp_G} {b : Nat} {h0 h : tp_H} {u : Nat → Int32} {π ρ σ τ : Nat → Nat} (hT : kb_S G b h0 u π ρ h) (hs : ∀ q, q < 8 → σ q < 8 ∧ τ (σ q) = q) (ht : ∀ q, q < 8 → τ q < 8 ∧ σ (τ q) = q) {e : va_E} (he : e = .inl (G.2.2.1 4, 8, .inr (.inr (.inr (.inr (kFp (b + 22) 8 (fun q => π (σ q)))))))) :
    kb_S G b h0 (k_perm u σ) (fun q => π (σ q)) (fun k => τ (ρ k)) (h.1, tp_up h.2 (b + 4) e) := by
  subst he
  refine ⟨⟨fun o ho => ?_, fun j hj => ?_, fun j hj => ?_⟩, hT.2.1, fun a ha => ?_⟩
  · by_cases e4 : o = 4
    · subst e4
      exact tp_up_s
    · refine (tp_up_n (by omega)).trans ((hT.1.1 o ho).trans ?_)
      congr 1
      unfold kb_c
      by_cases e0 : o = 0
      · rw [if_pos e0, if_pos e0]
        rfl
      rw [if_neg e0, if_neg e0]
      by_cases e1 : o = 1
      · rw [if_pos e1, if_pos e1, show kS (k_perm u σ) = kS u from funext fun j => by
          unfold kS
          by_cases hj : j < 4
          · rw [if_pos hj, if_pos hj, k_perm_n (by omega)]
          · rw [if_neg hj, if_neg hj]]
      rw [if_neg e1, if_neg e1]
      by_cases e2 : o = 2
      · rw [if_pos e2, if_pos e2, show kR (k_perm u σ) = kR u from funext fun j => by
          unfold kR
          by_cases hz : j = 0
          · rw [if_pos hz, if_pos hz]
          · rw [if_neg hz, if_neg hz]
            by_cases hj : j < 4
            · rw [if_pos hj, if_pos hj, k_perm_n (by omega)]
            · rw [if_neg hj, if_neg hj]]
      rw [if_neg e2, if_neg e2]
      by_cases e3 : o = 3
      · rw [if_pos e3, if_pos e3]
      rw [if_neg e3, if_neg e3, if_neg e4, if_neg e4]
      by_cases e5 : o = 5
      · rw [if_pos e5, if_pos e5]
      rw [if_neg e5, if_neg e5]
      by_cases e6 : o < 22
      · rw [if_pos e6, if_pos e6]
        congr 4
        exact k4_ext fun f hf => (k_perm_n (by omega)).symm
      rw [if_neg e6, if_neg e6]
      by_cases e7 : o < 30
      · rw [if_pos e7, if_pos e7]
        congr 2
        obtain ⟨q1, q2⟩ := hT.1.2.2 (o - 22) (by omega)
        obtain ⟨q3, q4⟩ := ht _ q1
        exact k5_ext fun f hf => by rw [k_perm_r q3 hf, q4]
      · rw [if_neg e7, if_neg e7]
        congr 2
        exact k5_ext fun f hf => (k_perm_n (by omega)).symm
  · obtain ⟨q1, q2⟩ := hs j hj
    obtain ⟨q3, q4⟩ := hT.1.2.1 _ q1
    exact ⟨q3, by show τ (ρ (π (σ j))) = j; rw [q4, q2]⟩
  · obtain ⟨q1, q2⟩ := hT.1.2.2 j hj
    obtain ⟨q3, q4⟩ := ht _ q1
    exact ⟨q3, by show π (σ (τ (ρ j))) = j; rw [q4, q2]⟩
  · exact (tp_up_n (by omega)).trans (hT.2.2 a ha)
/-- the places of holds while one is dropped: those ahead of i are moved -/
def k_mv (b : Nat) (π : Nat → Nat) (j i : Nat) : Nat → Option Nat := fun q => if j ≤ q ∧ q + 1 < i then kFp (b + 22) 8 π (q + 1) else kFp (b + 22) 8 π q
theorem k_mv0 (b : Nat) (π : Nat → Nat) (j : Nat) : k_mv b π j (j + 1) = kFp (b + 22) 8 π := funext fun q => if_neg (by omega)
theorem k_mv1 {b : Nat} {π : Nat → Nat} {j i : Nat} (hi : j < i) (h8 : i < 8) : va_up (k_mv b π j i) (i - 1) (some (b + 22 + π i)) = k_mv b π j (i + 1) := by
  funext q
  unfold va_up k_mv
  by_cases hq : q = i - 1
  · rw [if_pos hq, if_pos (by omega), show q + 1 = i by omega, kFp_at h8]
  · rw [if_neg hq]
    by_cases h1 : j ≤ q ∧ q + 1 < i
    · rw [if_pos h1, if_pos (by omega)]
    · rw [if_neg h1, if_neg (by omega)]
theorem k_mv2 {b : Nat} {π : Nat → Nat} {j N : Nat} (hj : j < N) (hN : N ≤ 8) : va_up (k_mv b π j N) (N - 1) (some (b + 22 + π j)) = kFp (b + 22) 8 (fun q => π (k_sig j N q)) := by
  funext q
  unfold va_up k_mv kFp k_sig
  dsimp only
  by_cases hq : q = N - 1
  · rw [if_pos hq, if_pos (by omega), if_neg (by omega), if_pos (by omega)]
  · rw [if_neg hq]
    by_cases h1 : j ≤ q ∧ q + 1 < N
    · rw [if_pos h1, if_pos (by omega), if_pos (by omega), if_pos h1]
    · rw [if_neg h1, if_neg h1, if_neg (show ¬ q + 1 = N by omega)]
set_option maxRecDepth 100000 in
set_option maxHeartbeats 4000000 in
theorem K_dropHold_lp {l : Launch} {G : tp_G} {b : Nat} {h9 : tp_H} {u : Nat → Int32} {π ρ : Nat → Nat} (hl : l.stackTraces = false) (hT : kb_S G b h9 u π ρ h9) {j N : Nat} (hu8 : u 8 = nI N) (hN : N ≤ 8) : ∀ d (i : Nat), j < i → i + d = N → tp_Run l G mX0_dropHold (tp_rm mX0_dropHold 0 0) (tp_QM G 0 0 (tp_PS (none) (fun h1 => ∃ π1 ρ1, kb_S G b h9 (k_drop u N j) π1 ρ1 h1)) tp_NX) 0 0 (h9.1, tp_up h9.2 (b + 4) (.inl (G.2.2.1 4, 8, .inr (.inr (.inr (.inr (k_mv b π j i))))))) 36 [some (.ref b), some (.int (nI j)), some (.ref (b + 22 + π j)), some (.int (nI i))] [] := by
  intro d
  induction d with
  | zero =>
    intro i hi hd
    refine r_iload3 dX0_dropHold_36 ?_
    refine r_aload0 dX0_dropHold_37 ?_
    refine r_getf dX0_dropHold_38 f_X0_66 ((tp_up_n (by omega)).trans hT.ob) rfl ?_
    refine r_icmp_ge (tgt := 64) dX0_dropHold_41 (by decide) (fun c41 => ?_) (fun c41 => ?_)
    · refine r_aload0 dX0_dropHold_64 ?_
      refine r_getf dX0_dropHold_65 f_X0_37 ((tp_up_n (by omega)).trans hT.ob) rfl ?_
      refine r_aload0 dX0_dropHold_68 ?_
      refine r_getf dX0_dropHold_69 f_X0_66 ((tp_up_n (by omega)).trans hT.ob) rfl ?_
      refine r_iconst (v := 1) dX0_dropHold_72 (by decide) ?_
      refine r_isub dX0_dropHold_73 ?_
      refine r_aload2 dX0_dropHold_74 ?_
      refine r_aast dX0_dropHold_75 (t := 4) (by decide) tp_up_s ((tp_up_n (by omega)).trans (hT.ho (j := j) (by omega))) rfl (i := N - 1) (by rw [hu8]; exact tp_m1 (by omega)) (by omega) (by decide) ?_
      rw [tp_up_up, show i = N by omega, k_mv2 (show j < N by omega) (by omega)]
      have hT := hT.perm (fun q hq => ⟨k_sig_lt (show j < N by omega) hN hq, k_tau_sig (by omega)⟩) (fun q hq => ⟨k_tau_lt (show j < N by omega) hN hq, k_sig_tau (by omega)⟩) rfl
      refine r_aload0 dX0_dropHold_76 ?_
      refine r_dup dX0_dropHold_77 rfl ?_
      refine r_getf dX0_dropHold_78 f_X0_66 (hT.ob) rfl ?_
      refine r_iconst (v := 1) dX0_dropHold_81 (by decide) ?_
      refine r_isub dX0_dropHold_82 ?_
      rw [k_perm_n (by omega)]
      refine kb_put_openHolds dX0_dropHold_83 f_X0_66 hT (fun h1 hT => ?_)
      exact r_vret dX0_dropHold_86 rfl ⟨(Nat.le_of_ble_eq_true rfl), (Nat.le_of_ble_eq_true rfl)⟩ ⟨rfl, _, _, hT⟩
    · rw [hu8, tp_le (by omega) (by omega)] at c41; omega
  | succ d ih =>
    intro i hi hd
    refine r_iload3 dX0_dropHold_36 ?_
    refine r_aload0 dX0_dropHold_37 ?_
    refine r_getf dX0_dropHold_38 f_X0_66 ((tp_up_n (by omega)).trans hT.ob) rfl ?_
    refine r_icmp_ge (tgt := 64) dX0_dropHold_41 (by decide) (fun c41 => ?_) (fun c41 => ?_)
    · rw [hu8, tp_le (by omega) (by omega)] at c41; omega
    · refine r_aload0 dX0_dropHold_44 ?_
      refine r_getf dX0_dropHold_45 f_X0_37 ((tp_up_n (by omega)).trans hT.ob) rfl ?_
      refine r_iload3 dX0_dropHold_48 ?_
      refine r_iconst (v := 1) dX0_dropHold_49 (by decide) ?_
      refine r_isub dX0_dropHold_50 ?_
      refine r_aload0 dX0_dropHold_51 ?_
      refine r_getf dX0_dropHold_52 f_X0_37 ((tp_up_n (by omega)).trans hT.ob) rfl ?_
      refine r_iload3 dX0_dropHold_55 ?_
      refine r_aald (t := 4) dX0_dropHold_56 (by decide) tp_up_s (i := i) rfl (by omega) (by decide) (show k_mv b π j i i = some (b + 22 + π i) from (if_neg (by omega)).trans (kFp_at (by omega))) ?_
      refine r_aast dX0_dropHold_57 (t := 4) (by decide) tp_up_s ((tp_up_n (by omega)).trans (hT.ho (j := i) (by omega))) rfl (i := i - 1) (tp_m1 (by omega)) (by omega) (by decide) ?_
      rw [tp_up_up, k_mv1 hi (by omega)]
      refine r_iinc3 (v := nI (i + 1)) dX0_dropHold_58 (Nat.le_of_ble_eq_true rfl) rfl (tp_inc i) ?_
      exact r_goto (tgt := 36) dX0_dropHold_61 (by decide) (ih (i + 1) (by omega) (by omega))

set_option maxRecDepth 100000 in
set_option maxHeartbeats 4000000 in
theorem K_dropHold {l : Launch} {G : tp_G} {b : Nat} {h0 h : tp_H} {u : Nat → Int32} {π ρ : Nat → Nat} (hl : l.stackTraces = false) (hT0 : kb_S G b h0 u π ρ h) {j N : Nat} (hu8 : u 8 = nI N) (hN : N ≤ 8) (hj : j < N) : tp_Met l G mX0_dropHold 0 0 [.ref b, .int (nI j)] h (tp_PS (none) (fun h1 => ∃ π1 ρ1, kb_S G b h (k_drop u N j) π1 ρ1 h1)) tp_NX := by
  have hT := hT0.self
  refine tp_start (L0 := [some (.ref b), some (.int (nI j)), none, none]) (by decide) rfl hl (Nat.le_of_ble_eq_true rfl) rfl ?_
  refine r_iload1 dX0_dropHold_0 ?_
  refine r_if_lt (tgt := 24) dX0_dropHold_1 (by decide) (fun c1 => ?_) (fun c1 => ?_)
  · exact absurd c1 (nI_pos (by omega))
  · refine r_iload1 dX0_dropHold_4 ?_
    refine r_aload0 dX0_dropHold_5 ?_
    refine r_getf dX0_dropHold_6 f_X0_66 (hT.ob) rfl ?_
    refine r_icmp_ge (tgt := 24) dX0_dropHold_9 (by decide) (fun c9 => ?_) (fun c9 => ?_)
    · rw [hu8, tp_le (by omega) (by omega)] at c9
      omega
    · refine r_aload0 dX0_dropHold_12 ?_
      refine r_getf dX0_dropHold_13 f_X0_66 (hT.ob) rfl ?_
      refine r_aload0 dX0_dropHold_16 ?_
      refine r_getf dX0_dropHold_17 f_X0_37 (hT.ob) rfl ?_
      refine r_alen dX0_dropHold_20 (t := 4) (by decide) hT.hos ?_
      refine r_icmp_le (tgt := 25) dX0_dropHold_21 (by decide) (fun c21 => ?_) (fun c21 => ?_)
      · refine r_aload0 dX0_dropHold_25 ?_
        refine r_getf dX0_dropHold_26 f_X0_37 (hT.ob) rfl ?_
        refine r_iload1 dX0_dropHold_29 ?_
        refine r_aald (t := 4) dX0_dropHold_30 (by decide) hT.hos (i := j) (rfl) (by omega) (by decide) (kFp_at (by omega)) ?_
        refine r_astore2 dX0_dropHold_31 (Nat.le_of_ble_eq_true rfl) rfl ?_
        refine r_iload1 dX0_dropHold_32 ?_
        refine r_iconst (v := 1) dX0_dropHold_33 (by decide) ?_
        refine r_iadd dX0_dropHold_34 ?_
        refine r_istore3 dX0_dropHold_35 (Nat.le_of_ble_eq_true rfl) rfl ?_
        rw [tp_1]
        have q := K_dropHold_lp hl hT hu8 hN (j := j) (N - (j + 1)) (j + 1) (by omega) (by omega)
        rw [k_mv0] at q
        rw [show (h.1, tp_up h.2 (b + 4) (.inl (G.2.2.1 4, 8, .inr (.inr (.inr (.inr (kFp (b + 22) 8 π))))))) = h from by
          refine Prod.ext rfl (funext fun a => ?_)
          show tp_up h.2 (b + 4) _ a = h.2 a
          by_cases e : a = b + 4
          · rw [e, tp_up_s, hT.hos]
          · exact tp_up_n e] at q
        exact q
      · rw [hu8, tp_le (by omega) (show 8 < 2 ^ 31 by decide)] at c21
        exact absurd hN c21

def k_sweep : Nat → (Nat → Int32) → Int32 → (Nat → Int32) × Int32
  | 0, u, g => (u, g)
  | i + 1, u, g => if u 3 < u 4 - u (96 + 5 * i + 4) then k_sweep i (k_drop u (z_n (u 8)) i) (g + 1) else k_sweep i u g
theorem k_drop_8 {u : Nat → Int32} {N j : Nat} : k_drop u N j 8 = u 8 - 1 := va_up_eq _ _ _
set_option maxRecDepth 100000 in
set_option maxHeartbeats 4000000 in
theorem K_dropOldHolds_lp {l : Launch} {G : tp_G} {b : Nat} {h9 : tp_H} (hl : l.stackTraces = false) : ∀ (i : Nat) (u' : Nat → Int32) (π' ρ' : Nat → Nat) (N : Nat) (g : Int32) (h1 : tp_H), kb_S G b h9 u' π' ρ' h1 → u' 8 = nI N → i ≤ N → N ≤ 8 → tp_Run l G mX0_dropOldHolds (tp_rm mX0_dropOldHolds 0 0) (tp_QM G 0 0 (tp_PS (some (.int (k_sweep i u' g).2)) (fun h2 => ∃ π1 ρ1, kb_S G b h9 (k_sweep i u' g).1 π1 ρ1 h2)) tp_NX) 0 0 h1 9 [some (.ref b), some (.int g), some (.int (nI i - 1))] [] := by
  intro i
  induction i with
  | zero =>
    intro u' π' ρ' N g h1 hT hu8 hi hN
    refine r_iload2 dX0_dropOldHolds_9 ?_
    refine r_if_lt (tgt := 50) dX0_dropOldHolds_10 (by decide) (fun c10 => ?_) (fun c10 => ?_)
    · refine r_iload1 dX0_dropOldHolds_50 ?_
      exact r_iret dX0_dropOldHolds_51 rfl ⟨(Nat.le_of_ble_eq_true rfl), (Nat.le_of_ble_eq_true rfl)⟩ ⟨rfl, π', ρ', hT⟩
    · exact absurd (show nI 0 - 1 < 0 by decide) c10
  | succ i ih =>
    intro u' π' ρ' N g h1 hT hu8 hi hN
    have e0 : nI (i + 1) - 1 = nI i := nI_pred i
    rw [e0]
    refine r_iload2 dX0_dropOldHolds_9 ?_
    refine r_if_lt (tgt := 50) dX0_dropOldHolds_10 (by decide) (fun c10 => ?_) (fun c10 => ?_)
    · exact absurd c10 (nI_pos (by omega))
    · refine r_aload0 dX0_dropOldHolds_13 ?_
      refine r_getf dX0_dropOldHolds_14 f_X0_52 (hT.ob) rfl ?_
      refine r_aload0 dX0_dropOldHolds_17 ?_
      refine r_getf dX0_dropOldHolds_18 f_X0_37 (hT.ob) rfl ?_
      refine r_iload2 dX0_dropOldHolds_21 ?_
      refine r_aald (t := 4) dX0_dropOldHolds_22 (by decide) hT.hos (i := i) (rfl) (by omega) (by decide) (kFp_at (by omega)) ?_
      refine r_getf dX0_dropOldHolds_23 f_X0_172 (hT.ho (j := i) (by omega)) rfl ?_
      refine r_isub dX0_dropOldHolds_26 ?_
      refine r_aload0 dX0_dropOldHolds_27 ?_
      refine r_getf dX0_dropOldHolds_28 f_X0_18 (hT.ob) rfl ?_
      refine r_iconst (v := 3) dX0_dropOldHolds_31 (by decide) ?_
      refine r_iald dX0_dropOldHolds_32 hT.se (i := 3) rfl (by omega) (by decide) ?_
      refine r_icmp_le (tgt := 44) dX0_dropOldHolds_33 (by decide) (fun c33 => ?_) (fun c33 => ?_)
      · have e45 : k_sweep (i + 1) u' g = k_sweep i u' g := if_neg (Int32.not_lt.mpr c33)
        rw [e45]
        refine r_iinc2 (v := nI i - 1) dX0_dropOldHolds_44 (Nat.le_of_ble_eq_true rfl) rfl (tp_dec _) ?_
        exact r_goto (tgt := 9) dX0_dropOldHolds_47 (by decide) (by first | exact ih u' π' ρ' N g h1 hT hu8 (by omega) hN | exact ih (k_drop u' N i) π2 ρ2 (N - 1) (g + 1) h1 hT (by rw [k_drop_8, hu8]; exact tp_m1 (by omega)) (by omega) (by omega))
      · have e45 : k_sweep (i + 1) u' g = k_sweep i (k_drop u' N i) (g + 1) := by
          show (if _ then _ else _) = _
          rw [hu8, z_nI (by omega)]
          exact if_pos (Int32.not_le.mp c33)
        rw [e45]
        refine r_aload0 dX0_dropOldHolds_36 ?_
        refine r_iload2 dX0_dropOldHolds_37 ?_
        refine r_sV0 dX0_dropOldHolds_38 v_X0_173 (K_dropHold hl hT hu8 hN (j := i) (by omega)) rfl (hT.ob) rfl rfl rfl (Nat.le_of_ble_eq_true rfl) ⟨(Nat.le_of_ble_eq_true rfl), (Nat.le_of_ble_eq_true rfl)⟩ ⟨(Nat.le_of_ble_eq_true rfl), (Nat.le_of_ble_eq_true rfl)⟩ (fun h1 hP => ?_)
        obtain ⟨π2, ρ2, hP⟩ := hP
        have hT := hT.trans hP
        refine r_iinc1 (v := g + 1) dX0_dropOldHolds_41 (Nat.le_of_ble_eq_true rfl) rfl rfl ?_
        refine r_iinc2 (v := nI i - 1) dX0_dropOldHolds_44 (Nat.le_of_ble_eq_true rfl) rfl (tp_dec _) ?_
        exact r_goto (tgt := 9) dX0_dropOldHolds_47 (by decide) (by first | exact ih u' π' ρ' N g h1 hT hu8 (by omega) hN | exact ih (k_drop u' N i) π2 ρ2 (N - 1) (g + 1) h1 hT (by rw [k_drop_8, hu8]; exact tp_m1 (by omega)) (by omega) (by omega))

set_option maxRecDepth 100000 in
set_option maxHeartbeats 4000000 in
theorem K_dropOldHolds {l : Launch} {G : tp_G} {b : Nat} {h0 h : tp_H} {u : Nat → Int32} {π ρ : Nat → Nat} (hl : l.stackTraces = false) (hT0 : kb_S G b h0 u π ρ h) {N : Nat} (hu8 : u 8 = nI N) (hN : N ≤ 8) : tp_Met l G mX0_dropOldHolds 0 0 [.ref b] h (tp_PS (some (.int (k_sweep N u 0).2)) (fun h1 => ∃ π1 ρ1, kb_S G b h (k_sweep N u 0).1 π1 ρ1 h1)) tp_NX := by
  have hT := hT0.self
  refine tp_start (L0 := [some (.ref b), none, none]) (by decide) rfl hl (Nat.le_of_ble_eq_true rfl) rfl ?_
  refine r_iconst (v := 0) dX0_dropOldHolds_0 (by decide) ?_
  refine r_istore1 dX0_dropOldHolds_1 (Nat.le_of_ble_eq_true rfl) rfl ?_
  refine r_aload0 dX0_dropOldHolds_2 ?_
  refine r_getf dX0_dropOldHolds_3 f_X0_66 (hT.ob) rfl ?_
  refine r_iconst (v := 1) dX0_dropOldHolds_6 (by decide) ?_
  refine r_isub dX0_dropOldHolds_7 ?_
  refine r_istore2 dX0_dropOldHolds_8 (Nat.le_of_ble_eq_true rfl) rfl ?_
  rw [hu8]
  exact K_dropOldHolds_lp hl N u π ρ N 0 h hT hu8 (Nat.le_refl _) hN

