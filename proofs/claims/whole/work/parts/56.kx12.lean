section KRX
variable {G : tp_G} {r : Nat} {h0 h : tp_H} {rd : Nat → Int32}
theorem kr_S.self (hT : kr_S G r h0 rd h) : kr_S G r h rd h := ⟨hT.1, rfl, fun _ _ => rfl⟩
theorem kr_S.trans {h1 : tp_H} {rd' : Nat → Int32} (hT : kr_S G r h0 rd h) (h2 : kr_S G r h rd' h1) : kr_S G r h0 rd' h1 := ⟨h2.1, h2.2.1.trans hT.2.1, fun a ha => (h2.2.2 a ha).trans (hT.2.2 a ha)⟩
theorem kr_S.ext {rd' : Nat → Int32} (hT : kr_S G r h0 rd h) (e : ∀ j, j < 7 → rd j = rd' j) : kr_S G r h0 rd' h := by
  refine ⟨?_, hT.2⟩
  have : kr_l rd = kr_l rd' := by unfold kr_l; rw [e 0 (by omega), e 1 (by omega), e 2 (by omega), e 3 (by omega), e 4 (by omega), e 5 (by omega), e 6 (by omega)]
  rw [← this]
  exact hT.1
end KRX
def k_due (s : Int32) : Nat := if s = 108 then 1 else if s = 120 then 3 else 2
theorem tp_b_fit {p : Prop} [Decidable p] : narrow .boolean (.int (tp_b p)) = .int (tp_b p) ∧ fits .boolean (.int (tp_b p)) = true := by
  by_cases h : p
  · rw [tp_b_t h]; exact ⟨rfl, rfl⟩
  · rw [tp_b_f h]; exact ⟨rfl, rfl⟩
set_option maxRecDepth 100000 in
set_option maxHeartbeats 4000000 in
theorem R_startOrder {l : Launch} {G : tp_G} {r : Nat} {h0 h : tp_H} {rd : Nat → Int32} (hl : l.stackTraces = false) (hT0 : kr_S G r h0 rd h)  : tp_Met l G mX2_startOrder 0 0 [.ref r] h (tp_PS (none) (fun h1 => kr_S G r h (fun _ => 0) h1)) tp_NX := by
  have hT := hT0.self
  refine tp_start (L0 := [some (.ref r)]) (by decide) rfl hl (Nat.le_of_ble_eq_true rfl) rfl ?_
  refine r_aload0 dX2_startOrder_0 ?_
  refine r_iconst (v := 0) dX2_startOrder_1 (by decide) ?_
  refine kr_put_0 dX2_startOrder_2 f_X2_9 hT (fun h1 hT => ?_)
  refine r_aload0 dX2_startOrder_5 ?_
  refine r_iconst (v := 0) dX2_startOrder_6 (by decide) ?_
  refine kr_put_1 dX2_startOrder_7 f_X2_15 hT (fun h1 hT => ?_)
  refine r_aload0 dX2_startOrder_10 ?_
  refine r_iconst (v := 0) dX2_startOrder_11 (by decide) ?_
  refine kr_put_2 dX2_startOrder_12 f_X2_18 hT (fun h1 hT => ?_)
  refine r_aload0 dX2_startOrder_15 ?_
  refine r_iconst (v := 0) dX2_startOrder_16 (by decide) ?_
  refine kr_put_3 dX2_startOrder_17 f_X2_21 hT (fun h1 hT => ?_)
  refine r_aload0 dX2_startOrder_20 ?_
  refine r_iconst (v := 0) dX2_startOrder_21 (by decide) ?_
  refine kr_put_4 dX2_startOrder_22 f_X2_24 hT (fun h1 hT => ?_)
  refine r_aload0 dX2_startOrder_25 ?_
  refine r_iconst (v := 0) dX2_startOrder_26 (by decide) ?_
  refine kr_put_5 dX2_startOrder_27 f_X2_27 hT (fun h1 hT => ?_)
  refine r_aload0 dX2_startOrder_30 ?_
  refine r_iconst (v := 0) dX2_startOrder_31 (by decide) ?_
  refine kr_put_6 dX2_startOrder_32 f_X2_30 hT ⟨rfl, rfl⟩ (fun h1 hT => ?_)
  exact r_vret dX2_startOrder_35 rfl ⟨(Nat.le_of_ble_eq_true rfl), (Nat.le_of_ble_eq_true rfl)⟩ ⟨rfl, hT.ext (fun j hj => by rcases (show j = 0 ∨ j = 1 ∨ j = 2 ∨ j = 3 ∨ j = 4 ∨ j = 5 ∨ j = 6 by omega) with rfl | rfl | rfl | rfl | rfl | rfl | rfl <;> rfl)⟩

set_option maxRecDepth 100000 in
set_option maxHeartbeats 4000000 in
theorem R_isOrderWhole {l : Launch} {G : tp_G} {r : Nat} {h0 h : tp_H} {rd : Nat → Int32} (hl : l.stackTraces = false) (hT0 : kr_S G r h0 rd h)  : tp_Met l G mX2_isOrderWhole 0 0 [.ref r] h (tp_PR (.int (tp_b (0 < rd 4))) h) tp_NX := by
  have hT := hT0.self
  refine tp_start (L0 := [some (.ref r)]) (by decide) rfl hl (Nat.le_of_ble_eq_true rfl) rfl ?_
  refine r_aload0 dX2_isOrderWhole_0 ?_
  refine r_getf dX2_isOrderWhole_1 f_X2_24 (hT.1) rfl ?_
  refine r_if_le (tgt := 11) dX2_isOrderWhole_4 (by decide) (fun c4 => ?_) (fun c4 => ?_)
  · refine r_iconst (v := 0) dX2_isOrderWhole_11 (by decide) ?_
    exact r_zret dX2_isOrderWhole_12 rfl ⟨(Nat.le_of_ble_eq_true rfl), (Nat.le_of_ble_eq_true rfl)⟩ rfl ⟨by first | (rw [tp_b_t (Int32.not_le.mp c4)]; done) | (rw [tp_b_f (Int32.not_lt.mpr c4)]; done), rfl⟩
  · refine r_iconst (v := 1) dX2_isOrderWhole_7 (by decide) ?_
    refine r_goto (tgt := 12) dX2_isOrderWhole_8 (by decide) ?_
    exact r_zret dX2_isOrderWhole_12 rfl ⟨(Nat.le_of_ble_eq_true rfl), (Nat.le_of_ble_eq_true rfl)⟩ rfl ⟨by first | (rw [tp_b_t (Int32.not_le.mp c4)]; done) | (rw [tp_b_f (Int32.not_lt.mpr c4)]; done), rfl⟩

set_option maxRecDepth 100000 in
set_option maxHeartbeats 4000000 in
theorem R_digitsDue {l : Launch} {G : tp_G} {r : Nat} {h0 h : tp_H} {rd : Nat → Int32} (hl : l.stackTraces = false) (hT0 : kr_S G r h0 rd h)  : tp_Met l G mX2_digitsDue 0 0 [.ref r] h (tp_PR (.int (nI (k_due (rd 0)))) h) tp_NX := by
  have hT := hT0.self
  refine tp_start (L0 := [some (.ref r)]) (by decide) rfl hl (Nat.le_of_ble_eq_true rfl) rfl ?_
  refine r_aload0 dX2_digitsDue_0 ?_
  refine r_getf dX2_digitsDue_1 f_X2_9 (hT.1) rfl ?_
  refine r_bipush (v := 108) dX2_digitsDue_4 (by decide) ?_
  refine r_icmp_ne (tgt := 11) dX2_digitsDue_6 (by decide) (fun c6 => ?_) (fun c6 => ?_)
  · refine r_aload0 dX2_digitsDue_11 ?_
    refine r_getf dX2_digitsDue_12 f_X2_9 (hT.1) rfl ?_
    refine r_bipush (v := 120) dX2_digitsDue_15 (by decide) ?_
    refine r_icmp_ne (tgt := 24) dX2_digitsDue_17 (by decide) (fun c17 => ?_) (fun c17 => ?_)
    · refine r_iconst (v := 2) dX2_digitsDue_24 (by decide) ?_
      exact r_iret dX2_digitsDue_25 rfl ⟨(Nat.le_of_ble_eq_true rfl), (Nat.le_of_ble_eq_true rfl)⟩ ⟨by unfold k_due; first | (rw [if_pos c6]; rfl) | (rw [if_neg c6, if_pos c17]; rfl) | (rw [if_neg c6, if_neg c17]; rfl), rfl⟩
    · refine r_iconst (v := 3) dX2_digitsDue_20 (by decide) ?_
      refine r_goto (tgt := 25) dX2_digitsDue_21 (by decide) ?_
      exact r_iret dX2_digitsDue_25 rfl ⟨(Nat.le_of_ble_eq_true rfl), (Nat.le_of_ble_eq_true rfl)⟩ ⟨by unfold k_due; first | (rw [if_pos c6]; rfl) | (rw [if_neg c6, if_pos c17]; rfl) | (rw [if_neg c6, if_neg c17]; rfl), rfl⟩
  · refine r_iconst (v := 1) dX2_digitsDue_9 (by decide) ?_
    exact r_iret dX2_digitsDue_10 rfl ⟨(Nat.le_of_ble_eq_true rfl), (Nat.le_of_ble_eq_true rfl)⟩ ⟨by unfold k_due; first | (rw [if_pos c6]; rfl) | (rw [if_neg c6, if_pos c17]; rfl) | (rw [if_neg c6, if_neg c17]; rfl), rfl⟩

set_option maxRecDepth 100000 in
set_option maxHeartbeats 4000000 in
theorem R_readsSign {l : Launch} {G : tp_G} {r : Nat} {h0 h : tp_H} {rd : Nat → Int32} (hl : l.stackTraces = false) (hT0 : kr_S G r h0 rd h) {c : Int32} : tp_Met l G mX2_readsSign 0 0 [.ref r, .int c] h (tp_PS (some (.int (tp_b (c = 108 ∨ c = 120 ∨ c = 104)))) (fun h1 => kr_S G r h (if (c = 108 ∨ c = 120 ∨ c = 104) then va_up rd 0 c else rd) h1)) tp_NX := by
  have hT := hT0.self
  refine tp_start (L0 := [some (.ref r), some (.int c)]) (by decide) rfl hl (Nat.le_of_ble_eq_true rfl) rfl ?_
  refine r_iload1 dX2_readsSign_0 ?_
  refine r_bipush (v := 108) dX2_readsSign_1 (by decide) ?_
  refine r_icmp_eq (tgt := 20) dX2_readsSign_3 (by decide) (fun c3 => ?_) (fun c3 => ?_)
  · refine r_aload0 dX2_readsSign_20 ?_
    refine r_iload1 dX2_readsSign_21 ?_
    refine kr_put_0 dX2_readsSign_22 f_X2_9 hT (fun h1 hT => ?_)
    refine r_iconst (v := 1) dX2_readsSign_25 (by decide) ?_
    exact r_zret dX2_readsSign_26 rfl ⟨(Nat.le_of_ble_eq_true rfl), (Nat.le_of_ble_eq_true rfl)⟩ rfl (by first | (have e : (c = 108 ∨ c = 120 ∨ c = 104) := Or.inl c3; exact ⟨by rw [tp_b_t e], by rw [if_pos e]; exact hT⟩) | (have e : (c = 108 ∨ c = 120 ∨ c = 104) := Or.inr (Or.inl c9); exact ⟨by rw [tp_b_t e], by rw [if_pos e]; exact hT⟩) | (have e : (c = 108 ∨ c = 120 ∨ c = 104) := Or.inr (Or.inr c15); exact ⟨by rw [tp_b_t e], by rw [if_pos e]; exact hT⟩) | (have e : ¬ (c = 108 ∨ c = 120 ∨ c = 104) := fun q => q.elim c3 (fun q => q.elim c9 c15); exact ⟨by rw [tp_b_f e], by rw [if_neg e]; exact hT⟩))
  · refine r_iload1 dX2_readsSign_6 ?_
    refine r_bipush (v := 120) dX2_readsSign_7 (by decide) ?_
    refine r_icmp_eq (tgt := 20) dX2_readsSign_9 (by decide) (fun c9 => ?_) (fun c9 => ?_)
    · refine r_aload0 dX2_readsSign_20 ?_
      refine r_iload1 dX2_readsSign_21 ?_
      refine kr_put_0 dX2_readsSign_22 f_X2_9 hT (fun h1 hT => ?_)
      refine r_iconst (v := 1) dX2_readsSign_25 (by decide) ?_
      exact r_zret dX2_readsSign_26 rfl ⟨(Nat.le_of_ble_eq_true rfl), (Nat.le_of_ble_eq_true rfl)⟩ rfl (by first | (have e : (c = 108 ∨ c = 120 ∨ c = 104) := Or.inl c3; exact ⟨by rw [tp_b_t e], by rw [if_pos e]; exact hT⟩) | (have e : (c = 108 ∨ c = 120 ∨ c = 104) := Or.inr (Or.inl c9); exact ⟨by rw [tp_b_t e], by rw [if_pos e]; exact hT⟩) | (have e : (c = 108 ∨ c = 120 ∨ c = 104) := Or.inr (Or.inr c15); exact ⟨by rw [tp_b_t e], by rw [if_pos e]; exact hT⟩) | (have e : ¬ (c = 108 ∨ c = 120 ∨ c = 104) := fun q => q.elim c3 (fun q => q.elim c9 c15); exact ⟨by rw [tp_b_f e], by rw [if_neg e]; exact hT⟩))
    · refine r_iload1 dX2_readsSign_12 ?_
      refine r_bipush (v := 104) dX2_readsSign_13 (by decide) ?_
      refine r_icmp_eq (tgt := 20) dX2_readsSign_15 (by decide) (fun c15 => ?_) (fun c15 => ?_)
      · refine r_aload0 dX2_readsSign_20 ?_
        refine r_iload1 dX2_readsSign_21 ?_
        refine kr_put_0 dX2_readsSign_22 f_X2_9 hT (fun h1 hT => ?_)
        refine r_iconst (v := 1) dX2_readsSign_25 (by decide) ?_
        exact r_zret dX2_readsSign_26 rfl ⟨(Nat.le_of_ble_eq_true rfl), (Nat.le_of_ble_eq_true rfl)⟩ rfl (by first | (have e : (c = 108 ∨ c = 120 ∨ c = 104) := Or.inl c3; exact ⟨by rw [tp_b_t e], by rw [if_pos e]; exact hT⟩) | (have e : (c = 108 ∨ c = 120 ∨ c = 104) := Or.inr (Or.inl c9); exact ⟨by rw [tp_b_t e], by rw [if_pos e]; exact hT⟩) | (have e : (c = 108 ∨ c = 120 ∨ c = 104) := Or.inr (Or.inr c15); exact ⟨by rw [tp_b_t e], by rw [if_pos e]; exact hT⟩) | (have e : ¬ (c = 108 ∨ c = 120 ∨ c = 104) := fun q => q.elim c3 (fun q => q.elim c9 c15); exact ⟨by rw [tp_b_f e], by rw [if_neg e]; exact hT⟩))
      · refine r_iconst (v := 0) dX2_readsSign_18 (by decide) ?_
        exact r_zret dX2_readsSign_19 rfl ⟨(Nat.le_of_ble_eq_true rfl), (Nat.le_of_ble_eq_true rfl)⟩ rfl (by first | (have e : (c = 108 ∨ c = 120 ∨ c = 104) := Or.inl c3; exact ⟨by rw [tp_b_t e], by rw [if_pos e]; exact hT⟩) | (have e : (c = 108 ∨ c = 120 ∨ c = 104) := Or.inr (Or.inl c9); exact ⟨by rw [tp_b_t e], by rw [if_pos e]; exact hT⟩) | (have e : (c = 108 ∨ c = 120 ∨ c = 104) := Or.inr (Or.inr c15); exact ⟨by rw [tp_b_t e], by rw [if_pos e]; exact hT⟩) | (have e : ¬ (c = 108 ∨ c = 120 ∨ c = 104) := fun q => q.elim c3 (fun q => q.elim c9 c15); exact ⟨by rw [tp_b_f e], by rw [if_neg e]; exact hT⟩))

set_option maxRecDepth 100000 in
set_option maxHeartbeats 4000000 in
theorem R_readsDigit {l : Launch} {G : tp_G} {r : Nat} {h0 h : tp_H} {rd : Nat → Int32} (hl : l.stackTraces = false) (hT0 : kr_S G r h0 rd h) {c : Int32} {q : Nat} (hq : rd 5 = nI q) (hq3 : q < 3) : tp_Met l G mX2_readsDigit 0 0 [.ref r, .int c] h (tp_PS (some (.int (tp_b (48 ≤ c ∧ c ≤ 51)))) (fun h1 => kr_S G r h (if (48 ≤ c ∧ c ≤ 51) then va_up (va_up rd (q + 1) (c - 48)) 5 (nI (q + 1)) else rd) h1)) tp_NX := by
  have hT := hT0.self
  refine tp_start (L0 := [some (.ref r), some (.int c), none]) (by decide) rfl hl (Nat.le_of_ble_eq_true rfl) rfl ?_
  refine r_iload1 dX2_readsDigit_0 ?_
  refine r_bipush (v := 48) dX2_readsDigit_1 (by decide) ?_
  refine r_icmp_lt (tgt := 12) dX2_readsDigit_3 (by decide) (fun c3 => ?_) (fun c3 => ?_)
  · refine r_iconst (v := 0) dX2_readsDigit_12 (by decide) ?_
    exact r_zret dX2_readsDigit_13 rfl ⟨(Nat.le_of_ble_eq_true rfl), (Nat.le_of_ble_eq_true rfl)⟩ rfl (by first | (have e : ¬ (48 ≤ c ∧ c ≤ 51) := fun z => absurd z.1 (Int32.not_le.mpr c3); exact ⟨by rw [tp_b_f e], by rw [if_neg e]; exact hT⟩) | (have e : ¬ (48 ≤ c ∧ c ≤ 51) := fun z => c9 z.2; exact ⟨by rw [tp_b_f e], by rw [if_neg e]; exact hT⟩) | (have e : (48 ≤ c ∧ c ≤ 51) := ⟨Int32.not_lt.mp c3, c9⟩; exact ⟨by rw [tp_b_t e], by rw [if_pos e]; first | (have e2 : q = 0 := e23; rw [e2] at hT ⊢; exact hT) | (have e2 : q = 1 := e39; rw [e2] at hT ⊢; exact hT) | (have e2 : q = 2 := (by omega); rw [e2] at hT ⊢; exact hT)⟩))
  · refine r_iload1 dX2_readsDigit_6 ?_
    refine r_bipush (v := 51) dX2_readsDigit_7 (by decide) ?_
    refine r_icmp_le (tgt := 14) dX2_readsDigit_9 (by decide) (fun c9 => ?_) (fun c9 => ?_)
    · refine r_iload1 dX2_readsDigit_14 ?_
      refine r_bipush (v := 48) dX2_readsDigit_15 (by decide) ?_
      refine r_isub dX2_readsDigit_17 ?_
      refine r_istore2 dX2_readsDigit_18 (Nat.le_of_ble_eq_true rfl) rfl ?_
      refine r_aload0 dX2_readsDigit_19 ?_
      refine r_getf dX2_readsDigit_20 f_X2_27 (hT.1) rfl ?_
      refine r_if_ne (tgt := 34) dX2_readsDigit_23 (by decide) (fun c23 => ?_) (fun c23 => ?_)
      · have e23 : ¬ q = 0 := by
          have z := tp_eq (show q < 2 ^ 31 by omega) (show 0 < 2 ^ 31 by omega)
          rw [hq] at c23
          first | exact z.mp c23 | exact fun z2 => c23 (z.mpr z2)
        refine r_aload0 dX2_readsDigit_34 ?_
        refine r_getf dX2_readsDigit_35 f_X2_27 (hT.1) rfl ?_
        refine r_iconst (v := 1) dX2_readsDigit_38 (by decide) ?_
        refine r_icmp_ne (tgt := 50) dX2_readsDigit_39 (by decide) (fun c39 => ?_) (fun c39 => ?_)
        · have e39 : ¬ q = 1 := by
            have z := tp_eq (show q < 2 ^ 31 by omega) (show 1 < 2 ^ 31 by omega)
            rw [hq] at c39
            first | exact z.mp c39 | exact fun z2 => c39 (z.mpr z2)
          refine r_aload0 dX2_readsDigit_50 ?_
          refine r_iload2 dX2_readsDigit_51 ?_
          refine kr_put_3 dX2_readsDigit_52 f_X2_21 hT (fun h1 hT => ?_)
          refine r_aload0 dX2_readsDigit_55 ?_
          refine r_dup dX2_readsDigit_56 rfl ?_
          refine r_getf dX2_readsDigit_57 f_X2_27 (hT.1) rfl ?_
          refine r_iconst (v := 1) dX2_readsDigit_60 (by decide) ?_
          refine r_iadd dX2_readsDigit_61 ?_
          rw [va_up_ne' _ _ (by omega), hq, tp_1]
          refine kr_put_5 dX2_readsDigit_62 f_X2_27 hT (fun h1 hT => ?_)
          refine r_iconst (v := 1) dX2_readsDigit_65 (by decide) ?_
          exact r_zret dX2_readsDigit_66 rfl ⟨(Nat.le_of_ble_eq_true rfl), (Nat.le_of_ble_eq_true rfl)⟩ rfl (by first | (have e : ¬ (48 ≤ c ∧ c ≤ 51) := fun z => absurd z.1 (Int32.not_le.mpr c3); exact ⟨by rw [tp_b_f e], by rw [if_neg e]; exact hT⟩) | (have e : ¬ (48 ≤ c ∧ c ≤ 51) := fun z => c9 z.2; exact ⟨by rw [tp_b_f e], by rw [if_neg e]; exact hT⟩) | (have e : (48 ≤ c ∧ c ≤ 51) := ⟨Int32.not_lt.mp c3, c9⟩; exact ⟨by rw [tp_b_t e], by rw [if_pos e]; first | (have e2 : q = 0 := e23; rw [e2] at hT ⊢; exact hT) | (have e2 : q = 1 := e39; rw [e2] at hT ⊢; exact hT) | (have e2 : q = 2 := (by omega); rw [e2] at hT ⊢; exact hT)⟩))
        · have e39 : q = 1 := by
            have z := tp_eq (show q < 2 ^ 31 by omega) (show 1 < 2 ^ 31 by omega)
            rw [hq] at c39
            first | exact z.mp c39 | exact fun z2 => c39 (z.mpr z2)
          refine r_aload0 dX2_readsDigit_42 ?_
          refine r_iload2 dX2_readsDigit_43 ?_
          refine kr_put_2 dX2_readsDigit_44 f_X2_18 hT (fun h1 hT => ?_)
          refine r_goto (tgt := 55) dX2_readsDigit_47 (by decide) ?_
          refine r_aload0 dX2_readsDigit_55 ?_
          refine r_dup dX2_readsDigit_56 rfl ?_
          refine r_getf dX2_readsDigit_57 f_X2_27 (hT.1) rfl ?_
          refine r_iconst (v := 1) dX2_readsDigit_60 (by decide) ?_
          refine r_iadd dX2_readsDigit_61 ?_
          rw [va_up_ne' _ _ (by omega), hq, tp_1]
          refine kr_put_5 dX2_readsDigit_62 f_X2_27 hT (fun h1 hT => ?_)
          refine r_iconst (v := 1) dX2_readsDigit_65 (by decide) ?_
          exact r_zret dX2_readsDigit_66 rfl ⟨(Nat.le_of_ble_eq_true rfl), (Nat.le_of_ble_eq_true rfl)⟩ rfl (by first | (have e : ¬ (48 ≤ c ∧ c ≤ 51) := fun z => absurd z.1 (Int32.not_le.mpr c3); exact ⟨by rw [tp_b_f e], by rw [if_neg e]; exact hT⟩) | (have e : ¬ (48 ≤ c ∧ c ≤ 51) := fun z => c9 z.2; exact ⟨by rw [tp_b_f e], by rw [if_neg e]; exact hT⟩) | (have e : (48 ≤ c ∧ c ≤ 51) := ⟨Int32.not_lt.mp c3, c9⟩; exact ⟨by rw [tp_b_t e], by rw [if_pos e]; first | (have e2 : q = 0 := e23; rw [e2] at hT ⊢; exact hT) | (have e2 : q = 1 := e39; rw [e2] at hT ⊢; exact hT) | (have e2 : q = 2 := (by omega); rw [e2] at hT ⊢; exact hT)⟩))
      · have e23 : q = 0 := by
          have z := tp_eq (show q < 2 ^ 31 by omega) (show 0 < 2 ^ 31 by omega)
          rw [hq] at c23
          first | exact z.mp c23 | exact fun z2 => c23 (z.mpr z2)
        refine r_aload0 dX2_readsDigit_26 ?_
        refine r_iload2 dX2_readsDigit_27 ?_
        refine kr_put_1 dX2_readsDigit_28 f_X2_15 hT (fun h1 hT => ?_)
        refine r_goto (tgt := 55) dX2_readsDigit_31 (by decide) ?_
        refine r_aload0 dX2_readsDigit_55 ?_
        refine r_dup dX2_readsDigit_56 rfl ?_
        refine r_getf dX2_readsDigit_57 f_X2_27 (hT.1) rfl ?_
        refine r_iconst (v := 1) dX2_readsDigit_60 (by decide) ?_
        refine r_iadd dX2_readsDigit_61 ?_
        rw [va_up_ne' _ _ (by omega), hq, tp_1]
        refine kr_put_5 dX2_readsDigit_62 f_X2_27 hT (fun h1 hT => ?_)
        refine r_iconst (v := 1) dX2_readsDigit_65 (by decide) ?_
        exact r_zret dX2_readsDigit_66 rfl ⟨(Nat.le_of_ble_eq_true rfl), (Nat.le_of_ble_eq_true rfl)⟩ rfl (by first | (have e : ¬ (48 ≤ c ∧ c ≤ 51) := fun z => absurd z.1 (Int32.not_le.mpr c3); exact ⟨by rw [tp_b_f e], by rw [if_neg e]; exact hT⟩) | (have e : ¬ (48 ≤ c ∧ c ≤ 51) := fun z => c9 z.2; exact ⟨by rw [tp_b_f e], by rw [if_neg e]; exact hT⟩) | (have e : (48 ≤ c ∧ c ≤ 51) := ⟨Int32.not_lt.mp c3, c9⟩; exact ⟨by rw [tp_b_t e], by rw [if_pos e]; first | (have e2 : q = 0 := e23; rw [e2] at hT ⊢; exact hT) | (have e2 : q = 1 := e39; rw [e2] at hT ⊢; exact hT) | (have e2 : q = 2 := (by omega); rw [e2] at hT ⊢; exact hT)⟩))
    · refine r_iconst (v := 0) dX2_readsDigit_12 (by decide) ?_
      exact r_zret dX2_readsDigit_13 rfl ⟨(Nat.le_of_ble_eq_true rfl), (Nat.le_of_ble_eq_true rfl)⟩ rfl (by first | (have e : ¬ (48 ≤ c ∧ c ≤ 51) := fun z => absurd z.1 (Int32.not_le.mpr c3); exact ⟨by rw [tp_b_f e], by rw [if_neg e]; exact hT⟩) | (have e : ¬ (48 ≤ c ∧ c ≤ 51) := fun z => c9 z.2; exact ⟨by rw [tp_b_f e], by rw [if_neg e]; exact hT⟩) | (have e : (48 ≤ c ∧ c ≤ 51) := ⟨Int32.not_lt.mp c3, c9⟩; exact ⟨by rw [tp_b_t e], by rw [if_pos e]; first | (have e2 : q = 0 := e23; rw [e2] at hT ⊢; exact hT) | (have e2 : q = 1 := e39; rw [e2] at hT ⊢; exact hT) | (have e2 : q = 2 := (by omega); rw [e2] at hT ⊢; exact hT)⟩))

set_option maxRecDepth 100000 in
set_option maxHeartbeats 4000000 in
theorem R_readsAmount {l : Launch} {G : tp_G} {r : Nat} {h0 h : tp_H} {rd : Nat → Int32} (hl : l.stackTraces = false) (hT0 : kr_S G r h0 rd h) {c : Int32} : tp_Met l G mX2_readsAmount 0 0 [.ref r, .int c] h (tp_PS (some (.int (tp_b ((if 0 < rd 4 then 48 else 49) ≤ c ∧ c ≤ 57 ∧ rd 4 ≤ 9999)))) (fun h1 => kr_S G r h (if ((if 0 < rd 4 then 48 else 49) ≤ c ∧ c ≤ 57 ∧ rd 4 ≤ 9999) then va_up rd 4 (rd 4 * 10 + (c - 48)) else rd) h1)) tp_NX := by
  have hT := hT0.self
  refine tp_start (L0 := [some (.ref r), some (.int c), none]) (by decide) rfl hl (Nat.le_of_ble_eq_true rfl) rfl ?_
  refine r_aload0 dX2_readsAmount_0 ?_
  refine r_pV dX2_readsAmount_1 v_X2_45 (R_isOrderWhole hl hT) rfl (hT.1) rfl rfl rfl (Nat.le_of_ble_eq_true rfl) ⟨(Nat.le_of_ble_eq_true rfl), (Nat.le_of_ble_eq_true rfl)⟩ ⟨(Nat.le_of_ble_eq_true rfl), (Nat.le_of_ble_eq_true rfl)⟩ ?_
  refine r_if_eq (tgt := 12) dX2_readsAmount_4 (by decide) (fun c4 => ?_) (fun c4 => ?_)
  · have e4 : (if 0 < rd 4 then (48 : Int32) else 49) = 49 := if_neg (tp_b_0.mp c4)
    have eP : ((if 0 < rd 4 then 48 else 49) ≤ c ∧ c ≤ 57 ∧ rd 4 ≤ 9999) ↔ (49 ≤ c ∧ c ≤ 57 ∧ rd 4 ≤ 9999) := by rw [e4]
    refine r_bipush (v := 49) dX2_readsAmount_12 (by decide) ?_
    refine r_istore2 dX2_readsAmount_14 (Nat.le_of_ble_eq_true rfl) rfl ?_
    refine r_iload1 dX2_readsAmount_15 ?_
    refine r_iload2 dX2_readsAmount_16 ?_
    refine r_icmp_lt (tgt := 36) dX2_readsAmount_17 (by decide) (fun c17 => ?_) (fun c17 => ?_)
    · refine r_iconst (v := 0) dX2_readsAmount_36 (by decide) ?_
      exact r_zret dX2_readsAmount_37 rfl ⟨(Nat.le_of_ble_eq_true rfl), (Nat.le_of_ble_eq_true rfl)⟩ rfl (by first | (have e : ¬ ((if 0 < rd 4 then 48 else 49) ≤ c ∧ c ≤ 57 ∧ rd 4 ≤ 9999) := fun z => absurd (eP.mp z).1 (Int32.not_le.mpr c17); exact ⟨by rw [tp_b_f e], by rw [if_neg e]; exact hT⟩) | (have e : ¬ ((if 0 < rd 4 then 48 else 49) ≤ c ∧ c ≤ 57 ∧ rd 4 ≤ 9999) := fun z => absurd z.2.1 (Int32.not_le.mpr c23); exact ⟨by rw [tp_b_f e], by rw [if_neg e]; exact hT⟩) | (have e : ¬ ((if 0 < rd 4 then 48 else 49) ≤ c ∧ c ≤ 57 ∧ rd 4 ≤ 9999) := fun z => c33 z.2.2; exact ⟨by rw [tp_b_f e], by rw [if_neg e]; exact hT⟩) | (have e : ((if 0 < rd 4 then 48 else 49) ≤ c ∧ c ≤ 57 ∧ rd 4 ≤ 9999) := eP.mpr (And.intro (Int32.not_lt.mp c17) (And.intro (Int32.not_lt.mp c23) c33)); exact ⟨by rw [tp_b_t e], by rw [if_pos e]; exact hT⟩))
    · refine r_iload1 dX2_readsAmount_20 ?_
      refine r_bipush (v := 57) dX2_readsAmount_21 (by decide) ?_
      refine r_icmp_gt (tgt := 36) dX2_readsAmount_23 (by decide) (fun c23 => ?_) (fun c23 => ?_)
      · refine r_iconst (v := 0) dX2_readsAmount_36 (by decide) ?_
        exact r_zret dX2_readsAmount_37 rfl ⟨(Nat.le_of_ble_eq_true rfl), (Nat.le_of_ble_eq_true rfl)⟩ rfl (by first | (have e : ¬ ((if 0 < rd 4 then 48 else 49) ≤ c ∧ c ≤ 57 ∧ rd 4 ≤ 9999) := fun z => absurd (eP.mp z).1 (Int32.not_le.mpr c17); exact ⟨by rw [tp_b_f e], by rw [if_neg e]; exact hT⟩) | (have e : ¬ ((if 0 < rd 4 then 48 else 49) ≤ c ∧ c ≤ 57 ∧ rd 4 ≤ 9999) := fun z => absurd z.2.1 (Int32.not_le.mpr c23); exact ⟨by rw [tp_b_f e], by rw [if_neg e]; exact hT⟩) | (have e : ¬ ((if 0 < rd 4 then 48 else 49) ≤ c ∧ c ≤ 57 ∧ rd 4 ≤ 9999) := fun z => c33 z.2.2; exact ⟨by rw [tp_b_f e], by rw [if_neg e]; exact hT⟩) | (have e : ((if 0 < rd 4 then 48 else 49) ≤ c ∧ c ≤ 57 ∧ rd 4 ≤ 9999) := eP.mpr (And.intro (Int32.not_lt.mp c17) (And.intro (Int32.not_lt.mp c23) c33)); exact ⟨by rw [tp_b_t e], by rw [if_pos e]; exact hT⟩))
      · refine r_aload0 dX2_readsAmount_26 ?_
        refine r_getf dX2_readsAmount_27 f_X2_24 (hT.1) rfl ?_
        refine r_sipush (v := 9999) dX2_readsAmount_30 (by decide) ?_
        refine r_icmp_le (tgt := 38) dX2_readsAmount_33 (by decide) (fun c33 => ?_) (fun c33 => ?_)
        · refine r_aload0 dX2_readsAmount_38 ?_
          refine r_aload0 dX2_readsAmount_39 ?_
          refine r_getf dX2_readsAmount_40 f_X2_24 (hT.1) rfl ?_
          refine r_bipush (v := 10) dX2_readsAmount_43 (by decide) ?_
          refine r_imul dX2_readsAmount_45 ?_
          refine r_iload1 dX2_readsAmount_46 ?_
          refine r_bipush (v := 48) dX2_readsAmount_47 (by decide) ?_
          refine r_isub dX2_readsAmount_49 ?_
          refine r_iadd dX2_readsAmount_50 ?_
          refine kr_put_4 dX2_readsAmount_51 f_X2_24 hT (fun h1 hT => ?_)
          refine r_iconst (v := 1) dX2_readsAmount_54 (by decide) ?_
          exact r_zret dX2_readsAmount_55 rfl ⟨(Nat.le_of_ble_eq_true rfl), (Nat.le_of_ble_eq_true rfl)⟩ rfl (by first | (have e : ¬ ((if 0 < rd 4 then 48 else 49) ≤ c ∧ c ≤ 57 ∧ rd 4 ≤ 9999) := fun z => absurd (eP.mp z).1 (Int32.not_le.mpr c17); exact ⟨by rw [tp_b_f e], by rw [if_neg e]; exact hT⟩) | (have e : ¬ ((if 0 < rd 4 then 48 else 49) ≤ c ∧ c ≤ 57 ∧ rd 4 ≤ 9999) := fun z => absurd z.2.1 (Int32.not_le.mpr c23); exact ⟨by rw [tp_b_f e], by rw [if_neg e]; exact hT⟩) | (have e : ¬ ((if 0 < rd 4 then 48 else 49) ≤ c ∧ c ≤ 57 ∧ rd 4 ≤ 9999) := fun z => c33 z.2.2; exact ⟨by rw [tp_b_f e], by rw [if_neg e]; exact hT⟩) | (have e : ((if 0 < rd 4 then 48 else 49) ≤ c ∧ c ≤ 57 ∧ rd 4 ≤ 9999) := eP.mpr (And.intro (Int32.not_lt.mp c17) (And.intro (Int32.not_lt.mp c23) c33)); exact ⟨by rw [tp_b_t e], by rw [if_pos e]; exact hT⟩))
        · refine r_iconst (v := 0) dX2_readsAmount_36 (by decide) ?_
          exact r_zret dX2_readsAmount_37 rfl ⟨(Nat.le_of_ble_eq_true rfl), (Nat.le_of_ble_eq_true rfl)⟩ rfl (by first | (have e : ¬ ((if 0 < rd 4 then 48 else 49) ≤ c ∧ c ≤ 57 ∧ rd 4 ≤ 9999) := fun z => absurd (eP.mp z).1 (Int32.not_le.mpr c17); exact ⟨by rw [tp_b_f e], by rw [if_neg e]; exact hT⟩) | (have e : ¬ ((if 0 < rd 4 then 48 else 49) ≤ c ∧ c ≤ 57 ∧ rd 4 ≤ 9999) := fun z => absurd z.2.1 (Int32.not_le.mpr c23); exact ⟨by rw [tp_b_f e], by rw [if_neg e]; exact hT⟩) | (have e : ¬ ((if 0 < rd 4 then 48 else 49) ≤ c ∧ c ≤ 57 ∧ rd 4 ≤ 9999) := fun z => c33 z.2.2; exact ⟨by rw [tp_b_f e], by rw [if_neg e]; exact hT⟩) | (have e : ((if 0 < rd 4 then 48 else 49) ≤ c ∧ c ≤ 57 ∧ rd 4 ≤ 9999) := eP.mpr (And.intro (Int32.not_lt.mp c17) (And.intro (Int32.not_lt.mp c23) c33)); exact ⟨by rw [tp_b_t e], by rw [if_pos e]; exact hT⟩))
  · have e4 : (if 0 < rd 4 then (48 : Int32) else 49) = 48 := if_pos (tp_b_n c4)
    have eP : ((if 0 < rd 4 then 48 else 49) ≤ c ∧ c ≤ 57 ∧ rd 4 ≤ 9999) ↔ (48 ≤ c ∧ c ≤ 57 ∧ rd 4 ≤ 9999) := by rw [e4]
    refine r_bipush (v := 48) dX2_readsAmount_7 (by decide) ?_
    refine r_goto (tgt := 14) dX2_readsAmount_9 (by decide) ?_
    refine r_istore2 dX2_readsAmount_14 (Nat.le_of_ble_eq_true rfl) rfl ?_
    refine r_iload1 dX2_readsAmount_15 ?_
    refine r_iload2 dX2_readsAmount_16 ?_
    refine r_icmp_lt (tgt := 36) dX2_readsAmount_17 (by decide) (fun c17 => ?_) (fun c17 => ?_)
    · refine r_iconst (v := 0) dX2_readsAmount_36 (by decide) ?_
      exact r_zret dX2_readsAmount_37 rfl ⟨(Nat.le_of_ble_eq_true rfl), (Nat.le_of_ble_eq_true rfl)⟩ rfl (by first | (have e : ¬ ((if 0 < rd 4 then 48 else 49) ≤ c ∧ c ≤ 57 ∧ rd 4 ≤ 9999) := fun z => absurd (eP.mp z).1 (Int32.not_le.mpr c17); exact ⟨by rw [tp_b_f e], by rw [if_neg e]; exact hT⟩) | (have e : ¬ ((if 0 < rd 4 then 48 else 49) ≤ c ∧ c ≤ 57 ∧ rd 4 ≤ 9999) := fun z => absurd z.2.1 (Int32.not_le.mpr c23); exact ⟨by rw [tp_b_f e], by rw [if_neg e]; exact hT⟩) | (have e : ¬ ((if 0 < rd 4 then 48 else 49) ≤ c ∧ c ≤ 57 ∧ rd 4 ≤ 9999) := fun z => c33 z.2.2; exact ⟨by rw [tp_b_f e], by rw [if_neg e]; exact hT⟩) | (have e : ((if 0 < rd 4 then 48 else 49) ≤ c ∧ c ≤ 57 ∧ rd 4 ≤ 9999) := eP.mpr (And.intro (Int32.not_lt.mp c17) (And.intro (Int32.not_lt.mp c23) c33)); exact ⟨by rw [tp_b_t e], by rw [if_pos e]; exact hT⟩))
    · refine r_iload1 dX2_readsAmount_20 ?_
      refine r_bipush (v := 57) dX2_readsAmount_21 (by decide) ?_
      refine r_icmp_gt (tgt := 36) dX2_readsAmount_23 (by decide) (fun c23 => ?_) (fun c23 => ?_)
      · refine r_iconst (v := 0) dX2_readsAmount_36 (by decide) ?_
        exact r_zret dX2_readsAmount_37 rfl ⟨(Nat.le_of_ble_eq_true rfl), (Nat.le_of_ble_eq_true rfl)⟩ rfl (by first | (have e : ¬ ((if 0 < rd 4 then 48 else 49) ≤ c ∧ c ≤ 57 ∧ rd 4 ≤ 9999) := fun z => absurd (eP.mp z).1 (Int32.not_le.mpr c17); exact ⟨by rw [tp_b_f e], by rw [if_neg e]; exact hT⟩) | (have e : ¬ ((if 0 < rd 4 then 48 else 49) ≤ c ∧ c ≤ 57 ∧ rd 4 ≤ 9999) := fun z => absurd z.2.1 (Int32.not_le.mpr c23); exact ⟨by rw [tp_b_f e], by rw [if_neg e]; exact hT⟩) | (have e : ¬ ((if 0 < rd 4 then 48 else 49) ≤ c ∧ c ≤ 57 ∧ rd 4 ≤ 9999) := fun z => c33 z.2.2; exact ⟨by rw [tp_b_f e], by rw [if_neg e]; exact hT⟩) | (have e : ((if 0 < rd 4 then 48 else 49) ≤ c ∧ c ≤ 57 ∧ rd 4 ≤ 9999) := eP.mpr (And.intro (Int32.not_lt.mp c17) (And.intro (Int32.not_lt.mp c23) c33)); exact ⟨by rw [tp_b_t e], by rw [if_pos e]; exact hT⟩))
      · refine r_aload0 dX2_readsAmount_26 ?_
        refine r_getf dX2_readsAmount_27 f_X2_24 (hT.1) rfl ?_
        refine r_sipush (v := 9999) dX2_readsAmount_30 (by decide) ?_
        refine r_icmp_le (tgt := 38) dX2_readsAmount_33 (by decide) (fun c33 => ?_) (fun c33 => ?_)
        · refine r_aload0 dX2_readsAmount_38 ?_
          refine r_aload0 dX2_readsAmount_39 ?_
          refine r_getf dX2_readsAmount_40 f_X2_24 (hT.1) rfl ?_
          refine r_bipush (v := 10) dX2_readsAmount_43 (by decide) ?_
          refine r_imul dX2_readsAmount_45 ?_
          refine r_iload1 dX2_readsAmount_46 ?_
          refine r_bipush (v := 48) dX2_readsAmount_47 (by decide) ?_
          refine r_isub dX2_readsAmount_49 ?_
          refine r_iadd dX2_readsAmount_50 ?_
          refine kr_put_4 dX2_readsAmount_51 f_X2_24 hT (fun h1 hT => ?_)
          refine r_iconst (v := 1) dX2_readsAmount_54 (by decide) ?_
          exact r_zret dX2_readsAmount_55 rfl ⟨(Nat.le_of_ble_eq_true rfl), (Nat.le_of_ble_eq_true rfl)⟩ rfl (by first | (have e : ¬ ((if 0 < rd 4 then 48 else 49) ≤ c ∧ c ≤ 57 ∧ rd 4 ≤ 9999) := fun z => absurd (eP.mp z).1 (Int32.not_le.mpr c17); exact ⟨by rw [tp_b_f e], by rw [if_neg e]; exact hT⟩) | (have e : ¬ ((if 0 < rd 4 then 48 else 49) ≤ c ∧ c ≤ 57 ∧ rd 4 ≤ 9999) := fun z => absurd z.2.1 (Int32.not_le.mpr c23); exact ⟨by rw [tp_b_f e], by rw [if_neg e]; exact hT⟩) | (have e : ¬ ((if 0 < rd 4 then 48 else 49) ≤ c ∧ c ≤ 57 ∧ rd 4 ≤ 9999) := fun z => c33 z.2.2; exact ⟨by rw [tp_b_f e], by rw [if_neg e]; exact hT⟩) | (have e : ((if 0 < rd 4 then 48 else 49) ≤ c ∧ c ≤ 57 ∧ rd 4 ≤ 9999) := eP.mpr (And.intro (Int32.not_lt.mp c17) (And.intro (Int32.not_lt.mp c23) c33)); exact ⟨by rw [tp_b_t e], by rw [if_pos e]; exact hT⟩))
        · refine r_iconst (v := 0) dX2_readsAmount_36 (by decide) ?_
          exact r_zret dX2_readsAmount_37 rfl ⟨(Nat.le_of_ble_eq_true rfl), (Nat.le_of_ble_eq_true rfl)⟩ rfl (by first | (have e : ¬ ((if 0 < rd 4 then 48 else 49) ≤ c ∧ c ≤ 57 ∧ rd 4 ≤ 9999) := fun z => absurd (eP.mp z).1 (Int32.not_le.mpr c17); exact ⟨by rw [tp_b_f e], by rw [if_neg e]; exact hT⟩) | (have e : ¬ ((if 0 < rd 4 then 48 else 49) ≤ c ∧ c ≤ 57 ∧ rd 4 ≤ 9999) := fun z => absurd z.2.1 (Int32.not_le.mpr c23); exact ⟨by rw [tp_b_f e], by rw [if_neg e]; exact hT⟩) | (have e : ¬ ((if 0 < rd 4 then 48 else 49) ≤ c ∧ c ≤ 57 ∧ rd 4 ≤ 9999) := fun z => c33 z.2.2; exact ⟨by rw [tp_b_f e], by rw [if_neg e]; exact hT⟩) | (have e : ((if 0 < rd 4 then 48 else 49) ≤ c ∧ c ≤ 57 ∧ rd 4 ≤ 9999) := eP.mpr (And.intro (Int32.not_lt.mp c17) (And.intro (Int32.not_lt.mp c23) c33)); exact ⟨by rw [tp_b_t e], by rw [if_pos e]; exact hT⟩))

set_option maxRecDepth 100000 in
set_option maxHeartbeats 4000000 in
theorem R_reads0 {l : Launch} {G : tp_G} {r : Nat} {h0 h : tp_H} {rd : Nat → Int32} (hl : l.stackTraces = false) (hT0 : kr_S G r h0 rd h) {c : Int32} (hs : rd 0 = 0) : tp_Met l G mX2_reads 0 0 [.ref r, .int c] h (tp_PS (some (.int (tp_b (c = 108 ∨ c = 120 ∨ c = 104)))) (fun h1 => kr_S G r h (if (c = 108 ∨ c = 120 ∨ c = 104) then va_up rd 0 c else rd) h1)) tp_NX := by
  have hT := hT0.self
  refine tp_start (L0 := [some (.ref r), some (.int c)]) (by decide) rfl hl (Nat.le_of_ble_eq_true rfl) rfl ?_
  refine r_aload0 dX2_reads_0 ?_
  refine r_getf dX2_reads_1 f_X2_9 (hT.1) rfl ?_
  refine r_if_ne (tgt := 13) dX2_reads_4 (by decide) (fun c4 => ?_) (fun c4 => ?_)
  · first | exact absurd hs c4 | exact absurd c4 hs
  · refine r_aload0 dX2_reads_7 ?_
    refine r_iload1 dX2_reads_8 ?_
    refine r_sV1 dX2_reads_9 v_X2_34 (R_readsSign hl hT) rfl (hT.1) rfl rfl rfl (Nat.le_of_ble_eq_true rfl) ⟨(Nat.le_of_ble_eq_true rfl), (Nat.le_of_ble_eq_true rfl)⟩ ⟨(Nat.le_of_ble_eq_true rfl), (Nat.le_of_ble_eq_true rfl)⟩ (fun h1 hP => ?_)
    have hT := hT.trans hP
    exact r_zret dX2_reads_12 rfl ⟨(Nat.le_of_ble_eq_true rfl), (Nat.le_of_ble_eq_true rfl)⟩ tp_b_z ⟨rfl, hT⟩

set_option maxRecDepth 100000 in
set_option maxHeartbeats 4000000 in
theorem R_readsD {l : Launch} {G : tp_G} {r : Nat} {h0 h : tp_H} {rd : Nat → Int32} (hl : l.stackTraces = false) (hT0 : kr_S G r h0 rd h) {c : Int32} {q : Nat} (hs : ¬ rd 0 = 0) (hq : rd 5 = nI q) (hqd : q < k_due (rd 0)) (hd3 : k_due (rd 0) ≤ 3) : tp_Met l G mX2_reads 0 0 [.ref r, .int c] h (tp_PS (some (.int (tp_b (48 ≤ c ∧ c ≤ 51)))) (fun h1 => kr_S G r h (if (48 ≤ c ∧ c ≤ 51) then va_up (va_up rd (q + 1) (c - 48)) 5 (nI (q + 1)) else rd) h1)) tp_NX := by
  have hT := hT0.self
  refine tp_start (L0 := [some (.ref r), some (.int c)]) (by decide) rfl hl (Nat.le_of_ble_eq_true rfl) rfl ?_
  refine r_aload0 dX2_reads_0 ?_
  refine r_getf dX2_reads_1 f_X2_9 (hT.1) rfl ?_
  refine r_if_ne (tgt := 13) dX2_reads_4 (by decide) (fun c4 => ?_) (fun c4 => ?_)
  · refine r_aload0 dX2_reads_13 ?_
    refine r_getf dX2_reads_14 f_X2_27 (hT.1) rfl ?_
    refine r_aload0 dX2_reads_17 ?_
    refine r_pV dX2_reads_18 v_X2_38 (R_digitsDue hl hT) rfl (hT.1) rfl rfl rfl (Nat.le_of_ble_eq_true rfl) ⟨(Nat.le_of_ble_eq_true rfl), (Nat.le_of_ble_eq_true rfl)⟩ ⟨(Nat.le_of_ble_eq_true rfl), (Nat.le_of_ble_eq_true rfl)⟩ ?_
    refine r_icmp_ge (tgt := 30) dX2_reads_21 (by decide) (fun c21 => ?_) (fun c21 => ?_)
    · rw [hq, tp_le (by omega) (by omega)] at c21; omega
    · refine r_aload0 dX2_reads_24 ?_
      refine r_iload1 dX2_reads_25 ?_
      refine r_sV1 dX2_reads_26 v_X2_42 (R_readsDigit hl hT hq (by omega)) rfl (hT.1) rfl rfl rfl (Nat.le_of_ble_eq_true rfl) ⟨(Nat.le_of_ble_eq_true rfl), (Nat.le_of_ble_eq_true rfl)⟩ ⟨(Nat.le_of_ble_eq_true rfl), (Nat.le_of_ble_eq_true rfl)⟩ (fun h1 hP => ?_)
      have hT := hT.trans hP
      exact r_zret dX2_reads_29 rfl ⟨(Nat.le_of_ble_eq_true rfl), (Nat.le_of_ble_eq_true rfl)⟩ tp_b_z ⟨rfl, hT⟩
  · first | exact absurd c4 hs | exact absurd hs c4

set_option maxRecDepth 100000 in
set_option maxHeartbeats 4000000 in
theorem R_readsM {l : Launch} {G : tp_G} {r : Nat} {h0 h : tp_H} {rd : Nat → Int32} (hl : l.stackTraces = false) (hT0 : kr_S G r h0 rd h) {c : Int32} {q : Nat} (hs : ¬ rd 0 = 0) (hq : rd 5 = nI q) (hqd : k_due (rd 0) ≤ q) (hq3 : q ≤ 3) (hm : rd 6 = 0) : tp_Met l G mX2_reads 0 0 [.ref r, .int c] h (tp_PS (some (.int (tp_b (c = if rd 0 = 108 then 43 else 58)))) (fun h1 => kr_S G r h (va_up rd 6 (tp_b (c = if rd 0 = 108 then 43 else 58))) h1)) tp_NX := by
  have hT := hT0.self
  refine tp_start (L0 := [some (.ref r), some (.int c)]) (by decide) rfl hl (Nat.le_of_ble_eq_true rfl) rfl ?_
  refine r_aload0 dX2_reads_0 ?_
  refine r_getf dX2_reads_1 f_X2_9 (hT.1) rfl ?_
  refine r_if_ne (tgt := 13) dX2_reads_4 (by decide) (fun c4 => ?_) (fun c4 => ?_)
  · refine r_aload0 dX2_reads_13 ?_
    refine r_getf dX2_reads_14 f_X2_27 (hT.1) rfl ?_
    refine r_aload0 dX2_reads_17 ?_
    refine r_pV dX2_reads_18 v_X2_38 (R_digitsDue hl hT) rfl (hT.1) rfl rfl rfl (Nat.le_of_ble_eq_true rfl) ⟨(Nat.le_of_ble_eq_true rfl), (Nat.le_of_ble_eq_true rfl)⟩ ⟨(Nat.le_of_ble_eq_true rfl), (Nat.le_of_ble_eq_true rfl)⟩ ?_
    refine r_icmp_ge (tgt := 30) dX2_reads_21 (by decide) (fun c21 => ?_) (fun c21 => ?_)
    · refine r_aload0 dX2_reads_30 ?_
      refine r_getf dX2_reads_31 f_X2_30 (hT.1) rfl ?_
      refine r_if_ne (tgt := 71) dX2_reads_34 (by decide) (fun c34 => ?_) (fun c34 => ?_)
      · first | exact absurd hm c34 | exact absurd c34 hm
      · refine r_aload0 dX2_reads_37 ?_
        refine r_iload1 dX2_reads_38 ?_
        refine r_aload0 dX2_reads_39 ?_
        refine r_getf dX2_reads_40 f_X2_9 (hT.1) rfl ?_
        refine r_bipush (v := 108) dX2_reads_43 (by decide) ?_
        refine r_icmp_ne (tgt := 53) dX2_reads_45 (by decide) (fun c45 => ?_) (fun c45 => ?_)
        · refine r_bipush (v := 58) dX2_reads_53 (by decide) ?_
          refine r_icmp_ne (tgt := 62) dX2_reads_55 (by decide) (fun c55 => ?_) (fun c55 => ?_)
          · refine r_iconst (v := 0) dX2_reads_62 (by decide) ?_
            have e6 : tp_b (c = if rd 0 = 108 then 43 else 58) = 0 ∨ tp_b (c = if rd 0 = 108 then 43 else 58) = 1 := by
              by_cases z : (c = if rd 0 = 108 then 43 else 58)
              · exact Or.inr (tp_b_t z)
              · exact Or.inl (tp_b_f z)
            refine kr_put_6 dX2_reads_63 f_X2_30 hT ⟨rfl, rfl⟩ (fun h1 hT => ?_)
            have hT : kr_S G r h (va_up rd 6 (tp_b (c = if rd 0 = 108 then 43 else 58))) h1 := by
              first | (rw [if_pos c45, tp_b_t c55]; exact hT) | (rw [if_pos c45, tp_b_f c55]; exact hT) | (rw [if_neg c45, tp_b_t c55]; exact hT) | (rw [if_neg c45, tp_b_f c55]; exact hT)
            refine r_aload0 dX2_reads_66 ?_
            refine r_getf dX2_reads_67 f_X2_30 (hT.1) rfl ?_
            exact r_zret dX2_reads_70 rfl ⟨(Nat.le_of_ble_eq_true rfl), (Nat.le_of_ble_eq_true rfl)⟩ tp_b_z ⟨by rw [va_up_eq], hT⟩
          · refine r_iconst (v := 1) dX2_reads_58 (by decide) ?_
            refine r_goto (tgt := 63) dX2_reads_59 (by decide) ?_
            have e6 : tp_b (c = if rd 0 = 108 then 43 else 58) = 0 ∨ tp_b (c = if rd 0 = 108 then 43 else 58) = 1 := by
              by_cases z : (c = if rd 0 = 108 then 43 else 58)
              · exact Or.inr (tp_b_t z)
              · exact Or.inl (tp_b_f z)
            refine kr_put_6 dX2_reads_63 f_X2_30 hT ⟨rfl, rfl⟩ (fun h1 hT => ?_)
            have hT : kr_S G r h (va_up rd 6 (tp_b (c = if rd 0 = 108 then 43 else 58))) h1 := by
              first | (rw [if_pos c45, tp_b_t c55]; exact hT) | (rw [if_pos c45, tp_b_f c55]; exact hT) | (rw [if_neg c45, tp_b_t c55]; exact hT) | (rw [if_neg c45, tp_b_f c55]; exact hT)
            refine r_aload0 dX2_reads_66 ?_
            refine r_getf dX2_reads_67 f_X2_30 (hT.1) rfl ?_
            exact r_zret dX2_reads_70 rfl ⟨(Nat.le_of_ble_eq_true rfl), (Nat.le_of_ble_eq_true rfl)⟩ tp_b_z ⟨by rw [va_up_eq], hT⟩
        · refine r_bipush (v := 43) dX2_reads_48 (by decide) ?_
          refine r_goto (tgt := 55) dX2_reads_50 (by decide) ?_
          refine r_icmp_ne (tgt := 62) dX2_reads_55 (by decide) (fun c55 => ?_) (fun c55 => ?_)
          · refine r_iconst (v := 0) dX2_reads_62 (by decide) ?_
            have e6 : tp_b (c = if rd 0 = 108 then 43 else 58) = 0 ∨ tp_b (c = if rd 0 = 108 then 43 else 58) = 1 := by
              by_cases z : (c = if rd 0 = 108 then 43 else 58)
              · exact Or.inr (tp_b_t z)
              · exact Or.inl (tp_b_f z)
            refine kr_put_6 dX2_reads_63 f_X2_30 hT ⟨rfl, rfl⟩ (fun h1 hT => ?_)
            have hT : kr_S G r h (va_up rd 6 (tp_b (c = if rd 0 = 108 then 43 else 58))) h1 := by
              first | (rw [if_pos c45, tp_b_t c55]; exact hT) | (rw [if_pos c45, tp_b_f c55]; exact hT) | (rw [if_neg c45, tp_b_t c55]; exact hT) | (rw [if_neg c45, tp_b_f c55]; exact hT)
            refine r_aload0 dX2_reads_66 ?_
            refine r_getf dX2_reads_67 f_X2_30 (hT.1) rfl ?_
            exact r_zret dX2_reads_70 rfl ⟨(Nat.le_of_ble_eq_true rfl), (Nat.le_of_ble_eq_true rfl)⟩ tp_b_z ⟨by rw [va_up_eq], hT⟩
          · refine r_iconst (v := 1) dX2_reads_58 (by decide) ?_
            refine r_goto (tgt := 63) dX2_reads_59 (by decide) ?_
            have e6 : tp_b (c = if rd 0 = 108 then 43 else 58) = 0 ∨ tp_b (c = if rd 0 = 108 then 43 else 58) = 1 := by
              by_cases z : (c = if rd 0 = 108 then 43 else 58)
              · exact Or.inr (tp_b_t z)
              · exact Or.inl (tp_b_f z)
            refine kr_put_6 dX2_reads_63 f_X2_30 hT ⟨rfl, rfl⟩ (fun h1 hT => ?_)
            have hT : kr_S G r h (va_up rd 6 (tp_b (c = if rd 0 = 108 then 43 else 58))) h1 := by
              first | (rw [if_pos c45, tp_b_t c55]; exact hT) | (rw [if_pos c45, tp_b_f c55]; exact hT) | (rw [if_neg c45, tp_b_t c55]; exact hT) | (rw [if_neg c45, tp_b_f c55]; exact hT)
            refine r_aload0 dX2_reads_66 ?_
            refine r_getf dX2_reads_67 f_X2_30 (hT.1) rfl ?_
            exact r_zret dX2_reads_70 rfl ⟨(Nat.le_of_ble_eq_true rfl), (Nat.le_of_ble_eq_true rfl)⟩ tp_b_z ⟨by rw [va_up_eq], hT⟩
    · rw [hq, tp_le (by omega) (by omega)] at c21; omega
  · first | exact absurd c4 hs | exact absurd hs c4

set_option maxRecDepth 100000 in
set_option maxHeartbeats 4000000 in
theorem R_readsS {l : Launch} {G : tp_G} {r : Nat} {h0 h : tp_H} {rd : Nat → Int32} (hl : l.stackTraces = false) (hT0 : kr_S G r h0 rd h) {c : Int32} {q : Nat} (hs : ¬ rd 0 = 0) (hq : rd 5 = nI q) (hqd : k_due (rd 0) ≤ q) (hq3 : q ≤ 3) (hm : ¬ rd 6 = 0) (hc : c = 59) (ha : 0 < rd 4) : tp_Met l G mX2_reads 0 0 [.ref r, .int c] h (tp_PS (some (.int 1)) (fun h1 => kr_S G r h (fun _ => 0) h1)) tp_NX := by
  have hT := hT0.self
  refine tp_start (L0 := [some (.ref r), some (.int c)]) (by decide) rfl hl (Nat.le_of_ble_eq_true rfl) rfl ?_
  refine r_aload0 dX2_reads_0 ?_
  refine r_getf dX2_reads_1 f_X2_9 (hT.1) rfl ?_
  refine r_if_ne (tgt := 13) dX2_reads_4 (by decide) (fun c4 => ?_) (fun c4 => ?_)
  · refine r_aload0 dX2_reads_13 ?_
    refine r_getf dX2_reads_14 f_X2_27 (hT.1) rfl ?_
    refine r_aload0 dX2_reads_17 ?_
    refine r_pV dX2_reads_18 v_X2_38 (R_digitsDue hl hT) rfl (hT.1) rfl rfl rfl (Nat.le_of_ble_eq_true rfl) ⟨(Nat.le_of_ble_eq_true rfl), (Nat.le_of_ble_eq_true rfl)⟩ ⟨(Nat.le_of_ble_eq_true rfl), (Nat.le_of_ble_eq_true rfl)⟩ ?_
    refine r_icmp_ge (tgt := 30) dX2_reads_21 (by decide) (fun c21 => ?_) (fun c21 => ?_)
    · refine r_aload0 dX2_reads_30 ?_
      refine r_getf dX2_reads_31 f_X2_30 (hT.1) rfl ?_
      refine r_if_ne (tgt := 71) dX2_reads_34 (by decide) (fun c34 => ?_) (fun c34 => ?_)
      · refine r_iload1 dX2_reads_71 ?_
        refine r_bipush (v := 59) dX2_reads_72 (by decide) ?_
        refine r_icmp_ne (tgt := 90) dX2_reads_74 (by decide) (fun c74 => ?_) (fun c74 => ?_)
        · exact absurd hc c74
        · refine r_aload0 dX2_reads_77 ?_
          refine r_pV dX2_reads_78 v_X2_45 (R_isOrderWhole hl hT) rfl (hT.1) rfl rfl rfl (Nat.le_of_ble_eq_true rfl) ⟨(Nat.le_of_ble_eq_true rfl), (Nat.le_of_ble_eq_true rfl)⟩ ⟨(Nat.le_of_ble_eq_true rfl), (Nat.le_of_ble_eq_true rfl)⟩ ?_
          refine r_if_eq (tgt := 90) dX2_reads_81 (by decide) (fun c81 => ?_) (fun c81 => ?_)
          · exact absurd ha (tp_b_0.mp c81)
          · refine r_aload0 dX2_reads_84 ?_
            refine r_sV0 dX2_reads_85 v_X2_49 (R_startOrder hl hT) rfl (hT.1) rfl rfl rfl (Nat.le_of_ble_eq_true rfl) ⟨(Nat.le_of_ble_eq_true rfl), (Nat.le_of_ble_eq_true rfl)⟩ ⟨(Nat.le_of_ble_eq_true rfl), (Nat.le_of_ble_eq_true rfl)⟩ (fun h1 hP => ?_)
            have hT := hT.trans hP
            refine r_iconst (v := 1) dX2_reads_88 (by decide) ?_
            exact r_zret dX2_reads_89 rfl ⟨(Nat.le_of_ble_eq_true rfl), (Nat.le_of_ble_eq_true rfl)⟩ rfl ⟨rfl, hT⟩
      · first | exact absurd c34 hm | exact absurd hm c34
    · rw [hq, tp_le (by omega) (by omega)] at c21; omega
  · first | exact absurd c4 hs | exact absurd hs c4

set_option maxRecDepth 100000 in
set_option maxHeartbeats 4000000 in
theorem R_readsA {l : Launch} {G : tp_G} {r : Nat} {h0 h : tp_H} {rd : Nat → Int32} (hl : l.stackTraces = false) (hT0 : kr_S G r h0 rd h) {c : Int32} {q : Nat} (hs : ¬ rd 0 = 0) (hq : rd 5 = nI q) (hqd : k_due (rd 0) ≤ q) (hq3 : q ≤ 3) (hm : ¬ rd 6 = 0) (hc : ¬ (c = 59 ∧ 0 < rd 4)) : tp_Met l G mX2_reads 0 0 [.ref r, .int c] h (tp_PS (some (.int (tp_b ((if 0 < rd 4 then 48 else 49) ≤ c ∧ c ≤ 57 ∧ rd 4 ≤ 9999)))) (fun h1 => kr_S G r h (if ((if 0 < rd 4 then 48 else 49) ≤ c ∧ c ≤ 57 ∧ rd 4 ≤ 9999) then va_up rd 4 (rd 4 * 10 + (c - 48)) else rd) h1)) tp_NX := by
  have hT := hT0.self
  refine tp_start (L0 := [some (.ref r), some (.int c)]) (by decide) rfl hl (Nat.le_of_ble_eq_true rfl) rfl ?_
  refine r_aload0 dX2_reads_0 ?_
  refine r_getf dX2_reads_1 f_X2_9 (hT.1) rfl ?_
  refine r_if_ne (tgt := 13) dX2_reads_4 (by decide) (fun c4 => ?_) (fun c4 => ?_)
  · refine r_aload0 dX2_reads_13 ?_
    refine r_getf dX2_reads_14 f_X2_27 (hT.1) rfl ?_
    refine r_aload0 dX2_reads_17 ?_
    refine r_pV dX2_reads_18 v_X2_38 (R_digitsDue hl hT) rfl (hT.1) rfl rfl rfl (Nat.le_of_ble_eq_true rfl) ⟨(Nat.le_of_ble_eq_true rfl), (Nat.le_of_ble_eq_true rfl)⟩ ⟨(Nat.le_of_ble_eq_true rfl), (Nat.le_of_ble_eq_true rfl)⟩ ?_
    refine r_icmp_ge (tgt := 30) dX2_reads_21 (by decide) (fun c21 => ?_) (fun c21 => ?_)
    · refine r_aload0 dX2_reads_30 ?_
      refine r_getf dX2_reads_31 f_X2_30 (hT.1) rfl ?_
      refine r_if_ne (tgt := 71) dX2_reads_34 (by decide) (fun c34 => ?_) (fun c34 => ?_)
      · refine r_iload1 dX2_reads_71 ?_
        refine r_bipush (v := 59) dX2_reads_72 (by decide) ?_
        refine r_icmp_ne (tgt := 90) dX2_reads_74 (by decide) (fun c74 => ?_) (fun c74 => ?_)
        · refine r_aload0 dX2_reads_90 ?_
          refine r_iload1 dX2_reads_91 ?_
          refine r_sV1 dX2_reads_92 v_X2_52 (R_readsAmount hl hT) rfl (hT.1) rfl rfl rfl (Nat.le_of_ble_eq_true rfl) ⟨(Nat.le_of_ble_eq_true rfl), (Nat.le_of_ble_eq_true rfl)⟩ ⟨(Nat.le_of_ble_eq_true rfl), (Nat.le_of_ble_eq_true rfl)⟩ (fun h1 hP => ?_)
          have hT := hT.trans hP
          exact r_zret dX2_reads_95 rfl ⟨(Nat.le_of_ble_eq_true rfl), (Nat.le_of_ble_eq_true rfl)⟩ tp_b_z ⟨rfl, hT⟩
        · refine r_aload0 dX2_reads_77 ?_
          refine r_pV dX2_reads_78 v_X2_45 (R_isOrderWhole hl hT) rfl (hT.1) rfl rfl rfl (Nat.le_of_ble_eq_true rfl) ⟨(Nat.le_of_ble_eq_true rfl), (Nat.le_of_ble_eq_true rfl)⟩ ⟨(Nat.le_of_ble_eq_true rfl), (Nat.le_of_ble_eq_true rfl)⟩ ?_
          refine r_if_eq (tgt := 90) dX2_reads_81 (by decide) (fun c81 => ?_) (fun c81 => ?_)
          · refine r_aload0 dX2_reads_90 ?_
            refine r_iload1 dX2_reads_91 ?_
            refine r_sV1 dX2_reads_92 v_X2_52 (R_readsAmount hl hT) rfl (hT.1) rfl rfl rfl (Nat.le_of_ble_eq_true rfl) ⟨(Nat.le_of_ble_eq_true rfl), (Nat.le_of_ble_eq_true rfl)⟩ ⟨(Nat.le_of_ble_eq_true rfl), (Nat.le_of_ble_eq_true rfl)⟩ (fun h1 hP => ?_)
            have hT := hT.trans hP
            exact r_zret dX2_reads_95 rfl ⟨(Nat.le_of_ble_eq_true rfl), (Nat.le_of_ble_eq_true rfl)⟩ tp_b_z ⟨rfl, hT⟩
          · exact absurd ⟨c74, tp_b_n c81⟩ hc
      · first | exact absurd c34 hm | exact absurd hm c34
    · rw [hq, tp_le (by omega) (by omega)] at c21; omega
  · first | exact absurd c4 hs | exact absurd hs c4

