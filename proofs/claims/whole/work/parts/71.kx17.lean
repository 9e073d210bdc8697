set_option maxRecDepth 100000 in
set_option maxHeartbeats 4000000 in
theorem X_firstError_lp  {l : Launch} {G : tp_G} {x : Nat} {h9 : tp_H} {u : Nat → Int32} {π ρ : Nat → Nat} {us : Nat → Nat → Int32} {σ : Nat → Nat} {st : Int32} {tx : Nat → Int32} {n : Nat} {s0 : p_S} (hl : l.stackTraces = false) (hn : n ≤ 60) (htx : ∀ i, i < n → ∃ t, t < 128 ∧ tx i = nI t) : ∀ d (i : Nat) (rd : Nat → Int32) (h1 : tp_H), d + i = n → kx_S G x h9 u π ρ us σ st (nI n) tx rd h1 → rp_R (p_it tx s0 i) rd → tp_Run l G mX5_firstError (tp_rm mX5_firstError 0 0) (tp_QM G 0 0 (tp_PS (some (.int (nI (p_rt tx s0 d i).1))) (fun h2 => ∃ rd', kx_S G x h9 u π ρ us σ st (nI n) tx rd' h2 ∧ ((p_rt tx s0 d i).1 = n → rp_R (p_rt tx s0 d i).2 rd'))) tp_NX) 0 0 h1 9 [some (.ref x), some (.int (nI i))] [] := by
  intro d
  induction d with
  | zero =>
    intro i rd h1 hd hT hR
    refine r_iload1 dX5_firstError_9 ?_
    refine r_aload0 dX5_firstError_10 ?_
    refine r_getf dX5_firstError_11 f_X5_193 (hT.ob) rfl ?_
    refine r_icmp_ge (tgt := 41) dX5_firstError_14 (by decide) (fun c14 => ?_) (fun c14 => ?_)
    · have hi9 : n = i := by omega
      refine r_aload0 dX5_firstError_41 ?_
      refine r_getf dX5_firstError_42 f_X5_193 (hT.ob) rfl ?_
      exact r_iret dX5_firstError_45 rfl ⟨(Nat.le_of_ble_eq_true rfl), (Nat.le_of_ble_eq_true rfl)⟩ ⟨by show some (Value.int (nI n)) = some (Value.int (nI i)); rw [hi9], _, hT, fun _ => hR⟩
    · rw [tp_le (by omega) (by omega)] at c14; omega
  | succ d ih =>
    intro i rd h1 hd hT hR
    refine r_iload1 dX5_firstError_9 ?_
    refine r_aload0 dX5_firstError_10 ?_
    refine r_getf dX5_firstError_11 f_X5_193 (hT.ob) rfl ?_
    refine r_icmp_ge (tgt := 41) dX5_firstError_14 (by decide) (fun c14 => ?_) (fun c14 => ?_)
    · rw [tp_le (by omega) (by omega)] at c14; omega
    · refine r_aload0 dX5_firstError_17 ?_
      refine r_getf dX5_firstError_18 f_X5_27 (hT.ob) rfl ?_
      refine r_aload0 dX5_firstError_21 ?_
      refine r_getf dX5_firstError_22 f_X5_20 (hT.ob) rfl ?_
      refine r_iload1 dX5_firstError_25 ?_
      refine r_iald dX5_firstError_26 hT.bu (i := i) rfl (by omega) (by decide) ?_
      obtain ⟨t, ht, et⟩ := htx i (by omega)
      rw [et]
      refine r_reads (rest := []) hl dX5_firstError_27 v_X5_201 hT.rr hR ht (Nat.le_of_ble_eq_true rfl) ⟨(Nat.le_of_ble_eq_true rfl), (Nat.le_of_ble_eq_true rfl)⟩ ⟨(Nat.le_of_ble_eq_true rfl), (Nat.le_of_ble_eq_true rfl)⟩ (fun h1 rd1 hP hR1 => ?_)
      have hT := hT.rdTo hP
      rw [← et] at hR1 ⊢
      refine r_if_ne (tgt := 35) dX5_firstError_30 (by decide) (fun c30 => ?_) (fun c30 => ?_)
      · rw [show p_rt tx s0 (d + 1) i = p_rt tx s0 d (i + 1) from if_pos (tp_b_n c30)]
        refine r_iinc1 (v := nI (i + 1)) dX5_firstError_35 (Nat.le_of_ble_eq_true rfl) rfl (tp_inc i) ?_
        exact r_goto (tgt := 9) dX5_firstError_38 (by decide) (ih (i + 1) _ _ (by omega) hT (hR1 (tp_b_n c30)))
      · rw [show p_rt tx s0 (d + 1) i = (i, p_it tx s0 (i + 1)) from if_neg (tp_b_0.mp c30)]
        refine r_iload1 dX5_firstError_33 ?_
        exact r_iret dX5_firstError_34 rfl ⟨(Nat.le_of_ble_eq_true rfl), (Nat.le_of_ble_eq_true rfl)⟩ ⟨rfl, _, hT, fun z => absurd z (by show ¬ i = n; omega)⟩

set_option maxRecDepth 100000 in
set_option maxHeartbeats 4000000 in
theorem X_firstError {l : Launch} {G : tp_G} {x : Nat} {h0 h : tp_H} {u : Nat → Int32} {π ρ : Nat → Nat} {us : Nat → Nat → Int32} {σ : Nat → Nat} {st : Int32} {tx : Nat → Int32} {n : Nat} (hl : l.stackTraces = false) (hn : n ≤ 60) (htx : ∀ i, i < n → ∃ t, t < 128 ∧ tx i = nI t) {rd : Nat → Int32} (hT0 : kx_S G x h0 u π ρ us σ st (nI n) tx rd h) (pa : Nat → Int32) (nu : Int32) : tp_Met l G mX5_firstError 0 0 [.ref x] h (tp_PS (some (.int (nI (p_rt tx (pa, 0, nu, 0) n 0).1))) (fun h2 => ∃ rd', kx_S G x h u π ρ us σ st (nI n) tx rd' h2 ∧ ((p_rt tx (pa, 0, nu, 0) n 0).1 = n → rp_R (p_rt tx (pa, 0, nu, 0) n 0).2 rd'))) tp_NX := by
  have hT := hT0.self
  refine tp_start (L0 := [some (.ref x), none]) (by decide) rfl hl (Nat.le_of_ble_eq_true rfl) rfl ?_
  refine r_aload0 dX5_firstError_0 ?_
  refine r_getf dX5_firstError_1 f_X5_27 (hT.ob) rfl ?_
  refine r_sV0 dX5_firstError_4 v_X5_198 (R_startOrder hl hT.rr) rfl (hT.re) rfl rfl rfl (Nat.le_of_ble_eq_true rfl) ⟨(Nat.le_of_ble_eq_true rfl), (Nat.le_of_ble_eq_true rfl)⟩ ⟨(Nat.le_of_ble_eq_true rfl), (Nat.le_of_ble_eq_true rfl)⟩ (fun h1 hP => ?_)
  have hT := hT.rdTo hP
  refine r_iconst (v := 0) dX5_firstError_7 (by decide) ?_
  refine r_istore1 dX5_firstError_8 (Nat.le_of_ble_eq_true rfl) rfl ?_
  exact X_firstError_lp (s0 := (pa, 0, nu, 0)) hl hn htx n 0 _ _ (by omega) hT (Or.inl ⟨rfl, fun _ _ => rfl⟩)

