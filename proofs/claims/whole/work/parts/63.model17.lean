def p_it (tx : Nat → Int32) (s0 : p_S) : Nat → p_S
  | 0 => s0
  | k + 1 => p_nx (p_it tx s0 k) (tx k)
def p_rt (tx : Nat → Int32) (s0 : p_S) : Nat → Nat → Nat × p_S
  | 0, k => (k, p_it tx s0 k)
  | d + 1, k => if p_ok (p_it tx s0 k) (tx k) = true then p_rt tx s0 d (k + 1) else (k, p_it tx s0 (k + 1))
def p_w (D : Nat) (nu : Int32) : Nat := if D ≤ 3 then D else if D = 4 then 2 else if nu = -1 then 3 else 4
def p_J (s : p_S) (k : Nat) : Prop := s.2.2.2 ≤ 5 ∧ (1 ≤ s.2.2.2 ∧ s.2.2.2 ≤ 4 → s.2.2.1 = -1) ∧ 5 * s.2.1 + p_w s.2.2.2 s.2.2.1 ≤ k
theorem p_du_cases (l : Int32) {D : Nat} (h : 1 ≤ D ∧ D ≤ 3) : p_du l D = 4 ∨ (p_du l D = D + 1) := by
  unfold p_du
  split
  · split
    · exact Or.inl rfl
    · exact Or.inr rfl
  · split
    · split
      · exact Or.inl rfl
      · exact Or.inr rfl
    · split
      · exact Or.inl rfl
      · exact Or.inr rfl
theorem p_w5 (nu : Int32) : p_w 5 nu ≤ 4 ∧ 3 ≤ p_w 5 nu := by
  unfold p_w
  rw [if_neg (by omega), if_neg (by omega)]
  split <;> omega
theorem p_J_nx {s : p_S} {k : Nat} (c : Int32) (h : p_J s k) : p_J (p_nx s c) (k + 1) := by
  obtain ⟨pa, R, nu, D⟩ := s
  obtain ⟨h1, h2, h3⟩ := h
  have h1 : D ≤ 5 := h1
  have h3 : 5 * R + p_w D nu ≤ k := h3
  have hP : ∀ E, 1 ≤ E → E ≤ 3 → D = E → p_J (va_up pa (5 * R + E) (c - 48), R, nu, p_du (pa (5 * R)) E) (k + 1) := by
    intro E e1 e2 e3
    subst e3
    have hn : nu = -1 := h2 ⟨e1, by show D ≤ 4; omega⟩
    have hw : p_w D nu = D := if_pos e2
    rw [hw] at h3
    rcases p_du_cases (pa (5 * R)) ⟨e1, e2⟩ with q | q
    · rw [q]
      exact ⟨by show 4 ≤ 5; omega, fun _ => hn, by show 5 * R + 2 ≤ k + 1; omega⟩
    · rw [q]
      refine ⟨by show D + 1 ≤ 5; omega, fun _ => hn, ?_⟩
      show 5 * R + p_w (D + 1) nu ≤ k + 1
      have : p_w (D + 1) nu ≤ D + 1 := by
        unfold p_w
        split
        · omega
        · split
          · omega
          · omega
      omega
  rcases (show D = 0 ∨ D = 1 ∨ D = 2 ∨ D = 3 ∨ D = 4 ∨ D = 5 by omega) with rfl | rfl | rfl | rfl | rfl | rfl
  · exact ⟨by show 1 ≤ 5; omega, fun _ => rfl, by have : 5 * R + 0 ≤ k := h3; show 5 * R + 1 ≤ k + 1; omega⟩
  · exact hP 1 (by omega) (by omega) rfl
  · exact hP 2 (by omega) (by omega) rfl
  · exact hP 3 (by omega) (by omega) rfl
  · have hn : nu = -1 := h2 ⟨by show 1 ≤ 4; omega, by show 4 ≤ 4; omega⟩
    refine ⟨by show 5 ≤ 5; omega, fun q => absurd q.2 (by show ¬ 5 ≤ 4; omega), ?_⟩
    have h4 : 5 * R + 2 ≤ k := h3
    show 5 * R + p_w 5 nu ≤ k + 1
    rw [hn, show p_w 5 (-1) = 3 from rfl]
    omega
  · have hw := p_w5 nu
    by_cases hc : c = 59 ∧ ¬ nu = -1
    · rw [show p_nx (pa, R, nu, 5) c = (pa, R + 1, nu, 0) from if_pos hc]
      have hw4 : p_w 5 nu = 4 := by unfold p_w; rw [if_neg (by omega), if_neg (by omega), if_neg hc.2]
      exact ⟨by show 0 ≤ 5; omega, fun q => absurd q.1 (by show ¬ 1 ≤ 0; omega), by show 5 * (R + 1) + 0 ≤ k + 1; omega⟩
    · rw [show p_nx (pa, R, nu, 5) c = (va_up pa (5 * R + 4) (p_nu nu (c - 48)), R, p_nu nu (c - 48), 5) from if_neg hc]
      have hw2 := p_w5 (p_nu nu (c - 48))
      exact ⟨by show 5 ≤ 5; omega, fun q => absurd q.2 (by show ¬ 5 ≤ 4; omega), by show 5 * R + p_w 5 (p_nu nu (c - 48)) ≤ k + 1; omega⟩
theorem p_J_it {tx : Nat → Int32} {s0 : p_S} (h : p_J s0 0) : ∀ k, p_J (p_it tx s0 k) k
  | 0 => h
  | k + 1 => p_J_nx _ (p_J_it h k)
theorem p_J0 (pa : Nat → Int32) (nu : Int32) : p_J (pa, 0, nu, 0) 0 := ⟨by show 0 ≤ 5; omega, fun q => absurd q.1 (by show ¬ 1 ≤ 0; omega), by show 5 * 0 + 0 ≤ 0; omega⟩
set_option maxRecDepth 100000 in
set_option maxHeartbeats 4000000 in
theorem M_rightUpTo_lp  {l : Launch} {G : tp_G} {y : Nat} {h9 : tp_H} {z hi tx : Nat → Int32} {st thr : Int32} {hs : Int64} (hl : l.stackTraces = false) {s0 : p_S} {n : Nat} (hJ : p_J s0 0) (hn : n ≤ 60) : ∀ d (k : Nat) (h1 : tp_H), k + d = n → mm_S G y h9 z hi tx (p_it tx s0 k).1 st (nI n) thr (nI (p_it tx s0 k).2.1) (p_it tx s0 k).2.2.1 (nI (p_it tx s0 k).2.2.2) hs h1 → tp_Run l G mX6_rightUpTo (tp_rm mX6_rightUpTo 0 0) (tp_QM G 0 0 (tp_PS (some (.int (nI (p_rt tx s0 d k).1))) (fun h2 => mm_S G y h9 z hi tx ((p_rt tx s0 d k).2).1 st (nI n) thr (nI ((p_rt tx s0 d k).2).2.1) ((p_rt tx s0 d k).2).2.2.1 (nI ((p_rt tx s0 d k).2).2.2.2) hs h2)) tp_NX) 0 0 h1 12 [some (.ref y), some (.int (nI k))] [] := by
  intro d
  induction d with
  | zero =>
    intro k h1 hd hT
    refine r_iload1 dX6_rightUpTo_12 ?_
    refine r_aload0 dX6_rightUpTo_13 ?_
    refine r_getf dX6_rightUpTo_14 f_X6_164 (hT.ob) rfl ?_
    refine r_icmp_ge (tgt := 39) dX6_rightUpTo_17 (by decide) (fun c17 => ?_) (fun c17 => ?_)
    · refine r_iload1 dX6_rightUpTo_39 ?_
      exact r_iret dX6_rightUpTo_40 rfl ⟨(Nat.le_of_ble_eq_true rfl), (Nat.le_of_ble_eq_true rfl)⟩ ⟨rfl, hT⟩
    · rw [tp_le (by omega) (by omega)] at c17; omega
  | succ d ih =>
    intro k h1 hd hT
    refine r_iload1 dX6_rightUpTo_12 ?_
    refine r_aload0 dX6_rightUpTo_13 ?_
    refine r_getf dX6_rightUpTo_14 f_X6_164 (hT.ob) rfl ?_
    refine r_icmp_ge (tgt := 39) dX6_rightUpTo_17 (by decide) (fun c17 => ?_) (fun c17 => ?_)
    · rw [tp_le (by omega) (by omega)] at c17; omega
    · refine r_aload0 dX6_rightUpTo_20 ?_
      refine r_aload0 dX6_rightUpTo_21 ?_
      refine r_getf dX6_rightUpTo_22 f_X6_16 (hT.ob) rfl ?_
      refine r_iload1 dX6_rightUpTo_25 ?_
      refine r_iald dX6_rightUpTo_26 hT.rtx (i := k) (rfl) (by omega) (by decide) ?_
      refine r_sV1 dX6_rightUpTo_27 v_X6_182 (M_takes (s := p_it tx s0 k) hl hT (by have := (p_J_it hJ k (tx := tx)).2.2; omega) (p_J_it hJ k).1) rfl (hT.ob) rfl rfl rfl (Nat.le_of_ble_eq_true rfl) ⟨(Nat.le_of_ble_eq_true rfl), (Nat.le_of_ble_eq_true rfl)⟩ ⟨(Nat.le_of_ble_eq_true rfl), (Nat.le_of_ble_eq_true rfl)⟩ (fun h1 hP => ?_)
      have hT := hT.trans hP
      refine r_if_eq (tgt := 39) dX6_rightUpTo_30 (by decide) (fun c30 => ?_) (fun c30 => ?_)
      · rw [show p_rt tx s0 (d + 1) k = (k, p_it tx s0 (k + 1)) from if_neg (tp_b_0.mp c30)]
        refine r_iload1 dX6_rightUpTo_39 ?_
        exact r_iret dX6_rightUpTo_40 rfl ⟨(Nat.le_of_ble_eq_true rfl), (Nat.le_of_ble_eq_true rfl)⟩ ⟨rfl, hT⟩
      · rw [show p_rt tx s0 (d + 1) k = p_rt tx s0 d (k + 1) from if_pos (tp_b_n c30)]
        refine r_iinc1 (v := nI (k + 1)) dX6_rightUpTo_33 (Nat.le_of_ble_eq_true rfl) rfl (tp_inc k) ?_
        exact r_goto (tgt := 12) dX6_rightUpTo_36 (by decide) (ih (k + 1) h1 (by omega) hT)

set_option maxRecDepth 100000 in
set_option maxHeartbeats 4000000 in
theorem M_rightUpTo {l : Launch} {G : tp_G} {y : Nat} {h0 h : tp_H} {z hi tx pa : Nat → Int32} {st thr rd nu du : Int32} {hs : Int64} {n : Nat} (hl : l.stackTraces = false) (hT0 : mm_S G y h0 z hi tx pa st (nI n) thr rd nu du hs h) (hn : n ≤ 60)  : tp_Met l G mX6_rightUpTo 0 0 [.ref y] h (tp_PS (some (.int (nI (p_rt tx (pa, 0, nu, 0) n 0).1))) (fun h1 => mm_S G y h z hi tx ((p_rt tx (pa, 0, nu, 0) n 0).2).1 st (nI n) thr (nI ((p_rt tx (pa, 0, nu, 0) n 0).2).2.1) ((p_rt tx (pa, 0, nu, 0) n 0).2).2.2.1 (nI ((p_rt tx (pa, 0, nu, 0) n 0).2).2.2.2) hs h1)) tp_NX := by
  have hT := hT0.self
  refine tp_start (L0 := [some (.ref y), none]) (by decide) rfl hl (Nat.le_of_ble_eq_true rfl) rfl ?_
  refine r_aload0 dX6_rightUpTo_0 ?_
  refine r_iconst (v := 0) dX6_rightUpTo_1 (by decide) ?_
  refine mm_put_rd dX6_rightUpTo_2 rfl hT (fun h1 hT => ?_)
  refine r_aload0 dX6_rightUpTo_5 ?_
  refine r_iconst (v := 0) dX6_rightUpTo_6 (by decide) ?_
  refine mm_put_du dX6_rightUpTo_7 rfl hT (fun h1 hT => ?_)
  refine r_iconst (v := 0) dX6_rightUpTo_10 (by decide) ?_
  refine r_istore1 dX6_rightUpTo_11 (Nat.le_of_ble_eq_true rfl) rfl ?_
  exact M_rightUpTo_lp (s0 := (pa, 0, nu, 0)) hl (p_J0 pa nu) hn n 0 h1 (by omega) hT

set_option maxRecDepth 100000 in
set_option maxHeartbeats 4000000 in
theorem Q_firstError {l : Launch} {G : tp_G} {y : Nat} {h0 h : tp_H} {z hi tx pa : Nat → Int32} {st thr rd nu du : Int32} {hs : Int64} {n : Nat} (hl : l.stackTraces = false) (hT0 : mm_S G y h0 z hi tx pa st (nI n) thr rd nu du hs h) (hn : n ≤ 60)  : tp_Met l G mX6_firstError 0 0 [.ref y] h (tp_PS (some (.int (nI (p_rt tx (pa, 0, nu, 0) n 0).1))) (fun h1 => mm_S G y h z hi tx ((p_rt tx (pa, 0, nu, 0) n 0).2).1 st (nI n) 0 (nI ((p_rt tx (pa, 0, nu, 0) n 0).2).2.1) ((p_rt tx (pa, 0, nu, 0) n 0).2).2.2.1 (nI ((p_rt tx (pa, 0, nu, 0) n 0).2).2.2.2) hs h1)) tp_NX := by
  have hT := hT0.self
  refine tp_start (L0 := [some (.ref y)]) (by decide) rfl hl (Nat.le_of_ble_eq_true rfl) rfl ?_
  refine r_aload0 dX6_firstError_0 ?_
  refine r_iconst (v := 0) dX6_firstError_1 (by decide) ?_
  refine mm_put_thr dX6_firstError_2 rfl hT (fun h1 hT => ?_)
  refine r_aload0 dX6_firstError_5 ?_
  refine r_sV1 dX6_firstError_6 v_X6_185 (M_rightUpTo hl hT hn) rfl (hT.ob) rfl rfl rfl (Nat.le_of_ble_eq_true rfl) ⟨(Nat.le_of_ble_eq_true rfl), (Nat.le_of_ble_eq_true rfl)⟩ ⟨(Nat.le_of_ble_eq_true rfl), (Nat.le_of_ble_eq_true rfl)⟩ (fun h1 hP => ?_)
  have hT := hT.trans hP
  exact r_iret dX6_firstError_9 rfl ⟨(Nat.le_of_ble_eq_true rfl), (Nat.le_of_ble_eq_true rfl)⟩ ⟨rfl, hT⟩

