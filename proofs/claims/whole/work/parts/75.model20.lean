def m_ok (z pa : Nat → Int32) (R : Nat) : Bool :=
  if pa (5 * R) = 108 then decide (z (z_at (z_n (pa (5 * R + 1))) 0) + pa (5 * R + 4) ≤ 1000000)
  else if pa (5 * R) = 120 then decide (z_whyEx z (z_n (pa (5 * R + 1))) (z_n (pa (5 * R + 2))) (z_n (pa (5 * R + 3))) (pa (5 * R + 4)) = 0)
  else decide (z_whyHold z (z_n (pa (5 * R + 1))) (z_n (pa (5 * R + 2))) (pa (5 * R + 4)) = 0)
def m_do (z pa : Nat → Int32) (R : Nat) : Nat → Int32 :=
  if pa (5 * R) = 108 then z_loads z (z_n (pa (5 * R + 1))) (pa (5 * R + 4))
  else if pa (5 * R) = 120 then z_ex z (z_n (pa (5 * R + 1))) (z_n (pa (5 * R + 2))) (z_n (pa (5 * R + 3))) (pa (5 * R + 4))
  else z_holds z (z_n (pa (5 * R + 1))) (z_n (pa (5 * R + 2))) (pa (5 * R + 4))
/-- what the orders need of a row -/
def m_P (z : Nat → Int32) : Prop := (∃ N, z 8 = nI N ∧ N ≤ 8) ∧ (∀ w t, w < 4 → t < 4 → ¬ (z_rate z w t).toInt64 = 0) ∧ ∀ w, w < 4 → z_loads z w 0 = z
set_option maxHeartbeats 2000000 in
theorem r_mcar {l : Launch} {G : tp_G} {M : tp_M} {R : Room} {Q : tp_Q} {k n : Nat} {h h0 : tp_H} {pc : Nat} {L : List (Option Value)} {y : Nat} {z hi tx pa : Nat → Int32} {st len thr rd nu du : Int32} {hs : Int64} {ix p : Nat} {rest : List Value} (hl : l.stackTraces = false) (hd : decode M.2.1 pc = .ok (.invokevirtual ix, 3)) (hc : tp_CV M.1.cls ix mX6_carries 1) (hT : mm_S G y h0 z hi tx pa st len thr rd nu du hs h) (hp : p ≤ 12) (hw : w_row pa p) (hP : m_P z) (hcat : (rest.map fun v => v.category).sum ≤ 8) (hrm : tp_RM R mX6_carries) (hk : k ≤ R.cells ∧ n ≤ R.slots)
    (kk1 : m_ok z pa p = true → ∀ h1, mm_S G y h0 (m_do z pa p) hi tx pa st len thr rd nu du hs h1 → tp_Run l G M R Q k n h1 (pc + 3) L (.int 1 :: rest))
    (kk0 : m_ok z pa p = false → ∀ h1, mm_S G y h0 z hi tx pa st len thr rd nu du hs h1 → tp_Run l G M R Q k n h1 (pc + 3) L (.int 0 :: rest)) : tp_Run l G M R Q k n h pc L (.int (nI p) :: .ref y :: rest) := by
  obtain ⟨hs9, hv, v, v1, v2, v4⟩ := hw
  obtain ⟨⟨N, hz8, hN⟩, hr, hl0⟩ := hP
  obtain ⟨w, hw4, ew⟩ := hv 1 (by omega) (k_due_le _).1
  have ew' : z_n (pa (5 * p + 1)) = w := by rw [ew, z_nI (by omega)]
  rcases hs9 with hs9 | hs9 | hs9
  · have eok : m_ok z pa p = decide (z (z_at w 0) + nI v ≤ 1000000) := by
      unfold m_ok
      rw [if_pos hs9, ew', v4]
    have edo : m_do z pa p = z_loads z w (nI v) := by
      unfold m_do
      rw [if_pos hs9, ew', v4]
    by_cases hm : z (z_at w 0) + nI v ≤ 1000000
    · refine r_sV1 hd hc (M_carries_l1 hl hT hp hw4 hs9 ew rfl rfl v4 hm) rfl hT.ob rfl rfl rfl hcat hrm hk (fun h1 hP => ?_)
      exact kk1 (by rw [eok]; exact decide_eq_true hm) h1 (by rw [edo]; exact hT.trans hP)
    · refine r_sV1 hd hc (M_carries_l0 hl hT hp hw4 hs9 ew rfl rfl v4 hm) rfl hT.ob rfl rfl rfl hcat hrm hk (fun h1 hP => ?_)
      exact kk0 (by rw [eok]; exact decide_eq_false hm) h1 ((hT.trans hP).cz (hl0 w hw4))
  · have ed : k_due (pa (5 * p)) = 3 := by rw [hs9]; rfl
    obtain ⟨f, hf4, ef⟩ := hv 2 (by omega) (by omega)
    obtain ⟨t, ht4, et⟩ := hv 3 (by omega) (by omega)
    have n1 : ¬ pa (5 * p) = 108 := by rw [hs9]; decide
    have eok : m_ok z pa p = decide (z_whyEx z w f t (nI v) = 0) := by
      unfold m_ok
      rw [if_neg n1, if_pos hs9, ew', v4, ef, et, z_nI (by omega), z_nI (by omega)]
    have edo : m_do z pa p = z_ex z w f t (nI v) := by
      unfold m_do
      rw [if_neg n1, if_pos hs9, ew', v4, ef, et, z_nI (by omega), z_nI (by omega)]
    by_cases hm : z_whyEx z w f t (nI v) = 0
    · refine r_sV1 hd hc (M_carries_x1 hl hT hp hw4 hs9 ew hf4 ef ht4 et v4 hz8 hN (hr w t hw4 ht4) hm) rfl hT.ob rfl rfl rfl hcat hrm hk (fun h1 hP => ?_)
      exact kk1 (by rw [eok]; exact decide_eq_true hm) h1 (by rw [edo]; exact hT.trans hP)
    · refine r_sV1 hd hc (M_carries_x0 hl hT hp hw4 hs9 ew hf4 ef ht4 et v4 hz8 hN hm) rfl hT.ob rfl rfl rfl hcat hrm hk (fun h1 hP => ?_)
      exact kk0 (by rw [eok]; exact decide_eq_false hm) h1 (hT.trans hP)
  · have ed : k_due (pa (5 * p)) = 2 := by rw [hs9]; rfl
    obtain ⟨f, hf4, ef⟩ := hv 2 (by omega) (by omega)
    have n1 : ¬ pa (5 * p) = 108 := by rw [hs9]; decide
    have n2 : ¬ pa (5 * p) = 120 := by rw [hs9]; decide
    have eok : m_ok z pa p = decide (z_whyHold z w f (nI v) = 0) := by
      unfold m_ok
      rw [if_neg n1, if_neg n2, ew', v4, ef, z_nI (by omega)]
    have edo : m_do z pa p = z_holds z w f (nI v) := by
      unfold m_do
      rw [if_neg n1, if_neg n2, ew', v4, ef, z_nI (by omega)]
    by_cases hm : z_whyHold z w f (nI v) = 0
    · refine r_sV1 hd hc (M_carries_h1 hl hT hp hw4 hs9 ew hf4 ef rfl v4 hz8 hN (z_whyHold_8 hm hz8 hN) hm) rfl hT.ob rfl rfl rfl hcat hrm hk (fun h1 hP => ?_)
      exact kk1 (by rw [eok]; exact decide_eq_true hm) h1 (by rw [edo]; exact hT.trans hP)
    · refine r_sV1 hd hc (M_carries_h0 hl hT hp hw4 hs9 ew hf4 ef rfl v4 hz8 hN hm) rfl hT.ob rfl rfl rfl hcat hrm hk (fun h1 hP => ?_)
      exact kk0 (by rw [eok]; exact decide_eq_false hm) h1 (hT.trans hP)
theorem p_rt_5 {tx : Nat → Int32} {s0 : p_S} (h : p_J s0 0) : ∀ d k, (p_rt tx s0 d k).2.2.2.2 ≤ 5
  | 0, k => (p_J_it h k).1
  | d + 1, k => by
    unfold p_rt
    split
    · exact p_rt_5 h d (k + 1)
    · exact (p_J_it h (k + 1)).1
set_option maxRecDepth 100000 in
set_option maxHeartbeats 4000000 in
theorem M_run_lp  {l : Launch} {G : tp_G} {y : Nat} {h9 : tp_H} {hi tx pa : Nat → Int32} {st len thr nu du : Int32} {hs : Int64} (hl : l.stackTraces = false) {R9 : Nat} {P : Nat → (Nat → Int32) → Prop} (hR9 : R9 ≤ 12) (hw : ∀ R, R ≤ R9 → w_row pa R) (hP : ∀ i z, i ≤ R9 → P i z → m_P z) (hPs : ∀ i z, P i z → i ≤ R9 → m_ok z pa i = true → P (i + 1) (m_do z pa i)) {V : Nat × (Nat → Int32)} : ∀ d (i : Nat) (z : Nat → Int32) (h1 : tp_H), d + i = R9 + 1 → mm_S G y h9 z hi tx pa st len thr (nI R9) nu du hs h1 → P i z → r_many (fun u => m_ok u pa) (fun u => m_do u pa) d i z = V → tp_Run l G mX6_run (tp_rm mX6_run 0 0) (tp_QM G 0 0 (tp_PS (some (.int (nI V.1))) (fun h2 => mm_S G y h9 V.2 hi tx pa st len thr (nI R9) nu du hs h2)) tp_NX) 0 0 h1 66 [some (.ref y), some (.int 1), some (.int (nI i))] [] := by
  intro d
  induction d with
  | zero =>
    intro i z h1 hd hT hz hV
    refine r_iload2 dX6_run_66 ?_
    refine r_aload0 dX6_run_67 ?_
    refine r_getf dX6_run_68 f_X6_167 (hT.ob) rfl ?_
    refine r_icmp_gt (tgt := 88) dX6_run_71 (by decide) (fun c71 => ?_) (fun c71 => ?_)
    · have hV0 : V = (i, z) := hV.symm
      refine r_iload2 dX6_run_88 ?_
      exact r_iret dX6_run_89 rfl ⟨(Nat.le_of_ble_eq_true rfl), (Nat.le_of_ble_eq_true rfl)⟩ ⟨by rw [hV0], by rw [hV0]; exact hT⟩
    · exact absurd (by rw [tp_lt (by omega) (by omega)]; omega) c71
  | succ d ih =>
    intro i z h1 hd hT hz hV
    refine r_iload2 dX6_run_66 ?_
    refine r_aload0 dX6_run_67 ?_
    refine r_getf dX6_run_68 f_X6_167 (hT.ob) rfl ?_
    refine r_icmp_gt (tgt := 88) dX6_run_71 (by decide) (fun c71 => ?_) (fun c71 => ?_)
    · exact absurd c71 (by rw [tp_lt (by omega) (by omega)]; omega)
    · refine r_aload0 dX6_run_74 ?_
      refine r_iload2 dX6_run_75 ?_
      refine r_mcar (rest := []) hl dX6_run_76 v_X6_188 hT (by omega) (hw i (by omega)) (hP i z (by omega) hz) (Nat.le_of_ble_eq_true rfl) ⟨(Nat.le_of_ble_eq_true rfl), (Nat.le_of_ble_eq_true rfl)⟩ ⟨(Nat.le_of_ble_eq_true rfl), (Nat.le_of_ble_eq_true rfl)⟩ (fun hk1 h2 hT => ?_) (fun hk0 h2 hT => ?_)
      · refine r_if_eq (tgt := 88) dX6_run_79 (by decide) (fun c79 => ?_) (fun c79 => ?_)
        · exact absurd c79 (by decide)
        · refine r_iinc2 (v := nI (i + 1)) dX6_run_82 (Nat.le_of_ble_eq_true rfl) rfl (tp_inc i) ?_
          exact r_goto (tgt := 66) dX6_run_85 (by decide) (ih (i + 1) _ _ (by omega) hT (hPs i z hz (by omega) hk1) ((if_pos hk1).symm.trans hV))
      · have hV0 : V = (i, z) := hV.symm.trans (if_neg (fun q => Bool.false_ne_true (hk0.symm.trans q)))
        refine r_if_eq (tgt := 88) dX6_run_79 (by decide) (fun c79 => ?_) (fun c79 => ?_)
        · refine r_iload2 dX6_run_88 ?_
          exact r_iret dX6_run_89 rfl ⟨(Nat.le_of_ble_eq_true rfl), (Nat.le_of_ble_eq_true rfl)⟩ ⟨by rw [hV0], by rw [hV0]; exact hT⟩
        · exact absurd rfl c79

set_option maxRecDepth 100000 in
set_option maxHeartbeats 4000000 in
theorem Q_run {s n : Nat} {l : Launch} {G : tp_G} {y : Nat} {h0 h : tp_H} {z hi tx pa : Nat → Int32} {thr rd nu du : Int32} {hs : Int64} (hl : l.stackTraces = false) (hT0 : mm_S G y h0 z hi tx pa (nI s) (nI n) thr rd nu du hs h) (hs6 : s ≤ 6) (hn : n ≤ 60) {P : Nat → (Nat → Int32) → Prop} (hw : ∀ R, R ≤ (p_it tx (pa, 0, nu, 0) n).2.1 → w_row (p_it tx (pa, 0, nu, 0) n).1 R) (hPm : ∀ i z, i ≤ (p_it tx (pa, 0, nu, 0) n).2.1 → P i z → m_P z) (hPs : ∀ i z, P i z → i ≤ (p_it tx (pa, 0, nu, 0) n).2.1 → m_ok z (p_it tx (pa, 0, nu, 0) n).1 i = true → P (i + 1) (m_do z (p_it tx (pa, 0, nu, 0) n).1 i)) (hz : P 0 z) (hg : p_good tx (pa, 0, nu, 0) n) : tp_Met l G mX6_run 0 0 [.ref y] h (tp_PS (some (.int (nI (r_many (fun u => m_ok u (p_it tx (pa, 0, nu, 0) n).1) (fun u => m_do u (p_it tx (pa, 0, nu, 0) n).1) ((p_it tx (pa, 0, nu, 0) n).2.1 + 1) 0 z).1))) (fun h1 => mm_S G y h (r_many (fun u => m_ok u (p_it tx (pa, 0, nu, 0) n).1) (fun u => m_do u (p_it tx (pa, 0, nu, 0) n).1) ((p_it tx (pa, 0, nu, 0) n).2.1 + 1) 0 z).2 (z_saveH hi z s) tx (p_it tx (pa, 0, nu, 0) n).1 (nI (z_saveN s)) 0 0 (nI (p_it tx (pa, 0, nu, 0) n).2.1) (p_it tx (pa, 0, nu, 0) n).2.2.1 (nI (p_it tx (pa, 0, nu, 0) n).2.2.2) hs h1)) tp_NX := by
  have hT := hT0.self
  obtain ⟨g1, g2, g3⟩ := hg
  obtain ⟨ga, gb⟩ := p_rt_all (tx := tx) (s0 := (pa, 0, nu, 0)) n 0 (by omega)
  rw [Nat.zero_add] at ga
  rw [ga] at g2 g3
  have hJ := (p_J_it (tx := tx) (p_J0 pa nu) n).2.2
  refine tp_start (L0 := [some (.ref y), none, none]) (by decide) rfl hl (Nat.le_of_ble_eq_true rfl) rfl ?_
  refine r_aload0 dX6_run_0 ?_
  refine r_sV1 dX6_run_1 v_X6_185 (M_rightUpTo hl hT hn) rfl (hT.ob) rfl rfl rfl (Nat.le_of_ble_eq_true rfl) ⟨(Nat.le_of_ble_eq_true rfl), (Nat.le_of_ble_eq_true rfl)⟩ ⟨(Nat.le_of_ble_eq_true rfl), (Nat.le_of_ble_eq_true rfl)⟩ (fun h1 hP => ?_)
  have hT := hT.trans hP
  rw [ga] at hT
  rw [g1]
  refine r_aload0 dX6_run_4 ?_
  refine r_getf dX6_run_5 f_X6_164 (hT.ob) rfl ?_
  refine r_icmp_ne (tgt := 31) dX6_run_8 (by decide) (fun c8 => ?_) (fun c8 => ?_)
  · exact absurd rfl c8
  · refine r_aload0 dX6_run_11 ?_
    refine r_getf dX6_run_12 f_X6_170 (hT.ob) rfl ?_
    refine r_iconst (v := 5) dX6_run_15 (by decide) ?_
    refine r_icmp_ne (tgt := 31) dX6_run_16 (by decide) (fun c16 => ?_) (fun c16 => ?_)
    · exact absurd (by rw [g2]; rfl) c16
    · refine r_aload0 dX6_run_19 ?_
      refine r_getf dX6_run_20 f_X6_173 (hT.ob) rfl ?_
      refine r_iconst (v := (-1)) dX6_run_23 (by decide) ?_
      refine r_icmp_eq (tgt := 31) dX6_run_24 (by decide) (fun c24 => ?_) (fun c24 => ?_)
      · exact absurd c24 g3
      · refine r_iconst (v := 1) dX6_run_27 (by decide) ?_
        refine r_goto (tgt := 32) dX6_run_28 (by decide) ?_
        refine r_istore1 dX6_run_32 (Nat.le_of_ble_eq_true rfl) rfl ?_
        refine r_aload0 dX6_run_33 ?_
        refine r_iload1 dX6_run_34 ?_
        refine r_if_eq (tgt := 42) dX6_run_35 (by decide) (fun c35 => ?_) (fun c35 => ?_)
        · exact absurd c35 (by decide)
        · refine r_iconst (v := 0) dX6_run_38 (by decide) ?_
          refine r_goto (tgt := 43) dX6_run_39 (by decide) ?_
          refine mm_put_thr dX6_run_43 rfl hT (fun h1 hT => ?_)
          refine r_aload0 dX6_run_46 ?_
          refine r_getf dX6_run_47 f_X6_22 (hT.ob) rfl ?_
          refine r_if_le (tgt := 55) dX6_run_50 (by decide) (fun c50 => ?_) (fun c50 => ?_)
          · refine r_aload0 dX6_run_55 ?_
            refine r_sV0 dX6_run_56 v_X6_68 (M_save hl hT hs6) rfl (hT.ob) rfl rfl rfl (Nat.le_of_ble_eq_true rfl) ⟨(Nat.le_of_ble_eq_true rfl), (Nat.le_of_ble_eq_true rfl)⟩ ⟨(Nat.le_of_ble_eq_true rfl), (Nat.le_of_ble_eq_true rfl)⟩ (fun h1 hP => ?_)
            have hT := hT.trans hP
            refine r_aload0 dX6_run_59 ?_
            refine r_iconst (v := 0) dX6_run_60 (by decide) ?_
            refine mm_put_len dX6_run_61 rfl hT (fun h1 hT => ?_)
            refine r_iconst (v := 0) dX6_run_64 (by decide) ?_
            refine r_istore2 dX6_run_65 (Nat.le_of_ble_eq_true rfl) rfl ?_
            exact M_run_lp hl (by omega) hw hPm hPs ((p_it tx (pa, 0, nu, 0) n).2.1 + 1) 0 z _ rfl hT hz rfl
          · exact absurd (show (0 : Int32) ≤ 0 by decide) c50

set_option maxRecDepth 100000 in
set_option maxHeartbeats 4000000 in
theorem Q_run_1 {n : Nat} {l : Launch} {G : tp_G} {y : Nat} {h0 h : tp_H} {z hi tx pa : Nat → Int32} {st thr rd nu du : Int32} {hs : Int64} (hl : l.stackTraces = false) (hT0 : mm_S G y h0 z hi tx pa st (nI n) thr rd nu du hs h) (hn : n ≤ 60) (hg : ¬ p_good tx (pa, 0, nu, 0) n) : tp_Met l G mX6_run 0 0 [.ref y] h (tp_PS (some (.int 0)) (fun h1 => mm_S G y h z hi tx ((p_rt tx (pa, 0, nu, 0) n 0).2).1 st (nI n) 1 (nI ((p_rt tx (pa, 0, nu, 0) n 0).2).2.1) ((p_rt tx (pa, 0, nu, 0) n 0).2).2.2.1 (nI ((p_rt tx (pa, 0, nu, 0) n 0).2).2.2.2) hs h1)) tp_NX := by
  have hT := hT0.self
  have hJ5 : (p_rt tx (pa, 0, nu, 0) n 0).2.2.2.2 ≤ 5 := p_rt_5 (p_J0 pa nu) n 0
  refine tp_start (L0 := [some (.ref y), none, none]) (by decide) rfl hl (Nat.le_of_ble_eq_true rfl) rfl ?_
  refine r_aload0 dX6_run_0 ?_
  refine r_sV1 dX6_run_1 v_X6_185 (M_rightUpTo hl hT hn) rfl (hT.ob) rfl rfl rfl (Nat.le_of_ble_eq_true rfl) ⟨(Nat.le_of_ble_eq_true rfl), (Nat.le_of_ble_eq_true rfl)⟩ ⟨(Nat.le_of_ble_eq_true rfl), (Nat.le_of_ble_eq_true rfl)⟩ (fun h1 hP => ?_)
  have hT := hT.trans hP
  refine r_aload0 dX6_run_4 ?_
  refine r_getf dX6_run_5 f_X6_164 (hT.ob) rfl ?_
  refine r_icmp_ne (tgt := 31) dX6_run_8 (by decide) (fun c8 => ?_) (fun c8 => ?_)
  · refine r_iconst (v := 0) dX6_run_31 (by decide) ?_
    refine r_istore1 dX6_run_32 (Nat.le_of_ble_eq_true rfl) rfl ?_
    refine r_aload0 dX6_run_33 ?_
    refine r_iload1 dX6_run_34 ?_
    refine r_if_eq (tgt := 42) dX6_run_35 (by decide) (fun c35 => ?_) (fun c35 => ?_)
    · refine r_iconst (v := 1) dX6_run_42 (by decide) ?_
      refine mm_put_thr dX6_run_43 rfl hT (fun h1 hT => ?_)
      refine r_aload0 dX6_run_46 ?_
      refine r_getf dX6_run_47 f_X6_22 (hT.ob) rfl ?_
      refine r_if_le (tgt := 55) dX6_run_50 (by decide) (fun c50 => ?_) (fun c50 => ?_)
      · exact absurd c50 (by decide)
      · refine r_iconst (v := 0) dX6_run_53 (by decide) ?_
        exact r_iret dX6_run_54 rfl ⟨(Nat.le_of_ble_eq_true rfl), (Nat.le_of_ble_eq_true rfl)⟩ ⟨rfl, hT⟩
    · exact absurd rfl c35
  · refine r_aload0 dX6_run_11 ?_
    refine r_getf dX6_run_12 f_X6_170 (hT.ob) rfl ?_
    refine r_iconst (v := 5) dX6_run_15 (by decide) ?_
    refine r_icmp_ne (tgt := 31) dX6_run_16 (by decide) (fun c16 => ?_) (fun c16 => ?_)
    · refine r_iconst (v := 0) dX6_run_31 (by decide) ?_
      refine r_istore1 dX6_run_32 (Nat.le_of_ble_eq_true rfl) rfl ?_
      refine r_aload0 dX6_run_33 ?_
      refine r_iload1 dX6_run_34 ?_
      refine r_if_eq (tgt := 42) dX6_run_35 (by decide) (fun c35 => ?_) (fun c35 => ?_)
      · refine r_iconst (v := 1) dX6_run_42 (by decide) ?_
        refine mm_put_thr dX6_run_43 rfl hT (fun h1 hT => ?_)
        refine r_aload0 dX6_run_46 ?_
        refine r_getf dX6_run_47 f_X6_22 (hT.ob) rfl ?_
        refine r_if_le (tgt := 55) dX6_run_50 (by decide) (fun c50 => ?_) (fun c50 => ?_)
        · exact absurd c50 (by decide)
        · refine r_iconst (v := 0) dX6_run_53 (by decide) ?_
          exact r_iret dX6_run_54 rfl ⟨(Nat.le_of_ble_eq_true rfl), (Nat.le_of_ble_eq_true rfl)⟩ ⟨rfl, hT⟩
      · exact absurd rfl c35
    · refine r_aload0 dX6_run_19 ?_
      refine r_getf dX6_run_20 f_X6_173 (hT.ob) rfl ?_
      refine r_iconst (v := (-1)) dX6_run_23 (by decide) ?_
      refine r_icmp_eq (tgt := 31) dX6_run_24 (by decide) (fun c24 => ?_) (fun c24 => ?_)
      · refine r_iconst (v := 0) dX6_run_31 (by decide) ?_
        refine r_istore1 dX6_run_32 (Nat.le_of_ble_eq_true rfl) rfl ?_
        refine r_aload0 dX6_run_33 ?_
        refine r_iload1 dX6_run_34 ?_
        refine r_if_eq (tgt := 42) dX6_run_35 (by decide) (fun c35 => ?_) (fun c35 => ?_)
        · refine r_iconst (v := 1) dX6_run_42 (by decide) ?_
          refine mm_put_thr dX6_run_43 rfl hT (fun h1 hT => ?_)
          refine r_aload0 dX6_run_46 ?_
          refine r_getf dX6_run_47 f_X6_22 (hT.ob) rfl ?_
          refine r_if_le (tgt := 55) dX6_run_50 (by decide) (fun c50 => ?_) (fun c50 => ?_)
          · exact absurd c50 (by decide)
          · refine r_iconst (v := 0) dX6_run_53 (by decide) ?_
            exact r_iret dX6_run_54 rfl ⟨(Nat.le_of_ble_eq_true rfl), (Nat.le_of_ble_eq_true rfl)⟩ ⟨rfl, hT⟩
        · exact absurd rfl c35
      · refine absurd ⟨?_, ?_, c24⟩ hg
        · have hle := p_rt_le tx (pa, 0, nu, 0) n 0
          exact (tp_eq (by omega) (by omega)).mp c8
        · exact (tp_eq (b := 5) (by omega) (by omega)).mp c16

