theorem z_sweep_8 : ∀ (i : Nat) (z : Nat → Int32) (N : Nat) (g : Int32), z 8 = nI N → i ≤ N → N ≤ 8 → ∃ N', (z_sweep i z g).1 8 = nI N' ∧ N' ≤ N
  | 0, z, N, g, h, _, _ => ⟨N, h, Nat.le_refl _⟩
  | i + 1, z, N, g, h, hi, hN => by
    unfold z_sweep
    split
    · obtain ⟨N', h1, h2⟩ := z_sweep_8 i (z_drop z i) (N - 1) (g + 1) (by rw [z_drop_8, h]; exact tp_m1 (by omega)) (by omega) (by omega)
      exact ⟨N', h1, by omega⟩
    · exact z_sweep_8 i z N g h (by omega) hN
theorem z_day_8 {z : Nat → Int32} {N : Nat} (h : z 8 = nI N) (hN : N ≤ 8) : ∃ N', (z_day z).1 8 = nI N' ∧ N' ≤ N := by
  unfold z_day
  rw [h, z_nI (by omega)]
  exact z_sweep_8 N _ N 0 ((va_c1 8 (by omega)).trans h) (Nat.le_refl _) hN
theorem z_days_8 {z : Nat → Int32} {N : Nat} (h : z 8 = nI N) (hN : N ≤ 8) : ∀ d, ∃ N', (z_days z d).1 8 = nI N' ∧ N' ≤ N
  | 0 => ⟨N, h, Nat.le_refl _⟩
  | d + 1 => by
    obtain ⟨N', h1, h2⟩ := z_days_8 h hN d
    obtain ⟨N2, h3, h4⟩ := z_day_8 h1 (by omega)
    exact ⟨N2, h3, by omega⟩
def z_cpT (z hi : Nat → Int32) (s i : Nat) : Nat → Int32 := fun q => if q < i then hi (196 * s + q) else z q
theorem z_cpT0 (z hi : Nat → Int32) (s : Nat) : z_cpT z hi s 0 = z := funext fun q => if_neg (by omega)
theorem z_cpT1 (z hi : Nat → Int32) (s i : Nat) : va_up (z_cpT z hi s i) i (hi (196 * s + i)) = z_cpT z hi s (i + 1) := by
  funext q
  by_cases hq : q = i
  · subst hq
    rw [va_up_eq]
    unfold z_cpT
    rw [if_pos (by omega)]
  · rw [va_up_ne' _ _ hq]
    unfold z_cpT
    by_cases h2 : q < i
    · rw [if_pos h2, if_pos (by omega)]
    · rw [if_neg h2, if_neg (by omega)]
set_option maxRecDepth 100000 in
set_option maxHeartbeats 4000000 in
theorem M_pass_lp  {l : Launch} {G : tp_G} {y : Nat} {h9 : tp_H} {z hi tx pa : Nat → Int32} {st len thr rd nu du : Int32} {hs : Int64} (hl : l.stackTraces = false) {N d0 : Nat} (hz8 : z 8 = nI N) (hN : N ≤ 8) (hd0 : d0 ≤ 60) : ∀ d (k : Nat) (a4 : Option Value) (h1 : tp_H), k + d = d0 → mm_S G y h9 (z_days z k).1 hi tx pa st len thr rd nu du hs h1 → tp_Run l G mX6_pass (tp_rm mX6_pass 0 0) (tp_QM G 0 0 (tp_PS (some (.int (z_days z d0).2)) (fun h2 => mm_S G y h9 (z_days z d0).1 hi tx pa st len thr rd nu du hs h2)) tp_NX) 0 0 h1 54 [some (.ref y), some (.int (nI d0)), some (.int (z_days z k).2), some (.int (nI k)), a4] [] := by
  intro d
  induction d with
  | zero =>
    intro k a4 h1 hd hT
    refine r_iload3 dX6_pass_54 ?_
    refine r_iload1 dX6_pass_55 ?_
    refine r_icmp_ge (tgt := 76) dX6_pass_56 (by decide) (fun c56 => ?_) (fun c56 => ?_)
    · refine r_iload2 dX6_pass_76 ?_
      exact r_iret dX6_pass_77 rfl ⟨(Nat.le_of_ble_eq_true rfl), (Nat.le_of_ble_eq_true rfl)⟩ ⟨by rw [show k = d0 by omega], by rw [show k = d0 by omega] at hT; exact hT⟩
    · rw [tp_le (by omega) (by omega)] at c56; omega
  | succ d ih =>
    intro k a4 h1 hd hT
    refine r_iload3 dX6_pass_54 ?_
    refine r_iload1 dX6_pass_55 ?_
    refine r_icmp_ge (tgt := 76) dX6_pass_56 (by decide) (fun c56 => ?_) (fun c56 => ?_)
    · rw [tp_le (by omega) (by omega)] at c56; omega
    · refine r_aload0 dX6_pass_59 ?_
      obtain ⟨N1, hz9, hN9⟩ := z_days_8 hz8 hN k
      refine r_sV1 dX6_pass_60 v_X6_154 (M_dayPasses hl hT hz9 (by omega)) rfl (hT.ob) rfl rfl rfl (Nat.le_of_ble_eq_true rfl) ⟨(Nat.le_of_ble_eq_true rfl), (Nat.le_of_ble_eq_true rfl)⟩ ⟨(Nat.le_of_ble_eq_true rfl), (Nat.le_of_ble_eq_true rfl)⟩ (fun h1 hP => ?_)
      have hT := hT.trans hP
      refine r_istore4 dX6_pass_63 (Nat.le_of_ble_eq_true rfl) rfl ?_
      refine r_iload2 dX6_pass_65 ?_
      refine r_iload4 dX6_pass_66 ?_
      refine r_iadd dX6_pass_68 ?_
      refine r_istore2 dX6_pass_69 (Nat.le_of_ble_eq_true rfl) rfl ?_
      refine r_iinc3 (v := nI (k + 1)) dX6_pass_70 (Nat.le_of_ble_eq_true rfl) rfl (tp_inc k) ?_
      exact r_goto (tgt := 54) dX6_pass_73 (by decide) (ih (k + 1) _ h1 (by omega) hT)

set_option maxRecDepth 100000 in
set_option maxHeartbeats 4000000 in
theorem Q_pass {s : Nat} {l : Launch} {G : tp_G} {y : Nat} {h0 h : tp_H} {z hi tx pa : Nat → Int32} {len thr rd nu du : Int32} {hs : Int64} (hl : l.stackTraces = false) (hT0 : mm_S G y h0 z hi tx pa (nI s) len thr rd nu du hs h) (hs6 : s ≤ 6) {d N : Nat} (hz8 : z 8 = nI N) (hN : N ≤ 8) (hd0 : d ≤ 60) (hd : 1 ≤ nI d ∧ nI d ≤ 60) (hm : z 4 + nI d ≤ 5000) : tp_Met l G mX6_pass 0 0 [.ref y, .int (nI d)] h (tp_PS (some (.int ((z_days z d).2))) (fun h1 => mm_S G y h (z_days z d).1 (z_saveH hi z s) tx pa (nI (z_saveN s)) len 0 rd nu du hs h1)) tp_NX := by
  have hT := hT0.self
  refine tp_start (L0 := [some (.ref y), some (.int (nI d)), none, none, none]) (by decide) rfl hl (Nat.le_of_ble_eq_true rfl) rfl ?_
  refine r_aload0 dX6_pass_0 ?_
  refine r_iload1 dX6_pass_1 ?_
  refine r_iconst (v := 1) dX6_pass_2 (by decide) ?_
  refine r_bipush (v := 60) dX6_pass_3 (by decide) ?_
  refine r_pS dX6_pass_5 v_X6_29 (M_within hl) rfl rfl rfl (Nat.le_of_ble_eq_true rfl) ⟨(Nat.le_of_ble_eq_true rfl), (Nat.le_of_ble_eq_true rfl)⟩ ⟨(Nat.le_of_ble_eq_true rfl), (Nat.le_of_ble_eq_true rfl)⟩ ?_
  refine r_if_ne (tgt := 15) dX6_pass_8 (by decide) (fun c8 => ?_) (fun c8 => ?_)
  · refine r_aload0 dX6_pass_15 ?_
    refine r_getf dX6_pass_16 f_X6_7 (hT.ob) rfl ?_
    refine r_iconst (v := 4) dX6_pass_19 (by decide) ?_
    refine r_iald dX6_pass_20 hT.rz (i := 4) (rfl) (by omega) (by decide) ?_
    refine r_iload1 dX6_pass_21 ?_
    refine r_iadd dX6_pass_22 ?_
    refine r_sipush (v := 5000) dX6_pass_23 (by decide) ?_
    refine r_icmp_le (tgt := 33) dX6_pass_26 (by decide) (fun c26 => ?_) (fun c26 => ?_)
    · refine r_iconst (v := 0) dX6_pass_33 (by decide) ?_
      refine mm_put_thr dX6_pass_34 rfl hT (fun h1 hT => ?_)
      refine r_aload0 dX6_pass_37 ?_
      refine r_getf dX6_pass_38 f_X6_22 (hT.ob) rfl ?_
      refine r_if_le (tgt := 46) dX6_pass_41 (by decide) (fun c41 => ?_) (fun c41 => ?_)
      · refine r_aload0 dX6_pass_46 ?_
        refine r_sV0 dX6_pass_47 v_X6_68 (M_save hl hT hs6) rfl (hT.ob) rfl rfl rfl (Nat.le_of_ble_eq_true rfl) ⟨(Nat.le_of_ble_eq_true rfl), (Nat.le_of_ble_eq_true rfl)⟩ ⟨(Nat.le_of_ble_eq_true rfl), (Nat.le_of_ble_eq_true rfl)⟩ (fun h1 hP => ?_)
        have hT := hT.trans hP
        refine r_iconst (v := 0) dX6_pass_50 (by decide) ?_
        refine r_istore2 dX6_pass_51 (Nat.le_of_ble_eq_true rfl) rfl ?_
        refine r_iconst (v := 0) dX6_pass_52 (by decide) ?_
        refine r_istore3 dX6_pass_53 (Nat.le_of_ble_eq_true rfl) rfl ?_
        exact M_pass_lp hl hz8 hN hd0 d 0 none h1 (by omega) hT
      · exact absurd (show (0 : Int32) ≤ 0 by decide) c41
    · first | exact absurd (by assumption) (tp_b_0.mp c26) | exact absurd (by assumption) (tp_b_0.mp (Classical.not_not.mp c26)) | exact absurd (tp_b_n c26) (by assumption) | exact absurd (by assumption) c26 | exact absurd c26 (by assumption)
  · first | exact absurd (by assumption) (tp_b_0.mp c8) | exact absurd (by assumption) (tp_b_0.mp (Classical.not_not.mp c8)) | exact absurd (tp_b_n c8) (by assumption) | exact absurd (by assumption) c8 | exact absurd c8 (by assumption)

set_option maxRecDepth 100000 in
set_option maxHeartbeats 4000000 in
theorem Q_pass_1 {l : Launch} {G : tp_G} {y : Nat} {h0 h : tp_H} {z hi tx pa : Nat → Int32} {st len thr rd nu du : Int32} {hs : Int64} (hl : l.stackTraces = false) (hT0 : mm_S G y h0 z hi tx pa st len thr rd nu du hs h) {d : Int32} (hbad : ¬ (1 ≤ d ∧ d ≤ 60)) : tp_Met l G mX6_pass 0 0 [.ref y, .int d] h (tp_PS (some (.int 0)) (fun h1 => mm_S G y h z hi tx pa st len 1 rd nu du hs h1)) tp_NX := by
  have hT := hT0.self
  refine tp_start (L0 := [some (.ref y), some (.int d), none, none, none]) (by decide) rfl hl (Nat.le_of_ble_eq_true rfl) rfl ?_
  refine r_aload0 dX6_pass_0 ?_
  refine r_iload1 dX6_pass_1 ?_
  refine r_iconst (v := 1) dX6_pass_2 (by decide) ?_
  refine r_bipush (v := 60) dX6_pass_3 (by decide) ?_
  refine r_pS dX6_pass_5 v_X6_29 (M_within hl) rfl rfl rfl (Nat.le_of_ble_eq_true rfl) ⟨(Nat.le_of_ble_eq_true rfl), (Nat.le_of_ble_eq_true rfl)⟩ ⟨(Nat.le_of_ble_eq_true rfl), (Nat.le_of_ble_eq_true rfl)⟩ ?_
  refine r_if_ne (tgt := 15) dX6_pass_8 (by decide) (fun c8 => ?_) (fun c8 => ?_)
  · first | exact absurd (by assumption) (tp_b_0.mp c8) | exact absurd (by assumption) (tp_b_0.mp (Classical.not_not.mp c8)) | exact absurd (tp_b_n c8) (by assumption) | exact absurd (by assumption) c8 | exact absurd c8 (by assumption)
  · refine r_iconst (v := 1) dX6_pass_11 (by decide) ?_
    refine r_goto (tgt := 34) dX6_pass_12 (by decide) ?_
    refine mm_put_thr dX6_pass_34 rfl hT (fun h1 hT => ?_)
    refine r_aload0 dX6_pass_37 ?_
    refine r_getf dX6_pass_38 f_X6_22 (hT.ob) rfl ?_
    refine r_if_le (tgt := 46) dX6_pass_41 (by decide) (fun c41 => ?_) (fun c41 => ?_)
    · exact absurd c41 (by decide)
    · refine r_iconst (v := 0) dX6_pass_44 (by decide) ?_
      exact r_iret dX6_pass_45 rfl ⟨(Nat.le_of_ble_eq_true rfl), (Nat.le_of_ble_eq_true rfl)⟩ ⟨rfl, hT⟩

set_option maxRecDepth 100000 in
set_option maxHeartbeats 4000000 in
theorem Q_pass_2 {l : Launch} {G : tp_G} {y : Nat} {h0 h : tp_H} {z hi tx pa : Nat → Int32} {st len thr rd nu du : Int32} {hs : Int64} (hl : l.stackTraces = false) (hT0 : mm_S G y h0 z hi tx pa st len thr rd nu du hs h) {d : Int32} (hd : 1 ≤ d ∧ d ≤ 60) (hm : ¬ z 4 + d ≤ 5000) : tp_Met l G mX6_pass 0 0 [.ref y, .int d] h (tp_PS (some (.int 0)) (fun h1 => mm_S G y h z hi tx pa st len 2 rd nu du hs h1)) tp_NX := by
  have hT := hT0.self
  refine tp_start (L0 := [some (.ref y), some (.int d), none, none, none]) (by decide) rfl hl (Nat.le_of_ble_eq_true rfl) rfl ?_
  refine r_aload0 dX6_pass_0 ?_
  refine r_iload1 dX6_pass_1 ?_
  refine r_iconst (v := 1) dX6_pass_2 (by decide) ?_
  refine r_bipush (v := 60) dX6_pass_3 (by decide) ?_
  refine r_pS dX6_pass_5 v_X6_29 (M_within hl) rfl rfl rfl (Nat.le_of_ble_eq_true rfl) ⟨(Nat.le_of_ble_eq_true rfl), (Nat.le_of_ble_eq_true rfl)⟩ ⟨(Nat.le_of_ble_eq_true rfl), (Nat.le_of_ble_eq_true rfl)⟩ ?_
  refine r_if_ne (tgt := 15) dX6_pass_8 (by decide) (fun c8 => ?_) (fun c8 => ?_)
  · refine r_aload0 dX6_pass_15 ?_
    refine r_getf dX6_pass_16 f_X6_7 (hT.ob) rfl ?_
    refine r_iconst (v := 4) dX6_pass_19 (by decide) ?_
    refine r_iald dX6_pass_20 hT.rz (i := 4) (rfl) (by omega) (by decide) ?_
    refine r_iload1 dX6_pass_21 ?_
    refine r_iadd dX6_pass_22 ?_
    refine r_sipush (v := 5000) dX6_pass_23 (by decide) ?_
    refine r_icmp_le (tgt := 33) dX6_pass_26 (by decide) (fun c26 => ?_) (fun c26 => ?_)
    · first | exact absurd (by assumption) (tp_b_0.mp c26) | exact absurd (by assumption) (tp_b_0.mp (Classical.not_not.mp c26)) | exact absurd (tp_b_n c26) (by assumption) | exact absurd (by assumption) c26 | exact absurd c26 (by assumption)
    · refine r_iconst (v := 2) dX6_pass_29 (by decide) ?_
      refine r_goto (tgt := 34) dX6_pass_30 (by decide) ?_
      refine mm_put_thr dX6_pass_34 rfl hT (fun h1 hT => ?_)
      refine r_aload0 dX6_pass_37 ?_
      refine r_getf dX6_pass_38 f_X6_22 (hT.ob) rfl ?_
      refine r_if_le (tgt := 46) dX6_pass_41 (by decide) (fun c41 => ?_) (fun c41 => ?_)
      · exact absurd c41 (by decide)
      · refine r_iconst (v := 0) dX6_pass_44 (by decide) ?_
        exact r_iret dX6_pass_45 rfl ⟨(Nat.le_of_ble_eq_true rfl), (Nat.le_of_ble_eq_true rfl)⟩ ⟨rfl, hT⟩
  · first | exact absurd (by assumption) (tp_b_0.mp c8) | exact absurd (by assumption) (tp_b_0.mp (Classical.not_not.mp c8)) | exact absurd (tp_b_n c8) (by assumption) | exact absurd (by assumption) c8 | exact absurd c8 (by assumption)

set_option maxRecDepth 100000 in
set_option maxHeartbeats 4000000 in
theorem M_undo_lp  {l : Launch} {G : tp_G} {y : Nat} {h9 : tp_H} {z hi tx pa : Nat → Int32} {len thr rd nu du : Int32} {hs : Int64} (hl : l.stackTraces = false) {s : Nat} (hs5 : s ≤ 5) : ∀ d (i : Nat) (h1 : tp_H), i + d = 196 → mm_S G y h9 (z_cpT z hi s i) hi tx pa (nI s) len thr rd nu du hs h1 → tp_Run l G mX6_undo (tp_rm mX6_undo 0 0) (tp_QM G 0 0 (tp_PS (some (.int (nI s))) (fun h2 => mm_S G y h9 (z_cpT z hi s 196) hi tx pa (nI s) len thr rd nu du hs h2)) tp_NX) 0 0 h1 37 [some (.ref y), some (.int (nI i))] [] := by
  intro d
  induction d with
  | zero =>
    intro i h1 hd hT
    refine r_iload1 dX6_undo_37 ?_
    refine r_sipush (v := 196) dX6_undo_38 (by decide) ?_
    refine r_icmp_ge (tgt := 71) dX6_undo_41 (by decide) (fun c41 => ?_) (fun c41 => ?_)
    · refine r_aload0 dX6_undo_71 ?_
      refine r_getf dX6_undo_72 f_X6_26 (hT.ob) rfl ?_
      exact r_iret dX6_undo_75 rfl ⟨(Nat.le_of_ble_eq_true rfl), (Nat.le_of_ble_eq_true rfl)⟩ ⟨rfl, by rw [show i = 196 by omega] at hT; exact hT⟩
    · rw [show (196 : Int32) = nI 196 from rfl, tp_le (by omega) (by omega)] at c41; omega
  | succ d ih =>
    intro i h1 hd hT
    refine r_iload1 dX6_undo_37 ?_
    refine r_sipush (v := 196) dX6_undo_38 (by decide) ?_
    refine r_icmp_ge (tgt := 71) dX6_undo_41 (by decide) (fun c41 => ?_) (fun c41 => ?_)
    · rw [show (196 : Int32) = nI 196 from rfl, tp_le (by omega) (by omega)] at c41; omega
    · refine r_aload0 dX6_undo_44 ?_
      refine r_getf dX6_undo_45 f_X6_7 (hT.ob) rfl ?_
      refine r_iload1 dX6_undo_48 ?_
      refine r_aload0 dX6_undo_49 ?_
      refine r_getf dX6_undo_50 f_X6_13 (hT.ob) rfl ?_
      refine r_sipush (v := 196) dX6_undo_53 (by decide) ?_
      refine r_aload0 dX6_undo_56 ?_
      refine r_getf dX6_undo_57 f_X6_26 (hT.ob) rfl ?_
      refine r_imul dX6_undo_60 ?_
      refine r_iload1 dX6_undo_61 ?_
      refine r_iadd dX6_undo_62 ?_
      refine r_iald dX6_undo_63 hT.rhi (i := 196 * s + i) (by rw [show (196 : Int32) = nI 196 from rfl, tp_mul, tp_add]) (by omega) (by decide) ?_
      refine mm_st_z dX6_undo_64 hT (i := i) (rfl) (by omega) (fun h1 hT => ?_)
      rw [z_cpT1] at hT
      refine r_iinc1 (v := nI (i + 1)) dX6_undo_65 (Nat.le_of_ble_eq_true rfl) rfl (tp_inc i) ?_
      exact r_goto (tgt := 37) dX6_undo_68 (by decide) (ih (i + 1) h1 (by omega) hT)

set_option maxRecDepth 100000 in
set_option maxHeartbeats 4000000 in
theorem Q_undo {s : Nat} {l : Launch} {G : tp_G} {y : Nat} {h0 h : tp_H} {z hi tx pa : Nat → Int32} {len thr rd nu du : Int32} {hs : Int64} (hl : l.stackTraces = false) (hT0 : mm_S G y h0 z hi tx pa (nI (s + 1)) len thr rd nu du hs h) (hs5 : s ≤ 5)  : tp_Met l G mX6_undo 0 0 [.ref y] h (tp_PS (some (.int (nI s))) (fun h1 => mm_S G y h (z_cpT z hi s 196) hi tx pa (nI s) len 0 rd nu du hs h1)) tp_NX := by
  have hT := hT0.self
  refine tp_start (L0 := [some (.ref y), none]) (by decide) rfl hl (Nat.le_of_ble_eq_true rfl) rfl ?_
  refine r_aload0 dX6_undo_0 ?_
  refine r_aload0 dX6_undo_1 ?_
  refine r_getf dX6_undo_2 f_X6_26 (hT.ob) rfl ?_
  refine r_if_le (tgt := 12) dX6_undo_5 (by decide) (fun c5 => ?_) (fun c5 => ?_)
  · rw [show (0 : Int32) = nI 0 from rfl, tp_le (by omega) (by omega)] at c5; omega
  · refine r_iconst (v := 0) dX6_undo_8 (by decide) ?_
    refine r_goto (tgt := 13) dX6_undo_9 (by decide) ?_
    refine mm_put_thr dX6_undo_13 rfl hT (fun h1 hT => ?_)
    refine r_aload0 dX6_undo_16 ?_
    refine r_getf dX6_undo_17 f_X6_22 (hT.ob) rfl ?_
    refine r_if_le (tgt := 25) dX6_undo_20 (by decide) (fun c20 => ?_) (fun c20 => ?_)
    · refine r_aload0 dX6_undo_25 ?_
      refine r_dup dX6_undo_26 rfl ?_
      refine r_getf dX6_undo_27 f_X6_26 (hT.ob) rfl ?_
      refine r_iconst (v := 1) dX6_undo_30 (by decide) ?_
      refine r_isub dX6_undo_31 ?_
      rw [nI_pred]
      refine mm_put_st dX6_undo_32 rfl hT (fun h1 hT => ?_)
      refine r_iconst (v := 0) dX6_undo_35 (by decide) ?_
      refine r_istore1 dX6_undo_36 (Nat.le_of_ble_eq_true rfl) rfl ?_
      exact M_undo_lp hl hs5 196 0 h1 (by omega) (by rw [z_cpT0]; exact hT)
    · exact absurd (show (0 : Int32) ≤ 0 by decide) c20

set_option maxRecDepth 100000 in
set_option maxHeartbeats 4000000 in
theorem Q_undo_1 {l : Launch} {G : tp_G} {y : Nat} {h0 h : tp_H} {z hi tx pa : Nat → Int32} {st len thr rd nu du : Int32} {hs : Int64} (hl : l.stackTraces = false) (hT0 : mm_S G y h0 z hi tx pa st len thr rd nu du hs h) (hst : st = 0) : tp_Met l G mX6_undo 0 0 [.ref y] h (tp_PS (some (.int 0)) (fun h1 => mm_S G y h z hi tx pa st len 1 rd nu du hs h1)) tp_NX := by
  have hT := hT0.self
  refine tp_start (L0 := [some (.ref y), none]) (by decide) rfl hl (Nat.le_of_ble_eq_true rfl) rfl ?_
  refine r_aload0 dX6_undo_0 ?_
  refine r_aload0 dX6_undo_1 ?_
  refine r_getf dX6_undo_2 f_X6_26 (hT.ob) rfl ?_
  refine r_if_le (tgt := 12) dX6_undo_5 (by decide) (fun c5 => ?_) (fun c5 => ?_)
  · refine r_iconst (v := 1) dX6_undo_12 (by decide) ?_
    refine mm_put_thr dX6_undo_13 rfl hT (fun h1 hT => ?_)
    refine r_aload0 dX6_undo_16 ?_
    refine r_getf dX6_undo_17 f_X6_22 (hT.ob) rfl ?_
    refine r_if_le (tgt := 25) dX6_undo_20 (by decide) (fun c20 => ?_) (fun c20 => ?_)
    · exact absurd c20 (by decide)
    · refine r_iconst (v := 0) dX6_undo_23 (by decide) ?_
      exact r_iret dX6_undo_24 rfl ⟨(Nat.le_of_ble_eq_true rfl), (Nat.le_of_ble_eq_true rfl)⟩ ⟨rfl, hT⟩
  · exact absurd (by rw [hst]; decide) c5

