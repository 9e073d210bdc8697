set_option maxRecDepth 100000 in
set_option maxHeartbeats 4000000 in
theorem M_save_lp2 {l : Launch} {G : tp_G} {y : Nat} {h9 : tp_H} {z hi tx pa : Nat → Int32} {len thr rd nu du : Int32} {hs : Int64} (hl : l.stackTraces = false) {s : Nat} (hs5 : s ≤ 5)  : ∀ d (i : Nat) (h1 : tp_H), i + d = 196 → mm_S G y h9 z (z_stT hi z s i) tx pa (nI s) len thr rd nu du hs h1 → tp_Run l G mX6_save (tp_rm mX6_save 0 0) (tp_QM G 0 0 (tp_PS (none) (fun h2 => mm_S G y h9 z (z_store hi z s) tx pa (nI (s + 1)) len thr rd nu du hs h2)) tp_NX) 0 0 h1 54 [some (.ref y), some (.int (nI i))] [] := by
  intro d
  induction d with
  | zero =>
    intro i h1 hi9 hT
    refine r_iload1 dX6_save_54 ?_
    refine r_sipush (v := 196) dX6_save_55 (by decide) ?_
    refine r_icmp_ge (tgt := 88) dX6_save_58 (by decide) (fun c58 => ?_) (fun c58 => ?_)
    · refine r_aload0 dX6_save_88 ?_
      refine r_dup dX6_save_89 rfl ?_
      refine r_getf dX6_save_90 f_X6_26 (hT.ob) rfl ?_
      refine r_iconst (v := 1) dX6_save_93 (by decide) ?_
      refine r_iadd dX6_save_94 ?_
      rw [tp_1 s]
      refine mm_put_st dX6_save_95 rfl hT (fun h2 hT => ?_)
      exact r_vret dX6_save_98 rfl ⟨(Nat.le_of_ble_eq_true rfl), (Nat.le_of_ble_eq_true rfl)⟩ ⟨rfl, by rw [show z_store hi z s = z_stT hi z s i from by unfold z_store z_stT; rw [show i = 196 by omega]]; exact hT⟩
    · rw [show (196 : Int32) = nI 196 from rfl, tp_le (by omega) (by omega)] at c58; omega
  | succ d ih =>
    intro i h1 hi9 hT
    refine r_iload1 dX6_save_54 ?_
    refine r_sipush (v := 196) dX6_save_55 (by decide) ?_
    refine r_icmp_ge (tgt := 88) dX6_save_58 (by decide) (fun c58 => ?_) (fun c58 => ?_)
    · rw [show (196 : Int32) = nI 196 from rfl, tp_le (by omega) (by omega)] at c58; omega
    · refine r_aload0 dX6_save_61 ?_
      refine r_getf dX6_save_62 f_X6_13 (hT.ob) rfl ?_
      refine r_sipush (v := 196) dX6_save_65 (by decide) ?_
      refine r_aload0 dX6_save_68 ?_
      refine r_getf dX6_save_69 f_X6_26 (hT.ob) rfl ?_
      refine r_imul dX6_save_72 ?_
      refine r_iload1 dX6_save_73 ?_
      refine r_iadd dX6_save_74 ?_
      refine r_aload0 dX6_save_75 ?_
      refine r_getf dX6_save_76 f_X6_7 (hT.ob) rfl ?_
      refine r_iload1 dX6_save_79 ?_
      refine r_iald dX6_save_80 hT.rz (i := i) (rfl) (by omega) (by decide) ?_
      refine mm_st_hi dX6_save_81 hT (i := 196 * s + i) (by rw [show (196 : Int32) = nI 196 from rfl, tp_mul, tp_add]) (by omega) (fun h2 hT => ?_)
      refine r_iinc1 (v := nI (i + 1)) dX6_save_82 (Nat.le_of_ble_eq_true rfl) rfl (tp_inc i) ?_
      exact r_goto (tgt := 54) dX6_save_85 (by decide) (ih (i + 1) h2 (by omega) (by rw [← z_stT1]; exact hT))

set_option maxRecDepth 100000 in
set_option maxHeartbeats 4000000 in
theorem M_save_lp1 {l : Launch} {G : tp_G} {y : Nat} {h9 : tp_H} {z hi tx pa : Nat → Int32} {len thr rd nu du : Int32} {hs : Int64} (hl : l.stackTraces = false)  : ∀ d (i : Nat) (h1 : tp_H), 196 ≤ i → i + d = 1176 → mm_S G y h9 z (z_shT hi i) tx pa (nI 6) len thr rd nu du hs h1 → tp_Run l G mX6_save (tp_rm mX6_save 0 0) (tp_QM G 0 0 (tp_PS (none) (fun h2 => mm_S G y h9 z (z_store (z_shift hi) z 5) tx pa (nI 6) len thr rd nu du hs h2)) tp_NX) 0 0 h1 13 [some (.ref y), some (.int (nI i))] [] := by
  intro d
  induction d with
  | zero =>
    intro i h1 hi8 hi9 hT
    refine r_iload1 dX6_save_13 ?_
    refine r_sipush (v := 1176) dX6_save_14 (by decide) ?_
    refine r_icmp_ge (tgt := 42) dX6_save_17 (by decide) (fun c17 => ?_) (fun c17 => ?_)
    · have e0 : z_shT hi i = z_shift hi := by rw [show i = 1176 by omega]; exact z_shT_end hi
      rw [e0] at hT
      refine r_aload0 dX6_save_42 ?_
      refine r_dup dX6_save_43 rfl ?_
      refine r_getf dX6_save_44 f_X6_26 (hT.ob) rfl ?_
      refine r_iconst (v := 1) dX6_save_47 (by decide) ?_
      refine r_isub dX6_save_48 ?_
      rw [show nI 6 - 1 = nI 5 from rfl]
      refine mm_put_st dX6_save_49 rfl hT (fun h2 hT => ?_)
      refine r_iconst (v := 0) dX6_save_52 (by decide) ?_
      refine r_istore1 dX6_save_53 (Nat.le_of_ble_eq_true rfl) rfl ?_
      exact M_save_lp2 (h9 := h9) (hi := z_shift hi) (s := 5) hl (by omega) 196 0 h2 (by omega) (by rw [z_stT0]; exact hT)
    · rw [show (1176 : Int32) = nI 1176 from rfl, tp_le (by omega) (by omega)] at c17; omega
  | succ d ih =>
    intro i h1 hi8 hi9 hT
    refine r_iload1 dX6_save_13 ?_
    refine r_sipush (v := 1176) dX6_save_14 (by decide) ?_
    refine r_icmp_ge (tgt := 42) dX6_save_17 (by decide) (fun c17 => ?_) (fun c17 => ?_)
    · rw [show (1176 : Int32) = nI 1176 from rfl, tp_le (by omega) (by omega)] at c17; omega
    · refine r_aload0 dX6_save_20 ?_
      refine r_getf dX6_save_21 f_X6_13 (hT.ob) rfl ?_
      refine r_iload1 dX6_save_24 ?_
      refine r_sipush (v := 196) dX6_save_25 (by decide) ?_
      refine r_isub dX6_save_28 ?_
      refine r_aload0 dX6_save_29 ?_
      refine r_getf dX6_save_30 f_X6_13 (hT.ob) rfl ?_
      refine r_iload1 dX6_save_33 ?_
      refine r_iald dX6_save_34 hT.rhi (i := i) (rfl) (by omega) (by decide) ?_
      refine mm_st_hi dX6_save_35 hT (i := i - 196) (by rw [show (196 : Int32) = nI 196 from rfl, tp_sub (by omega)]) (by omega) (fun h2 hT => ?_)
      refine r_iinc1 (v := nI (i + 1)) dX6_save_36 (Nat.le_of_ble_eq_true rfl) rfl (tp_inc i) ?_
      exact r_goto (tgt := 13) dX6_save_39 (by decide) (ih (i + 1) h2 (by omega) (by omega) (by rw [← z_shT1 hi hi8]; exact hT))

set_option maxRecDepth 100000 in
set_option maxHeartbeats 4000000 in
theorem M_save {s : Nat} {l : Launch} {G : tp_G} {y : Nat} {h0 h : tp_H} {z hi tx pa : Nat → Int32} {len thr rd nu du : Int32} {hs : Int64} (hl : l.stackTraces = false) (hT0 : mm_S G y h0 z hi tx pa (nI s) len thr rd nu du hs h) (hs6 : s ≤ 6) : tp_Met l G mX6_save 0 0 [.ref y] h (tp_PS (none) (fun h1 => mm_S G y h z (z_saveH hi z s) tx pa (nI (z_saveN s)) len thr rd nu du hs h1)) tp_NX := by
  have hT := hT0.self
  refine tp_start (L0 := [some (.ref y), none]) (by decide) rfl hl (Nat.le_of_ble_eq_true rfl) rfl ?_
  refine r_aload0 dX6_save_0 ?_
  refine r_getf dX6_save_1 f_X6_26 (hT.ob) rfl ?_
  refine r_bipush (v := 6) dX6_save_4 (by decide) ?_
  refine r_icmp_ne (tgt := 52) dX6_save_6 (by decide) (fun c6 => ?_) (fun c6 => ?_)
  · have e6 : ¬ s = 6 := fun q => c6 (by rw [q]; rfl)
    have f1 : z_saveH hi z s = z_store hi z s := if_neg e6
    have f2 : z_saveN s = s + 1 := if_neg e6
    rw [f1, f2]
    refine r_iconst (v := 0) dX6_save_52 (by decide) ?_
    refine r_istore1 dX6_save_53 (Nat.le_of_ble_eq_true rfl) rfl ?_
    exact M_save_lp2 (h9 := h) hl (by omega) 196 0 h (by omega) (by rw [z_stT0]; exact hT)
  · have e6 : s = 6 := by
      rw [show (6 : Int32) = nI 6 from rfl, tp_eq (by omega) (by omega)] at c6; exact c6
    subst e6
    refine r_sipush (v := 196) dX6_save_9 (by decide) ?_
    refine r_istore1 dX6_save_12 (Nat.le_of_ble_eq_true rfl) rfl ?_
    exact M_save_lp1 (h9 := h) hl 980 196 h (by omega) (by omega) (by rw [z_shT0]; exact hT)

set_option maxRecDepth 100000 in
set_option maxHeartbeats 4000000 in
theorem M_holds {l : Launch} {G : tp_G} {y : Nat} {h0 h : tp_H} {z hi tx pa : Nat → Int32} {st len thr rd nu du : Int32} {hs : Int64} (hl : l.stackTraces = false) (hT0 : mm_S G y h0 z hi tx pa st len thr rd nu du hs h) {w c N : Nat} {a : Int32} (hz8 : z 8 = nI N) (hN : N < 8) : tp_Met l G mX6_holds 0 0 [.ref y, .int (nI w), .int (nI c), .int a] h (tp_PS (some (.int (z 8))) (fun h1 => mm_S G y h (z_holds z w c a) hi tx pa st len thr rd nu du hs h1)) tp_NX := by
  have hT := hT0.self
  refine tp_start (L0 := [some (.ref y), some (.int (nI w)), some (.int (nI c)), some (.int a), none]) (by decide) rfl hl (Nat.le_of_ble_eq_true rfl) rfl ?_
  refine r_bipush (v := 96) dX6_holds_0 (by decide) ?_
  refine r_iconst (v := 5) dX6_holds_2 (by decide) ?_
  refine r_aload0 dX6_holds_3 ?_
  refine r_getf dX6_holds_4 f_X6_7 (hT.ob) rfl ?_
  refine r_bipush (v := 8) dX6_holds_7 (by decide) ?_
  refine r_iald dX6_holds_9 hT.rz (i := 8) (rfl) (by omega) (by decide) ?_
  rw [hz8]
  refine r_imul dX6_holds_10 ?_
  refine r_iadd dX6_holds_11 ?_
  have e4 : (96 : Int32) + 5 * nI N = nI (96 + 5 * N) := by rw [show (5 : Int32) = nI 5 from rfl, show (96 : Int32) = nI 96 from rfl, tp_mul, tp_add]
  refine r_istore4 dX6_holds_12 (Nat.le_of_ble_eq_true rfl) rfl ?_
  refine r_aload0 dX6_holds_14 ?_
  refine r_getf dX6_holds_15 f_X6_7 (hT.ob) rfl ?_
  refine r_bipush (v := 8) dX6_holds_18 (by decide) ?_
  refine r_dup2 dX6_holds_20 rfl rfl ?_
  refine r_iald dX6_holds_21 hT.rz (i := 8) (rfl) (by omega) (by decide) ?_
  refine r_iconst (v := 1) dX6_holds_22 (by decide) ?_
  refine r_iadd dX6_holds_23 ?_
  refine mm_st_z dX6_holds_24 hT (i := 8) (rfl) (by omega) (fun h1 hT => ?_)
  refine r_aload0 dX6_holds_25 ?_
  refine r_getf dX6_holds_26 f_X6_7 (hT.ob) rfl ?_
  refine r_iload4 dX6_holds_29 ?_
  refine r_iconst (v := 0) dX6_holds_31 (by decide) ?_
  refine r_iadd dX6_holds_32 ?_
  refine r_iload1 dX6_holds_33 ?_
  refine mm_st_z dX6_holds_34 hT (i := 96 + 5 * N + 0) (by rw [e4]; exact tp_add _ 0) (by omega) (fun h1 hT => ?_)
  refine r_aload0 dX6_holds_35 ?_
  refine r_getf dX6_holds_36 f_X6_7 (hT.ob) rfl ?_
  refine r_iload4 dX6_holds_39 ?_
  refine r_iconst (v := 1) dX6_holds_41 (by decide) ?_
  refine r_iadd dX6_holds_42 ?_
  refine r_iload2 dX6_holds_43 ?_
  refine mm_st_z dX6_holds_44 hT (i := 96 + 5 * N + 1) (by rw [e4]; exact tp_add _ 1) (by omega) (fun h1 hT => ?_)
  refine r_aload0 dX6_holds_45 ?_
  refine r_getf dX6_holds_46 f_X6_7 (hT.ob) rfl ?_
  refine r_iload4 dX6_holds_49 ?_
  refine r_iconst (v := 2) dX6_holds_51 (by decide) ?_
  refine r_iadd dX6_holds_52 ?_
  refine r_iload3 dX6_holds_53 ?_
  refine mm_st_z dX6_holds_54 hT (i := 96 + 5 * N + 2) (by rw [e4]; exact tp_add _ 2) (by omega) (fun h1 hT => ?_)
  refine r_aload0 dX6_holds_55 ?_
  refine r_getf dX6_holds_56 f_X6_7 (hT.ob) rfl ?_
  refine r_iload4 dX6_holds_59 ?_
  refine r_iconst (v := 3) dX6_holds_61 (by decide) ?_
  refine r_iadd dX6_holds_62 ?_
  refine r_aload0 dX6_holds_63 ?_
  refine r_iload3 dX6_holds_64 ?_
  refine r_pV dX6_holds_65 v_X6_111 (M_withTip hl hT) rfl (hT.ob) rfl rfl rfl (Nat.le_of_ble_eq_true rfl) ⟨(Nat.le_of_ble_eq_true rfl), (Nat.le_of_ble_eq_true rfl)⟩ ⟨(Nat.le_of_ble_eq_true rfl), (Nat.le_of_ble_eq_true rfl)⟩ ?_
  refine mm_st_z dX6_holds_68 hT (i := 96 + 5 * N + 3) (by rw [e4]; exact tp_add _ 3) (by omega) (fun h1 hT => ?_)
  refine r_aload0 dX6_holds_69 ?_
  refine r_getf dX6_holds_70 f_X6_7 (hT.ob) rfl ?_
  refine r_iload4 dX6_holds_73 ?_
  refine r_iconst (v := 4) dX6_holds_75 (by decide) ?_
  refine r_iadd dX6_holds_76 ?_
  refine r_aload0 dX6_holds_77 ?_
  refine r_getf dX6_holds_78 f_X6_7 (hT.ob) rfl ?_
  refine r_iconst (v := 4) dX6_holds_81 (by decide) ?_
  refine r_iald dX6_holds_82 hT.rz (i := 4) (rfl) (by omega) (by decide) ?_
  refine mm_st_z dX6_holds_83 hT (i := 96 + 5 * N + 4) (by rw [e4]; exact tp_add _ 4) (by omega) (fun h1 hT => ?_)
  have hT := hT.cz (z_holds_eq hz8 hN)
  refine r_aload0 dX6_holds_84 ?_
  refine r_getf dX6_holds_85 f_X6_7 (hT.ob) rfl ?_
  refine r_bipush (v := 8) dX6_holds_88 (by decide) ?_
  refine r_iald dX6_holds_90 hT.rz (i := 8) (rfl) (by omega) (by decide) ?_
  refine r_iconst (v := 1) dX6_holds_91 (by decide) ?_
  refine r_isub dX6_holds_92 ?_
  exact r_iret dX6_holds_93 rfl ⟨(Nat.le_of_ble_eq_true rfl), (Nat.le_of_ble_eq_true rfl)⟩ ⟨by rw [z_holds_8 hz8 hN, hz8], hT⟩

set_option maxRecDepth 100000 in
set_option maxHeartbeats 4000000 in
theorem M_removeHold_lp {l : Launch} {G : tp_G} {y : Nat} {h9 : tp_H} {z1 hi tx pa : Nat → Int32} {st len thr rd nu du : Int32} {hs : Int64} (hl : l.stackTraces = false) {j N : Nat} (hN : 1 ≤ N ∧ N ≤ 8) (hz : z1 8 = nI (N - 1))  : ∀ d (i : Nat) (h1 : tp_H), 96 + 5 * j ≤ i → i + d = 96 + 5 * (N - 1) → mm_S G y h9 (z_dropT z1 j i) hi tx pa st len thr rd nu du hs h1 → tp_Run l G mX6_removeHold (tp_rm mX6_removeHold 0 0) (tp_QM G 0 0 (tp_PS (none) (fun h2 => mm_S G y h9 (z_dropT z1 j (96 + 5 * (N - 1))) hi tx pa st len thr rd nu du hs h2)) tp_NX) 0 0 h1 18 [some (.ref y), some (.int (nI j)), some (.int (nI i))] [] := by
  intro d
  induction d with
  | zero =>
    intro i h1 hi8 hi9 hT
    refine r_iload2 dX6_removeHold_18 ?_
    refine r_bipush (v := 96) dX6_removeHold_19 (by decide) ?_
    refine r_iconst (v := 5) dX6_removeHold_21 (by decide) ?_
    refine r_aload0 dX6_removeHold_22 ?_
    refine r_getf dX6_removeHold_23 f_X6_7 (hT.ob) rfl ?_
    refine r_bipush (v := 8) dX6_removeHold_26 (by decide) ?_
    have e8 : z_dropT z1 j i 8 = nI (N - 1) := by unfold z_dropT; rw [if_neg (by omega)]; exact hz
    have e5 : (96 : Int32) + 5 * nI (N - 1) = nI (96 + 5 * (N - 1)) := by rw [show (5 : Int32) = nI 5 from rfl, show (96 : Int32) = nI 96 from rfl, tp_mul, tp_add]
    refine r_iald dX6_removeHold_28 hT.rz (i := 8) (rfl) (by omega) (by decide) ?_
    rw [e8]
    refine r_imul dX6_removeHold_29 ?_
    refine r_iadd dX6_removeHold_30 ?_
    rw [e5]
    refine r_icmp_ge (tgt := 54) dX6_removeHold_31 (by decide) (fun c31 => ?_) (fun c31 => ?_)
    · exact r_vret dX6_removeHold_54 rfl ⟨(Nat.le_of_ble_eq_true rfl), (Nat.le_of_ble_eq_true rfl)⟩ ⟨rfl, by rw [← show i = 96 + 5 * (N - 1) by omega]; exact hT⟩
    · rw [tp_le (by omega) (by omega)] at c31; omega
  | succ d ih =>
    intro i h1 hi8 hi9 hT
    refine r_iload2 dX6_removeHold_18 ?_
    refine r_bipush (v := 96) dX6_removeHold_19 (by decide) ?_
    refine r_iconst (v := 5) dX6_removeHold_21 (by decide) ?_
    refine r_aload0 dX6_removeHold_22 ?_
    refine r_getf dX6_removeHold_23 f_X6_7 (hT.ob) rfl ?_
    refine r_bipush (v := 8) dX6_removeHold_26 (by decide) ?_
    have e8 : z_dropT z1 j i 8 = nI (N - 1) := by unfold z_dropT; rw [if_neg (by omega)]; exact hz
    have e5 : (96 : Int32) + 5 * nI (N - 1) = nI (96 + 5 * (N - 1)) := by rw [show (5 : Int32) = nI 5 from rfl, show (96 : Int32) = nI 96 from rfl, tp_mul, tp_add]
    refine r_iald dX6_removeHold_28 hT.rz (i := 8) (rfl) (by omega) (by decide) ?_
    rw [e8]
    refine r_imul dX6_removeHold_29 ?_
    refine r_iadd dX6_removeHold_30 ?_
    rw [e5]
    refine r_icmp_ge (tgt := 54) dX6_removeHold_31 (by decide) (fun c31 => ?_) (fun c31 => ?_)
    · rw [tp_le (by omega) (by omega)] at c31; omega
    · refine r_aload0 dX6_removeHold_34 ?_
      refine r_getf dX6_removeHold_35 f_X6_7 (hT.ob) rfl ?_
      refine r_iload2 dX6_removeHold_38 ?_
      refine r_aload0 dX6_removeHold_39 ?_
      refine r_getf dX6_removeHold_40 f_X6_7 (hT.ob) rfl ?_
      refine r_iload2 dX6_removeHold_43 ?_
      refine r_iconst (v := 5) dX6_removeHold_44 (by decide) ?_
      refine r_iadd dX6_removeHold_45 ?_
      refine r_iald dX6_removeHold_46 hT.rz (i := i + 5) (tp_add i 5) (by omega) (by decide) ?_
      refine mm_st_z dX6_removeHold_47 hT (i := i) rfl (by omega) (fun h2 hT => ?_)
      refine r_iinc2 (v := nI (i + 1)) dX6_removeHold_48 (Nat.le_of_ble_eq_true rfl) rfl (tp_inc i) ?_
      exact r_goto (tgt := 18) dX6_removeHold_51 (by decide) (ih (i + 1) h2 (by omega) (by omega) (by rw [← z_dropT1 _ hi8]; exact hT))

set_option maxRecDepth 100000 in
set_option maxHeartbeats 4000000 in
theorem M_removeHold {l : Launch} {G : tp_G} {y : Nat} {h0 h : tp_H} {z hi tx pa : Nat → Int32} {st len thr rd nu du : Int32} {hs : Int64} (hl : l.stackTraces = false) (hT0 : mm_S G y h0 z hi tx pa st len thr rd nu du hs h) {j N : Nat} (hz8 : z 8 = nI N) (hN : N ≤ 8) (hj : j < N) : tp_Met l G mX6_removeHold 0 0 [.ref y, .int (nI j)] h (tp_PS (none) (fun h1 => mm_S G y h (z_drop z j) hi tx pa st len thr rd nu du hs h1)) tp_NX := by
  have hT := hT0.self
  refine tp_start (L0 := [some (.ref y), some (.int (nI j)), none]) (by decide) rfl hl (Nat.le_of_ble_eq_true rfl) rfl ?_
  refine r_aload0 dX6_removeHold_0 ?_
  refine r_getf dX6_removeHold_1 f_X6_7 (hT.ob) rfl ?_
  refine r_bipush (v := 8) dX6_removeHold_4 (by decide) ?_
  refine r_dup2 dX6_removeHold_6 rfl rfl ?_
  refine r_iald dX6_removeHold_7 hT.rz (i := 8) (rfl) (by omega) (by decide) ?_
  refine r_iconst (v := 1) dX6_removeHold_8 (by decide) ?_
  refine r_isub dX6_removeHold_9 ?_
  refine mm_st_z dX6_removeHold_10 hT (i := 8) (rfl) (by omega) (fun h1 hT => ?_)
  refine r_bipush (v := 96) dX6_removeHold_11 (by decide) ?_
  refine r_iconst (v := 5) dX6_removeHold_13 (by decide) ?_
  refine r_iload1 dX6_removeHold_14 ?_
  refine r_imul dX6_removeHold_15 ?_
  refine r_iadd dX6_removeHold_16 ?_
  have e5 : (96 : Int32) + 5 * nI j = nI (96 + 5 * j) := by rw [show (5 : Int32) = nI 5 from rfl, show (96 : Int32) = nI 96 from rfl, tp_mul, tp_add]
  refine r_istore2 dX6_removeHold_17 (Nat.le_of_ble_eq_true rfl) rfl ?_
  rw [e5, ← z_drop_eq z hz8 hN hj]
  exact M_removeHold_lp (h9 := h) hl (N := N) (by omega) (by rw [va_up_eq, hz8]; exact tp_sub (a := N) (b := 1) (by omega)) (96 + 5 * (N - 1) - (96 + 5 * j)) (96 + 5 * j) h1 (by omega) (by omega) (by rw [z_dropT0]; exact hT)

set_option maxRecDepth 100000 in
set_option maxHeartbeats 4000000 in
theorem M_canDispute {l : Launch} {G : tp_G} {y : Nat} {h0 h : tp_H} {z hi tx pa : Nat → Int32} {st len thr rd nu du : Int32} {hs : Int64} (hl : l.stackTraces = false) (hT0 : mm_S G y h0 z hi tx pa st len thr rd nu du hs h) {p : Nat} (hp : p < 12) : tp_Met l G mX6_canDispute 0 0 [.ref y, .int (nI p)] h (tp_PR (.int (tp_b (z (136 + 5 * p + 4) = 0 ∧ z 4 ≤ z (136 + 5 * p + 3) + 30))) h) tp_NX := by
  have hT := hT0.self
  refine tp_start (L0 := [some (.ref y), some (.int (nI p))]) (by decide) rfl hl (Nat.le_of_ble_eq_true rfl) rfl ?_
  refine r_aload0 dX6_canDispute_0 ?_
  refine r_iload1 dX6_canDispute_1 ?_
  refine r_iconst (v := 4) dX6_canDispute_2 (by decide) ?_
  refine r_pV dX6_canDispute_3 v_X6_127 (M_ofPayment (j := 4) hl hT hp (by omega)) rfl (hT.ob) rfl rfl rfl (Nat.le_of_ble_eq_true rfl) ⟨(Nat.le_of_ble_eq_true rfl), (Nat.le_of_ble_eq_true rfl)⟩ ⟨(Nat.le_of_ble_eq_true rfl), (Nat.le_of_ble_eq_true rfl)⟩ ?_
  refine r_if_ne (tgt := 31) dX6_canDispute_6 (by decide) (fun c6 => ?_) (fun c6 => ?_)
  · refine r_iconst (v := 0) dX6_canDispute_31 (by decide) ?_
    exact r_zret dX6_canDispute_32 rfl ⟨(Nat.le_of_ble_eq_true rfl), (Nat.le_of_ble_eq_true rfl)⟩ (by first | rfl | decide) ⟨by first | (rw [tp_b_f (fun q => c6 q.1)]; done) | (rw [tp_b_f (fun q => absurd q.2 (Int32.not_le.mpr c24))]; done) | (rw [tp_b_t ⟨c6, Int32.not_lt.mp c24⟩]; done), rfl⟩
  · refine r_aload0 dX6_canDispute_9 ?_
    refine r_getf dX6_canDispute_10 f_X6_7 (hT.ob) rfl ?_
    refine r_iconst (v := 4) dX6_canDispute_13 (by decide) ?_
    refine r_iald dX6_canDispute_14 hT.rz (i := 4) (rfl) (by omega) (by decide) ?_
    refine r_aload0 dX6_canDispute_15 ?_
    refine r_iload1 dX6_canDispute_16 ?_
    refine r_iconst (v := 3) dX6_canDispute_17 (by decide) ?_
    refine r_pV dX6_canDispute_18 v_X6_127 (M_ofPayment (j := 3) hl hT hp (by omega)) rfl (hT.ob) rfl rfl rfl (Nat.le_of_ble_eq_true rfl) ⟨(Nat.le_of_ble_eq_true rfl), (Nat.le_of_ble_eq_true rfl)⟩ ⟨(Nat.le_of_ble_eq_true rfl), (Nat.le_of_ble_eq_true rfl)⟩ ?_
    refine r_bipush (v := 30) dX6_canDispute_21 (by decide) ?_
    refine r_iadd dX6_canDispute_23 ?_
    refine r_icmp_gt (tgt := 31) dX6_canDispute_24 (by decide) (fun c24 => ?_) (fun c24 => ?_)
    · refine r_iconst (v := 0) dX6_canDispute_31 (by decide) ?_
      exact r_zret dX6_canDispute_32 rfl ⟨(Nat.le_of_ble_eq_true rfl), (Nat.le_of_ble_eq_true rfl)⟩ (by first | rfl | decide) ⟨by first | (rw [tp_b_f (fun q => c6 q.1)]; done) | (rw [tp_b_f (fun q => absurd q.2 (Int32.not_le.mpr c24))]; done) | (rw [tp_b_t ⟨c6, Int32.not_lt.mp c24⟩]; done), rfl⟩
    · refine r_iconst (v := 1) dX6_canDispute_27 (by decide) ?_
      refine r_goto (tgt := 32) dX6_canDispute_28 (by decide) ?_
      exact r_zret dX6_canDispute_32 rfl ⟨(Nat.le_of_ble_eq_true rfl), (Nat.le_of_ble_eq_true rfl)⟩ (by first | rfl | decide) ⟨by first | (rw [tp_b_f (fun q => c6 q.1)]; done) | (rw [tp_b_f (fun q => absurd q.2 (Int32.not_le.mpr c24))]; done) | (rw [tp_b_t ⟨c6, Int32.not_lt.mp c24⟩]; done), rfl⟩

set_option maxRecDepth 100000 in
set_option maxHeartbeats 4000000 in
theorem M_takesBack {l : Launch} {G : tp_G} {y : Nat} {h0 h : tp_H} {z hi tx pa : Nat → Int32} {st len thr rd nu du : Int32} {hs : Int64} (hl : l.stackTraces = false) (hT0 : mm_S G y h0 z hi tx pa st len thr rd nu du hs h) {w c N : Nat} {a : Int32} (hw : w < 4) (hc : c < 4) (hz8 : z 8 = nI N) (hN : N ≤ 8) : tp_Met l G mX6_takesBack 0 0 [.ref y, .int (nI w), .int (nI c), .int a] h (tp_PS (some (.int (a - z_taken z w c a))) (fun h1 => mm_S G y h (z_back z w c a) hi tx pa st len thr rd nu du hs h1)) tp_NX := by
  have hT := hT0.self
  refine tp_start (L0 := [some (.ref y), some (.int (nI w)), some (.int (nI c)), some (.int a), none, none]) (by decide) rfl hl (Nat.le_of_ble_eq_true rfl) rfl ?_
  refine r_aload0 dX6_takesBack_0 ?_
  refine r_iload1 dX6_takesBack_1 ?_
  refine r_iload2 dX6_takesBack_2 ?_
  refine r_pV dX6_takesBack_3 v_X6_102 (M_freeOf hl hT hw hc hz8 hN) rfl (hT.ob) rfl rfl rfl (Nat.le_of_ble_eq_true rfl) ⟨(Nat.le_of_ble_eq_true rfl), (Nat.le_of_ble_eq_true rfl)⟩ ⟨(Nat.le_of_ble_eq_true rfl), (Nat.le_of_ble_eq_true rfl)⟩ ?_
  refine r_istore4 dX6_takesBack_6 (Nat.le_of_ble_eq_true rfl) rfl ?_
  refine r_iload4 dX6_takesBack_8 ?_
  refine r_iload3 dX6_takesBack_10 ?_
  refine r_icmp_ge (tgt := 19) dX6_takesBack_11 (by decide) (fun c11 => ?_) (fun c11 => ?_)
  · have e11 : z_taken z w c a = a := if_neg (Int32.not_lt.mpr c11)
    refine r_iload3 dX6_takesBack_19 ?_
    refine r_istore5 dX6_takesBack_20 (Nat.le_of_ble_eq_true rfl) rfl ?_
    refine r_aload0 dX6_takesBack_22 ?_
    refine r_getf dX6_takesBack_23 f_X6_7 (hT.ob) rfl ?_
    refine r_iload1 dX6_takesBack_26 ?_
    refine r_iload2 dX6_takesBack_27 ?_
    refine r_pS dX6_takesBack_28 v_X6_45 (M_at (w := w) (c := c) hl) rfl rfl rfl (Nat.le_of_ble_eq_true rfl) ⟨(Nat.le_of_ble_eq_true rfl), (Nat.le_of_ble_eq_true rfl)⟩ ⟨(Nat.le_of_ble_eq_true rfl), (Nat.le_of_ble_eq_true rfl)⟩ ?_
    refine r_iconst (v := 0) dX6_takesBack_31 (by decide) ?_
    refine r_iadd dX6_takesBack_32 ?_
    refine r_dup2 dX6_takesBack_33 rfl rfl ?_
    refine r_iald dX6_takesBack_34 hT.rz (i := z_at w c + 0) (tp_add _ 0) (by unfold z_at; omega) (by decide) ?_
    refine r_iload5 dX6_takesBack_35 ?_
    refine r_isub dX6_takesBack_37 ?_
    refine mm_st_z dX6_takesBack_38 hT (i := z_at w c + 0) (tp_add _ 0) (by unfold z_at; omega) (fun h1 hT => ?_)
    refine r_aload0 dX6_takesBack_39 ?_
    refine r_getf dX6_takesBack_40 f_X6_7 (hT.ob) rfl ?_
    refine r_iload1 dX6_takesBack_43 ?_
    refine r_iload2 dX6_takesBack_44 ?_
    refine r_pS dX6_takesBack_45 v_X6_45 (M_at (w := w) (c := c) hl) rfl rfl rfl (Nat.le_of_ble_eq_true rfl) ⟨(Nat.le_of_ble_eq_true rfl), (Nat.le_of_ble_eq_true rfl)⟩ ⟨(Nat.le_of_ble_eq_true rfl), (Nat.le_of_ble_eq_true rfl)⟩ ?_
    refine r_iconst (v := 1) dX6_takesBack_48 (by decide) ?_
    refine r_iadd dX6_takesBack_49 ?_
    refine r_dup2 dX6_takesBack_50 rfl rfl ?_
    refine r_iald dX6_takesBack_51 hT.rz (i := z_at w c + 1) (tp_add _ 1) (by unfold z_at; omega) (by decide) ?_
    refine r_iload3 dX6_takesBack_52 ?_
    refine r_iload5 dX6_takesBack_53 ?_
    refine r_isub dX6_takesBack_55 ?_
    refine r_iadd dX6_takesBack_56 ?_
    refine mm_st_z dX6_takesBack_57 hT (i := z_at w c + 1) (tp_add _ 1) (by unfold z_at; omega) (fun h1 hT => ?_)
    refine r_iload3 dX6_takesBack_58 ?_
    refine r_iload5 dX6_takesBack_59 ?_
    refine r_isub dX6_takesBack_61 ?_
    exact r_iret dX6_takesBack_62 rfl ⟨(Nat.le_of_ble_eq_true rfl), (Nat.le_of_ble_eq_true rfl)⟩ ⟨by rw [e11], by unfold z_back; rw [e11]; exact hT⟩
  · have e11 : z_taken z w c a = z_free z w c := if_pos (Int32.not_le.mp c11)
    refine r_iload4 dX6_takesBack_14 ?_
    refine r_goto (tgt := 20) dX6_takesBack_16 (by decide) ?_
    refine r_istore5 dX6_takesBack_20 (Nat.le_of_ble_eq_true rfl) rfl ?_
    refine r_aload0 dX6_takesBack_22 ?_
    refine r_getf dX6_takesBack_23 f_X6_7 (hT.ob) rfl ?_
    refine r_iload1 dX6_takesBack_26 ?_
    refine r_iload2 dX6_takesBack_27 ?_
    refine r_pS dX6_takesBack_28 v_X6_45 (M_at (w := w) (c := c) hl) rfl rfl rfl (Nat.le_of_ble_eq_true rfl) ⟨(Nat.le_of_ble_eq_true rfl), (Nat.le_of_ble_eq_true rfl)⟩ ⟨(Nat.le_of_ble_eq_true rfl), (Nat.le_of_ble_eq_true rfl)⟩ ?_
    refine r_iconst (v := 0) dX6_takesBack_31 (by decide) ?_
    refine r_iadd dX6_takesBack_32 ?_
    refine r_dup2 dX6_takesBack_33 rfl rfl ?_
    refine r_iald dX6_takesBack_34 hT.rz (i := z_at w c + 0) (tp_add _ 0) (by unfold z_at; omega) (by decide) ?_
    refine r_iload5 dX6_takesBack_35 ?_
    refine r_isub dX6_takesBack_37 ?_
    refine mm_st_z dX6_takesBack_38 hT (i := z_at w c + 0) (tp_add _ 0) (by unfold z_at; omega) (fun h1 hT => ?_)
    refine r_aload0 dX6_takesBack_39 ?_
    refine r_getf dX6_takesBack_40 f_X6_7 (hT.ob) rfl ?_
    refine r_iload1 dX6_takesBack_43 ?_
    refine r_iload2 dX6_takesBack_44 ?_
    refine r_pS dX6_takesBack_45 v_X6_45 (M_at (w := w) (c := c) hl) rfl rfl rfl (Nat.le_of_ble_eq_true rfl) ⟨(Nat.le_of_ble_eq_true rfl), (Nat.le_of_ble_eq_true rfl)⟩ ⟨(Nat.le_of_ble_eq_true rfl), (Nat.le_of_ble_eq_true rfl)⟩ ?_
    refine r_iconst (v := 1) dX6_takesBack_48 (by decide) ?_
    refine r_iadd dX6_takesBack_49 ?_
    refine r_dup2 dX6_takesBack_50 rfl rfl ?_
    refine r_iald dX6_takesBack_51 hT.rz (i := z_at w c + 1) (tp_add _ 1) (by unfold z_at; omega) (by decide) ?_
    refine r_iload3 dX6_takesBack_52 ?_
    refine r_iload5 dX6_takesBack_53 ?_
    refine r_isub dX6_takesBack_55 ?_
    refine r_iadd dX6_takesBack_56 ?_
    refine mm_st_z dX6_takesBack_57 hT (i := z_at w c + 1) (tp_add _ 1) (by unfold z_at; omega) (fun h1 hT => ?_)
    refine r_iload3 dX6_takesBack_58 ?_
    refine r_iload5 dX6_takesBack_59 ?_
    refine r_isub dX6_takesBack_61 ?_
    exact r_iret dX6_takesBack_62 rfl ⟨(Nat.le_of_ble_eq_true rfl), (Nat.le_of_ble_eq_true rfl)⟩ ⟨by rw [e11], by unfold z_back; rw [e11]; exact hT⟩

