theorem k_lcmp {a : Nat} (h1 : 1 < a) (h2 : a < 2 ^ 31) : ¬ lg_cmp (lN a) 1 ≤ 0 :=
  Int32.not_le.mpr ((lg_cmp_gt _ _).mpr (by rw [show (1 : Int64) = lN 1 from rfl, lN_lt (by omega) h2]; exact h1))
theorem fp_join {e t : Nat} (he : e ≤ 1023) (ht : t < 2 ^ 52) : (lN e <<< ((52 : Int32).toInt64 &&& 63)) ||| lN t = (fpX e t).toInt64 := by
  rw [show ((52 : Int32).toInt64 &&& 63) = 52 by decide +kernel]
  apply Int64.toBitVec_inj.mp
  rw [Int64.toBitVec_or, Int64.toBitVec_shiftLeft]
  apply BitVec.eq_of_toNat_eq
  have h52 : ((52 : Int64).toBitVec.smod 64) = 52#64 := by decide +kernel
  rw [h52, BitVec.toNat_or]
  have e1 : (lN e).toBitVec.toNat = e := by
    show (BitVec.ofNat 64 e).toNat = e
    rw [BitVec.toNat_ofNat]
    exact Nat.mod_eq_of_lt (by omega)
  have e2 : (lN t).toBitVec.toNat = t := by
    show (BitVec.ofNat 64 t).toNat = t
    rw [BitVec.toNat_ofNat]
    exact Nat.mod_eq_of_lt (by omega)
  have e3 : ((lN e).toBitVec <<< 52#64).toNat = e * 2 ^ 52 := by
    rw [BitVec.shiftLeft_eq', BitVec.toNat_shiftLeft, e1, show (52#64).toNat = 52 from rfl, Nat.shiftLeft_eq]
    exact Nat.mod_eq_of_lt (by omega)
  rw [e3, e2]
  have e4 : (fpX e t).toInt64.toBitVec.toNat = (fpX e t).toNat := rfl
  rw [e4, fpX_n (by omega) ht, ← Nat.shiftLeft_eq, Nat.shiftLeft_add_eq_or_of_lt ht]
set_option maxRecDepth 100000 in
set_option maxHeartbeats 4000000 in
theorem X_bits_lp {l : Launch} {G : tp_G} {h : tp_H} (hl : l.stackTraces = false) {x0 : UInt64} {e t : Nat} (h1 : 1 ≤ e) (he : e ≤ 1023) (ht : t < 2 ^ 52)  : ∀ d, e + d ≤ 1023 → tp_Run l G mX5_bitsOfShare (tp_rm mX5_bitsOfShare 0 0) (tp_QM G 0 0 (tp_PR (.long (fpX e t).toInt64) h) tp_NX) 0 0 h 15 [some (.double x0), none, some (.double (fpX (1023 - d) t)), none, some (.long (lN (e + d))), none, none, none] [] := by
  intro d
  induction d with
  | zero =>
    intro hd
    obtain ⟨y, hy, hyn, z, hz, hzn, hzl⟩ := fp_sub1 ht
    have hge : 0 ≤ Op.cmpValue (FP.dcmp (fpX 1023 t) FP.dconst1) .g := by
      rcases (fp_cmp1 (e := 1023) (by omega) (by omega) ht).2 rfl with q | q
      · rw [q]; decide
      · rw [q]; decide
    refine r_dload2 dX5_bitsOfShare_15 ?_
    refine r_dconst1 dX5_bitsOfShare_16 ?_
    refine r_dcmp dX5_bitsOfShare_17 ?_
    refine r_if_ge (tgt := 43) dX5_bitsOfShare_18 (by decide) (fun c18 => ?_) (fun c18 => ?_)
    · refine r_dload2 dX5_bitsOfShare_43 ?_
      refine r_dconst1 dX5_bitsOfShare_44 ?_
      refine r_dsub dX5_bitsOfShare_45 (by rw [hy]; exact hyn) ?_
      rw [hy]
      refine r_ldc2d dX5_bitsOfShare_46 c_X5_396 ?_
      refine r_dmul dX5_bitsOfShare_49 (by rw [hz]; exact hzn) ?_
      rw [hz]
      refine r_d2l dX5_bitsOfShare_50 ?_
      rw [hzl]
      refine r_lstore6 dX5_bitsOfShare_51 (Nat.le_of_ble_eq_true rfl) rfl ?_
      refine r_lload4 dX5_bitsOfShare_53 ?_
      refine r_bipush (v := 52) dX5_bitsOfShare_55 (by decide) ?_
      refine r_lshl dX5_bitsOfShare_57 ?_
      refine r_lload6 dX5_bitsOfShare_58 ?_
      refine r_lor dX5_bitsOfShare_60 ?_
      rw [show e + 0 = e from rfl, fp_join he ht]
      exact r_lret dX5_bitsOfShare_61 rfl ⟨(Nat.le_of_ble_eq_true rfl), (Nat.le_of_ble_eq_true rfl)⟩ ⟨rfl, rfl⟩
    · exact absurd hge c18
  | succ d ih =>
    intro hd
    have hlt : Op.cmpValue (FP.dcmp (fpX (1023 - (d + 1)) t) FP.dconst1) .g = -1 := by
      rw [(fp_cmp1 (e := 1023 - (d + 1)) (by omega) (by omega) ht).1 (by omega)]; rfl
    refine r_dload2 dX5_bitsOfShare_15 ?_
    refine r_dconst1 dX5_bitsOfShare_16 ?_
    refine r_dcmp dX5_bitsOfShare_17 ?_
    refine r_if_ge (tgt := 43) dX5_bitsOfShare_18 (by decide) (fun c18 => ?_) (fun c18 => ?_)
    · rw [hlt] at c18
      exact absurd c18 (by decide)
    · refine r_lload4 dX5_bitsOfShare_21 ?_
      refine r_lconst (v := 1) dX5_bitsOfShare_23 rfl ?_
      refine r_lcmp dX5_bitsOfShare_24 ?_
      refine r_if_le (tgt := 43) dX5_bitsOfShare_25 (by decide) (fun c25 => ?_) (fun c25 => ?_)
      · exact absurd c25 (k_lcmp (by omega) (by omega))
      · refine r_dload2 dX5_bitsOfShare_28 ?_
        refine r_ldc2d dX5_bitsOfShare_29 c_X5_394 ?_
        refine r_dmul dX5_bitsOfShare_32 (by rw [fp_mul2 (by omega) (by omega) ht]; exact fp_n64 (by omega) ht) ?_
        rw [fp_mul2 (by omega) (by omega) ht]
        refine r_dstore2 dX5_bitsOfShare_33 (Nat.le_of_ble_eq_true rfl) rfl ?_
        refine r_lload4 dX5_bitsOfShare_34 ?_
        refine r_lconst (v := 1) dX5_bitsOfShare_36 rfl ?_
        refine r_lsub dX5_bitsOfShare_37 ?_
        rw [show lN (e + (d + 1)) - 1 = lN (e + d) from lN_sub (a := e + (d + 1)) (b := 1) (by omega), show 1023 - (d + 1) + 1 = 1023 - d by omega]
        refine r_lstore4 dX5_bitsOfShare_38 (Nat.le_of_ble_eq_true rfl) rfl ?_
        exact r_goto (tgt := 15) dX5_bitsOfShare_40 (by decide) (ih (by omega))

set_option maxRecDepth 100000 in
set_option maxHeartbeats 4000000 in
theorem X_bits {l : Launch} {G : tp_G} {h : tp_H} (hl : l.stackTraces = false) {x : UInt64} (hx : z_shr x) : tp_Met l G mX5_bitsOfShare 0 0 [.double x] h (tp_PR (.long x.toInt64) h) tp_NX := by
  rcases hx with rfl | ⟨e, t, h1, h2, h3, rfl⟩
  · refine tp_start (L0 := [some (.double 0), none, none, none, none, none, none, none]) (by decide) rfl hl (Nat.le_of_ble_eq_true rfl) rfl ?_
    refine r_dload0 dX5_bitsOfShare_0 ?_
    refine r_dconst0 dX5_bitsOfShare_1 ?_
    refine r_dcmp dX5_bitsOfShare_2 ?_
    rw [show FP.dcmp 0 FP.dconst0 = some .eq by decide +kernel]
    refine r_if_gt (tgt := 8) dX5_bitsOfShare_3 (by decide) (fun c3 => ?_) (fun c3 => ?_)
    · exact absurd c3 (by decide)
    · refine r_lconst (v := 0) dX5_bitsOfShare_6 rfl ?_
      exact r_lret dX5_bitsOfShare_7 rfl ⟨(Nat.le_of_ble_eq_true rfl), (Nat.le_of_ble_eq_true rfl)⟩ ⟨rfl, rfl⟩
  · refine tp_start (L0 := [some (.double (fpX e t)), none, none, none, none, none, none, none]) (by decide) rfl hl (Nat.le_of_ble_eq_true rfl) rfl ?_
    refine r_dload0 dX5_bitsOfShare_0 ?_
    refine r_dconst0 dX5_bitsOfShare_1 ?_
    refine r_dcmp dX5_bitsOfShare_2 ?_
    rw [fp_cmp0 h1 h2 h3]
    refine r_if_gt (tgt := 8) dX5_bitsOfShare_3 (by decide) (fun c3 => ?_) (fun c3 => ?_)
    · refine r_dload0 dX5_bitsOfShare_8 ?_
      refine r_dstore2 dX5_bitsOfShare_9 (Nat.le_of_ble_eq_true rfl) rfl ?_
      refine r_ldc2 dX5_bitsOfShare_10 c_X5_392 ?_
      refine r_lstore4 dX5_bitsOfShare_13 (Nat.le_of_ble_eq_true rfl) rfl ?_
      have q := X_bits_lp (x0 := fpX e t) hl h1 h2 h3 (G := G) (h := h) (1023 - e) (by omega)
      rw [show 1023 - (1023 - e) = e by omega, show e + (1023 - e) = 1023 by omega] at q
      exact q
    · exact absurd (show (0 : Int32) < Op.cmpValue (some .gt) .g by decide) c3

set_option maxRecDepth 100000 in
set_option maxHeartbeats 4000000 in
theorem X_mix {l : Launch} {G : tp_G} {h : tp_H} (hl : l.stackTraces = false) {a v : Int64} : tp_Met l G mX5_mix 0 0 [.long a, .long v] h (tp_PR (.long (31 * a + v)) h) tp_NX := by
  refine tp_start (L0 := [some (.long a), none, some (.long v), none]) (by decide) rfl hl (Nat.le_of_ble_eq_true rfl) rfl ?_
  refine r_ldc2 dX5_mix_0 c_X5_358 ?_
  refine r_lload0 dX5_mix_3 ?_
  refine r_lmul dX5_mix_4 ?_
  refine r_lload2 dX5_mix_5 ?_
  refine r_ladd dX5_mix_6 ?_
  exact r_lret dX5_mix_7 rfl ⟨(Nat.le_of_ble_eq_true rfl), (Nat.le_of_ble_eq_true rfl)⟩ ⟨rfl, rfl⟩

