set_option maxRecDepth 100000 in
set_option maxHeartbeats 4000000 in
theorem M_dg1  {l : Launch} {G : tp_G} {y : Nat} {h9 : tp_H} {z hi tx pa : Nat → Int32} {st len thr rd nu du : Int32} {hs : Int64} (hl : l.stackTraces = false) {Q : tp_Q} (hI1 : z_I1 z) : ∀ d (i : Nat) (h1 : tp_H), i + d = 14 → mm_S G y h9 z hi tx pa st len thr rd nu du (z_mixN (fun j => (z_count z st j).toInt64) i hs) h1 → (∀ h1, mm_S G y h9 z hi tx pa st len thr rd nu du (z_mixN (fun j => (z_count z st j).toInt64) (14) hs) h1 → tp_Run l G mX6_digest (tp_rm mX6_digest 0 0) Q 0 0 h1 36 [some (.ref y), none] []) → tp_Run l G mX6_digest (tp_rm mX6_digest 0 0) Q 0 0 h1 14 [some (.ref y), some (.int (nI i))] [] := by
  intro d
  induction d with
  | zero =>
    intro i h1 hd hT kk
    refine r_iload1 dX6_digest_14 ?_
    refine r_bipush (v := 14) dX6_digest_15 (by decide) ?_
    refine r_icmp_ge (tgt := 36) dX6_digest_17 (by decide) (fun c17 => ?_) (fun c17 => ?_)
    · rw [show i = 14 by omega] at hT
      exact r_fg1 (kk h1 hT)
    · rw [show (14 : Int32) = nI 14 from rfl, tp_le (by omega) (by omega)] at c17; omega
  | succ d ih =>
    intro i h1 hd hT kk
    refine r_iload1 dX6_digest_14 ?_
    refine r_bipush (v := 14) dX6_digest_15 (by decide) ?_
    refine r_icmp_ge (tgt := 36) dX6_digest_17 (by decide) (fun c17 => ?_) (fun c17 => ?_)
    · rw [show (14 : Int32) = nI 14 from rfl, tp_le (by omega) (by omega)] at c17; omega
    · refine r_aload0 dX6_digest_20 ?_
      refine r_aload0 dX6_digest_21 ?_
      refine r_iload1 dX6_digest_22 ?_
      refine r_pV dX6_digest_23 v_X6_203 (M_counted_I hl hT hI1 (by omega)) rfl (hT.ob) rfl rfl rfl (Nat.le_of_ble_eq_true rfl) ⟨(Nat.le_of_ble_eq_true rfl), (Nat.le_of_ble_eq_true rfl)⟩ ⟨(Nat.le_of_ble_eq_true rfl), (Nat.le_of_ble_eq_true rfl)⟩ ?_
      refine r_i2l dX6_digest_26 ?_
      refine r_sV0 dX6_digest_27 v_X6_232 (M_mix hl hT) rfl (hT.ob) rfl rfl rfl (Nat.le_of_ble_eq_true rfl) ⟨(Nat.le_of_ble_eq_true rfl), (Nat.le_of_ble_eq_true rfl)⟩ ⟨(Nat.le_of_ble_eq_true rfl), (Nat.le_of_ble_eq_true rfl)⟩ (fun h1 hP => ?_)
      have hT := hT.trans hP
      refine r_iinc1 (v := nI (i + 1)) dX6_digest_30 (Nat.le_of_ble_eq_true rfl) rfl (tp_inc i) ?_
      exact r_goto (tgt := 14) dX6_digest_33 (by decide) (ih (i + 1) h1 (by omega) hT kk)

set_option maxRecDepth 100000 in
set_option maxHeartbeats 4000000 in
theorem M_dg2  {l : Launch} {G : tp_G} {y : Nat} {h9 : tp_H} {z hi tx pa : Nat → Int32} {st len thr rd nu du : Int32} {hs : Int64} (hl : l.stackTraces = false) {Q : tp_Q}  : ∀ d (i : Nat) (h1 : tp_H), i + d = 4 → mm_S G y h9 z hi tx pa st len thr rd nu du (z_mixN (fun j => (z j).toInt64) i hs) h1 → (∀ h1, mm_S G y h9 z hi tx pa st len thr rd nu du (z_mixN (fun j => (z j).toInt64) (4) hs) h1 → tp_Run l G mX6_digest (tp_rm mX6_digest 0 0) Q 0 0 h1 60 [some (.ref y), none] []) → tp_Run l G mX6_digest (tp_rm mX6_digest 0 0) Q 0 0 h1 38 [some (.ref y), some (.int (nI i))] [] := by
  intro d
  induction d with
  | zero =>
    intro i h1 hd hT kk
    refine r_iload1 dX6_digest_38 ?_
    refine r_iconst (v := 4) dX6_digest_39 (by decide) ?_
    refine r_icmp_ge (tgt := 60) dX6_digest_40 (by decide) (fun c40 => ?_) (fun c40 => ?_)
    · rw [show i = 4 by omega] at hT
      exact r_fg1 (kk h1 hT)
    · rw [show (4 : Int32) = nI 4 from rfl, tp_le (by omega) (by omega)] at c40; omega
  | succ d ih =>
    intro i h1 hd hT kk
    refine r_iload1 dX6_digest_38 ?_
    refine r_iconst (v := 4) dX6_digest_39 (by decide) ?_
    refine r_icmp_ge (tgt := 60) dX6_digest_40 (by decide) (fun c40 => ?_) (fun c40 => ?_)
    · rw [show (4 : Int32) = nI 4 from rfl, tp_le (by omega) (by omega)] at c40; omega
    · refine r_aload0 dX6_digest_43 ?_
      refine r_aload0 dX6_digest_44 ?_
      refine r_getf dX6_digest_45 f_X6_7 (hT.ob) rfl ?_
      refine r_iload1 dX6_digest_48 ?_
      refine r_iald dX6_digest_49 hT.rz (i := i) (rfl) (by omega) (by decide) ?_
      refine r_i2l dX6_digest_50 ?_
      refine r_sV0 dX6_digest_51 v_X6_232 (M_mix hl hT) rfl (hT.ob) rfl rfl rfl (Nat.le_of_ble_eq_true rfl) ⟨(Nat.le_of_ble_eq_true rfl), (Nat.le_of_ble_eq_true rfl)⟩ ⟨(Nat.le_of_ble_eq_true rfl), (Nat.le_of_ble_eq_true rfl)⟩ (fun h1 hP => ?_)
      have hT := hT.trans hP
      refine r_iinc1 (v := nI (i + 1)) dX6_digest_54 (Nat.le_of_ble_eq_true rfl) rfl (tp_inc i) ?_
      exact r_goto (tgt := 38) dX6_digest_57 (by decide) (ih (i + 1) h1 (by omega) hT kk)

set_option maxRecDepth 100000 in
set_option maxHeartbeats 4000000 in
theorem M_dg3  {l : Launch} {G : tp_G} {y : Nat} {h9 : tp_H} {z hi tx pa : Nat → Int32} {st len thr rd nu du : Int32} {hs : Int64} (hl : l.stackTraces = false) {Q : tp_Q} (hI1 : z_I1 z) (hI2 : z_I2 z) : ∀ d (i : Nat) (h1 : tp_H), i + d = 4 → mm_S G y h9 z hi tx pa st len thr rd nu du (z_mixC (z_mixW z) i hs) h1 → (∀ h1, mm_S G y h9 z hi tx pa st len thr rd nu du (z_mixC (z_mixW z) (4) hs) h1 → tp_Run l G mX6_digest (tp_rm mX6_digest 0 0) Q 0 0 h1 78 [some (.ref y), none] []) → tp_Run l G mX6_digest (tp_rm mX6_digest 0 0) Q 0 0 h1 62 [some (.ref y), some (.int (nI i))] [] := by
  intro d
  induction d with
  | zero =>
    intro i h1 hd hT kk
    refine r_iload1 dX6_digest_62 ?_
    refine r_iconst (v := 4) dX6_digest_63 (by decide) ?_
    refine r_icmp_ge (tgt := 78) dX6_digest_64 (by decide) (fun c64 => ?_) (fun c64 => ?_)
    · rw [show i = 4 by omega] at hT
      exact r_fg1 (kk h1 hT)
    · rw [show (4 : Int32) = nI 4 from rfl, tp_le (by omega) (by omega)] at c64; omega
  | succ d ih =>
    intro i h1 hd hT kk
    refine r_iload1 dX6_digest_62 ?_
    refine r_iconst (v := 4) dX6_digest_63 (by decide) ?_
    refine r_icmp_ge (tgt := 78) dX6_digest_64 (by decide) (fun c64 => ?_) (fun c64 => ?_)
    · rw [show (4 : Int32) = nI 4 from rfl, tp_le (by omega) (by omega)] at c64; omega
    · refine r_aload0 dX6_digest_67 ?_
      refine r_iload1 dX6_digest_68 ?_
      refine r_sV0 dX6_digest_69 v_X6_244 (M_mixWallet hl hT (by omega) hI1 hI2) rfl (hT.ob) rfl rfl rfl (Nat.le_of_ble_eq_true rfl) ⟨(Nat.le_of_ble_eq_true rfl), (Nat.le_of_ble_eq_true rfl)⟩ ⟨(Nat.le_of_ble_eq_true rfl), (Nat.le_of_ble_eq_true rfl)⟩ (fun h1 hP => ?_)
      have hT := hT.trans hP
      refine r_iinc1 (v := nI (i + 1)) dX6_digest_72 (Nat.le_of_ble_eq_true rfl) rfl (tp_inc i) ?_
      exact r_goto (tgt := 62) dX6_digest_75 (by decide) (ih (i + 1) h1 (by omega) hT kk)

set_option maxRecDepth 100000 in
set_option maxHeartbeats 4000000 in
theorem M_dg4  {l : Launch} {G : tp_G} {y : Nat} {h9 : tp_H} {z hi tx pa : Nat → Int32} {st len thr rd nu du : Int32} {hs : Int64} (hl : l.stackTraces = false) {Q : tp_Q} {N : Nat} (hz8 : z 8 = nI N) (hN : N ≤ 8) : ∀ d (i : Nat) (h1 : tp_H), i + d = 5 * N → mm_S G y h9 z hi tx pa st len thr rd nu du (z_mixN (fun j => (z (96 + j)).toInt64) i hs) h1 → (∀ h1, mm_S G y h9 z hi tx pa st len thr rd nu du (z_mixN (fun j => (z (96 + j)).toInt64) (5 * N) hs) h1 → tp_Run l G mX6_digest (tp_rm mX6_digest 0 0) Q 0 0 h1 113 [some (.ref y), none] []) → tp_Run l G mX6_digest (tp_rm mX6_digest 0 0) Q 0 0 h1 80 [some (.ref y), some (.int (nI i))] [] := by
  intro d
  induction d with
  | zero =>
    intro i h1 hd hT kk
    refine r_iload1 dX6_digest_80 ?_
    refine r_iconst (v := 5) dX6_digest_81 (by decide) ?_
    refine r_aload0 dX6_digest_82 ?_
    refine r_getf dX6_digest_83 f_X6_7 (hT.ob) rfl ?_
    refine r_bipush (v := 8) dX6_digest_86 (by decide) ?_
    refine r_iald dX6_digest_88 hT.rz (i := 8) (rfl) (by omega) (by decide) ?_
    refine r_imul dX6_digest_89 ?_
    refine r_icmp_ge (tgt := 113) dX6_digest_90 (by decide) (fun c90 => ?_) (fun c90 => ?_)
    · rw [show i = 5 * N by omega] at hT
      exact r_fg1 (kk h1 hT)
    · rw [hz8, show (5 : Int32) = nI 5 from rfl, tp_mul, tp_le (by omega) (by omega)] at c90; omega
  | succ d ih =>
    intro i h1 hd hT kk
    refine r_iload1 dX6_digest_80 ?_
    refine r_iconst (v := 5) dX6_digest_81 (by decide) ?_
    refine r_aload0 dX6_digest_82 ?_
    refine r_getf dX6_digest_83 f_X6_7 (hT.ob) rfl ?_
    refine r_bipush (v := 8) dX6_digest_86 (by decide) ?_
    refine r_iald dX6_digest_88 hT.rz (i := 8) (rfl) (by omega) (by decide) ?_
    refine r_imul dX6_digest_89 ?_
    refine r_icmp_ge (tgt := 113) dX6_digest_90 (by decide) (fun c90 => ?_) (fun c90 => ?_)
    · rw [hz8, show (5 : Int32) = nI 5 from rfl, tp_mul, tp_le (by omega) (by omega)] at c90; omega
    · refine r_aload0 dX6_digest_93 ?_
      refine r_aload0 dX6_digest_94 ?_
      refine r_getf dX6_digest_95 f_X6_7 (hT.ob) rfl ?_
      refine r_bipush (v := 96) dX6_digest_98 (by decide) ?_
      refine r_iload1 dX6_digest_100 ?_
      refine r_iadd dX6_digest_101 ?_
      refine r_iald dX6_digest_102 hT.rz (i := (96 + i)) (tp_add 96 i) (by omega) (by decide) ?_
      refine r_i2l dX6_digest_103 ?_
      refine r_sV0 dX6_digest_104 v_X6_232 (M_mix hl hT) rfl (hT.ob) rfl rfl rfl (Nat.le_of_ble_eq_true rfl) ⟨(Nat.le_of_ble_eq_true rfl), (Nat.le_of_ble_eq_true rfl)⟩ ⟨(Nat.le_of_ble_eq_true rfl), (Nat.le_of_ble_eq_true rfl)⟩ (fun h1 hP => ?_)
      have hT := hT.trans hP
      refine r_iinc1 (v := nI (i + 1)) dX6_digest_107 (Nat.le_of_ble_eq_true rfl) rfl (tp_inc i) ?_
      exact r_goto (tgt := 80) dX6_digest_110 (by decide) (ih (i + 1) h1 (by omega) hT kk)

set_option maxRecDepth 100000 in
set_option maxHeartbeats 4000000 in
theorem M_dg5  {l : Launch} {G : tp_G} {y : Nat} {h9 : tp_H} {z hi tx pa : Nat → Int32} {st len thr rd nu du : Int32} {hs : Int64} (hl : l.stackTraces = false) {Q : tp_Q} {P : Nat} (hz9 : z 9 = nI P) (hP9 : P ≤ 12) : ∀ d (i : Nat) (h1 : tp_H), i + d = 6 * P → mm_S G y h9 z hi tx pa st len thr rd nu du (z_mixN (fun j => (z_pay z (j / 6) (j % 6)).toInt64) i hs) h1 → (∀ h1, mm_S G y h9 z hi tx pa st len thr rd nu du (z_mixN (fun j => (z_pay z (j / 6) (j % 6)).toInt64) (6 * P) hs) h1 → tp_Run l G mX6_digest (tp_rm mX6_digest 0 0) Q 0 0 h1 152 [some (.ref y), none] []) → tp_Run l G mX6_digest (tp_rm mX6_digest 0 0) Q 0 0 h1 115 [some (.ref y), some (.int (nI i))] [] := by
  intro d
  induction d with
  | zero =>
    intro i h1 hd hT kk
    refine r_iload1 dX6_digest_115 ?_
    refine r_bipush (v := 6) dX6_digest_116 (by decide) ?_
    refine r_aload0 dX6_digest_118 ?_
    refine r_getf dX6_digest_119 f_X6_7 (hT.ob) rfl ?_
    refine r_bipush (v := 9) dX6_digest_122 (by decide) ?_
    refine r_iald dX6_digest_124 hT.rz (i := 9) (rfl) (by omega) (by decide) ?_
    refine r_imul dX6_digest_125 ?_
    refine r_icmp_ge (tgt := 152) dX6_digest_126 (by decide) (fun c126 => ?_) (fun c126 => ?_)
    · rw [show i = 6 * P by omega] at hT
      exact r_fg1 (kk h1 hT)
    · rw [hz9, show (6 : Int32) = nI 6 from rfl, tp_mul, tp_le (by omega) (by omega)] at c126; omega
  | succ d ih =>
    intro i h1 hd hT kk
    refine r_iload1 dX6_digest_115 ?_
    refine r_bipush (v := 6) dX6_digest_116 (by decide) ?_
    refine r_aload0 dX6_digest_118 ?_
    refine r_getf dX6_digest_119 f_X6_7 (hT.ob) rfl ?_
    refine r_bipush (v := 9) dX6_digest_122 (by decide) ?_
    refine r_iald dX6_digest_124 hT.rz (i := 9) (rfl) (by omega) (by decide) ?_
    refine r_imul dX6_digest_125 ?_
    refine r_icmp_ge (tgt := 152) dX6_digest_126 (by decide) (fun c126 => ?_) (fun c126 => ?_)
    · rw [hz9, show (6 : Int32) = nI 6 from rfl, tp_mul, tp_le (by omega) (by omega)] at c126; omega
    · refine r_aload0 dX6_digest_129 ?_
      refine r_aload0 dX6_digest_130 ?_
      refine r_iload1 dX6_digest_131 ?_
      refine r_bipush (v := 6) dX6_digest_132 (by decide) ?_
      refine r_idiv dX6_digest_134 (by decide) ?_
      refine r_iload1 dX6_digest_135 ?_
      refine r_bipush (v := 6) dX6_digest_136 (by decide) ?_
      refine r_irem dX6_digest_138 (by decide) ?_
      have e6 : nI i / 6 = nI (i / 6) := pk_div (d := 6) (by omega) (by omega) (by omega)
      have e66 : nI i - nI (i / 6) * 6 = nI (i % 6) := by rw [← e6]; exact pk_rem (a := i) (d := 6) (by omega) (by omega) (by omega)
      rw [e6, e66]
      refine r_pV dX6_digest_139 v_X6_197 (M_paymentNow (p := i / 6) (j := i % 6) hl hT (by omega) (by omega)) rfl (hT.ob) rfl rfl rfl (Nat.le_of_ble_eq_true rfl) ⟨(Nat.le_of_ble_eq_true rfl), (Nat.le_of_ble_eq_true rfl)⟩ ⟨(Nat.le_of_ble_eq_true rfl), (Nat.le_of_ble_eq_true rfl)⟩ ?_
      refine r_i2l dX6_digest_142 ?_
      refine r_sV0 dX6_digest_143 v_X6_232 (M_mix hl hT) rfl (hT.ob) rfl rfl rfl (Nat.le_of_ble_eq_true rfl) ⟨(Nat.le_of_ble_eq_true rfl), (Nat.le_of_ble_eq_true rfl)⟩ ⟨(Nat.le_of_ble_eq_true rfl), (Nat.le_of_ble_eq_true rfl)⟩ (fun h1 hP => ?_)
      have hT := hT.trans hP
      refine r_iinc1 (v := nI (i + 1)) dX6_digest_146 (Nat.le_of_ble_eq_true rfl) rfl (tp_inc i) ?_
      exact r_goto (tgt := 115) dX6_digest_149 (by decide) (ih (i + 1) h1 (by omega) hT kk)

set_option maxRecDepth 100000 in
set_option maxHeartbeats 4000000 in
theorem M_dg6  {l : Launch} {G : tp_G} {y : Nat} {h9 : tp_H} {z hi tx pa : Nat → Int32} {st thr rd nu du : Int32} {hs : Int64} (hl : l.stackTraces = false) {ln : Nat} (hln : ln ≤ 60) {Q : tp_Q}  : ∀ d (i : Nat) (h1 : tp_H), i + d = ln → mm_S G y h9 z hi tx pa st (nI ln) thr rd nu du (z_mixN (fun j => (tx j).toInt64) i hs) h1 → (∀ h1, mm_S G y h9 z hi tx pa st (nI ln) thr rd nu du (z_mixN (fun j => (tx j).toInt64) (ln) hs) h1 → tp_Run l G mX6_digest (tp_rm mX6_digest 0 0) Q 0 0 h1 188 [some (.ref y), none] []) → tp_Run l G mX6_digest (tp_rm mX6_digest 0 0) Q 0 0 h1 163 [some (.ref y), some (.int (nI i))] [] := by
  intro d
  induction d with
  | zero =>
    intro i h1 hd hT kk
    refine r_iload1 dX6_digest_163 ?_
    refine r_aload0 dX6_digest_164 ?_
    refine r_getf dX6_digest_165 f_X6_164 (hT.ob) rfl ?_
    refine r_icmp_ge (tgt := 188) dX6_digest_168 (by decide) (fun c168 => ?_) (fun c168 => ?_)
    · rw [show i = ln by omega] at hT
      exact r_fg1 (kk h1 hT)
    · rw [tp_le (by omega) (by omega)] at c168; omega
  | succ d ih =>
    intro i h1 hd hT kk
    refine r_iload1 dX6_digest_163 ?_
    refine r_aload0 dX6_digest_164 ?_
    refine r_getf dX6_digest_165 f_X6_164 (hT.ob) rfl ?_
    refine r_icmp_ge (tgt := 188) dX6_digest_168 (by decide) (fun c168 => ?_) (fun c168 => ?_)
    · rw [tp_le (by omega) (by omega)] at c168; omega
    · refine r_aload0 dX6_digest_171 ?_
      refine r_aload0 dX6_digest_172 ?_
      refine r_getf dX6_digest_173 f_X6_16 (hT.ob) rfl ?_
      refine r_iload1 dX6_digest_176 ?_
      refine r_iald dX6_digest_177 hT.rtx (i := i) (rfl) (by omega) (by decide) ?_
      refine r_i2l dX6_digest_178 ?_
      refine r_sV0 dX6_digest_179 v_X6_232 (M_mix hl hT) rfl (hT.ob) rfl rfl rfl (Nat.le_of_ble_eq_true rfl) ⟨(Nat.le_of_ble_eq_true rfl), (Nat.le_of_ble_eq_true rfl)⟩ ⟨(Nat.le_of_ble_eq_true rfl), (Nat.le_of_ble_eq_true rfl)⟩ (fun h1 hP => ?_)
      have hT := hT.trans hP
      refine r_iinc1 (v := nI (i + 1)) dX6_digest_182 (Nat.le_of_ble_eq_true rfl) rfl (tp_inc i) ?_
      exact r_goto (tgt := 163) dX6_digest_185 (by decide) (ih (i + 1) h1 (by omega) hT kk)

set_option maxRecDepth 100000 in
set_option maxHeartbeats 4000000 in
theorem M_digest {ln : Nat} {l : Launch} {G : tp_G} {y : Nat} {h0 h : tp_H} {z hi tx pa : Nat → Int32} {st thr rd nu du : Int32} {hs : Int64} (hl : l.stackTraces = false) (hT0 : mm_S G y h0 z hi tx pa st (nI ln) thr rd nu du hs h) (hln : ln ≤ 60) (hI1 : z_I1 z) (hI2 : z_I2 z) : tp_Met l G mX6_digest 0 0 [.ref y] h (tp_PS (some (.long (z_digest z tx st ln))) (fun h1 => mm_S G y h z hi tx pa st (nI ln) 0 rd nu du (z_digest z tx st ln) h1)) tp_NX := by
  obtain ⟨N, hz8, hN⟩ := hI1.1
  obtain ⟨P, hz9, hP9⟩ := hI1.2.1
  have eD : z_digest z tx st ln = z_mixN (fun j => (tx j).toInt64) ln (31 * z_mixN (fun j => (z_pay z (j / 6) (j % 6)).toInt64) (6 * P) (z_mixN (fun j => (z (96 + j)).toInt64) (5 * N) (z_mixC (z_mixW z) 4 (z_mixN (fun j => (z j).toInt64) 4 (z_mixN (fun j => (z_count z st j).toInt64) 14 2551)))) + (nI ln).toInt64) := by
    unfold z_digest
    rw [hz8, hz9, z_nI (by omega), z_nI (by omega)]
  rw [eD]
  have hT := hT0.self
  refine tp_start (L0 := [some (.ref y), none]) (by decide) rfl hl (Nat.le_of_ble_eq_true rfl) rfl ?_
  refine r_aload0 dX6_digest_0 ?_
  refine r_iconst (v := 0) dX6_digest_1 (by decide) ?_
  refine mm_put_thr dX6_digest_2 rfl hT (fun h1 hT => ?_)
  refine r_aload0 dX6_digest_5 ?_
  refine r_ldc2 dX6_digest_6 c_X6_242 ?_
  refine mm_put_hs dX6_digest_9 rfl hT (fun h1 hT => ?_)
  refine r_iconst (v := 0) dX6_digest_12 (by decide) ?_
  refine r_istore1 dX6_digest_13 (Nat.le_of_ble_eq_true rfl) rfl ?_
  refine M_dg1 hl hI1 14 0 h1 (by omega) hT (fun h1 hT => ?_)
  refine r_iconst (v := 0) dX6_digest_36 (by decide) ?_
  refine r_istore1 dX6_digest_37 (Nat.le_of_ble_eq_true rfl) rfl ?_
  refine M_dg2 hl 4 0 h1 (by omega) hT (fun h1 hT => ?_)
  refine r_iconst (v := 0) dX6_digest_60 (by decide) ?_
  refine r_istore1 dX6_digest_61 (Nat.le_of_ble_eq_true rfl) rfl ?_
  refine M_dg3 hl hI1 hI2 4 0 h1 (by omega) hT (fun h1 hT => ?_)
  refine r_iconst (v := 0) dX6_digest_78 (by decide) ?_
  refine r_istore1 dX6_digest_79 (Nat.le_of_ble_eq_true rfl) rfl ?_
  refine M_dg4 hl hz8 hN (5 * N) 0 h1 (by omega) hT (fun h1 hT => ?_)
  refine r_iconst (v := 0) dX6_digest_113 (by decide) ?_
  refine r_istore1 dX6_digest_114 (Nat.le_of_ble_eq_true rfl) rfl ?_
  refine M_dg5 hl hz9 hP9 (6 * P) 0 h1 (by omega) hT (fun h1 hT => ?_)
  refine r_aload0 dX6_digest_152 ?_
  refine r_aload0 dX6_digest_153 ?_
  refine r_getf dX6_digest_154 f_X6_164 (hT.ob) rfl ?_
  refine r_i2l dX6_digest_157 ?_
  refine r_sV0 dX6_digest_158 v_X6_232 (M_mix hl hT) rfl (hT.ob) rfl rfl rfl (Nat.le_of_ble_eq_true rfl) ⟨(Nat.le_of_ble_eq_true rfl), (Nat.le_of_ble_eq_true rfl)⟩ ⟨(Nat.le_of_ble_eq_true rfl), (Nat.le_of_ble_eq_true rfl)⟩ (fun h1 hP => ?_)
  have hT := hT.trans hP
  refine r_iconst (v := 0) dX6_digest_161 (by decide) ?_
  refine r_istore1 dX6_digest_162 (Nat.le_of_ble_eq_true rfl) rfl ?_
  refine M_dg6 hl hln ln 0 h1 (by omega) hT (fun h1 hT => ?_)
  refine r_aload0 dX6_digest_188 ?_
  refine r_getf dX6_digest_189 f_X6_228 (hT.ob) rfl ?_
  exact r_lret dX6_digest_192 rfl ⟨(Nat.le_of_ble_eq_true rfl), (Nat.le_of_ble_eq_true rfl)⟩ ⟨rfl, hT⟩

