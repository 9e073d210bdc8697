theorem z_drop_n {z : Nat → Int32} {j N q : Nat} (h : z 8 = nI N) (hN : N ≤ 8) (hq : 136 ≤ q) : z_drop z j q = z q := by
  unfold z_drop
  rw [h, z_nI (by omega), if_neg (by omega), if_neg (by omega)]
def z_payR (z : Nat → Int32) (P w c : Nat) (a : Int32) : Nat → Int32 :=
  va_up (va_up (va_up (va_up (va_up (va_up z 9 (z 9 + 1)) (136 + 5 * P + 0) (nI w)) (136 + 5 * P + 1) (nI c)) (136 + 5 * P + 2) a) (136 + 5 * P + 3) (z 4)) (136 + 5 * P + 4) 0
def z_payD (z : Nat → Int32) (j P w c : Nat) (a : Int32) : Nat → Int32 := z_drop (z_payR z P w c a) j
def z_pays (z : Nat → Int32) (j P w c : Nat) (a : Int32) : Nat → Int32 :=
  va_up (va_up (z_payD z j P w c a) (z_at w c + 0) (z_payD z j P w c a (z_at w c + 0) - a)) (z_at w c + 4) ((va_up (z_payD z j P w c a) (z_at w c + 0) (z_payD z j P w c a (z_at w c + 0) - a)) (z_at w c + 4) + a)
theorem z_payR_8 {z : Nat → Int32} {P w c : Nat} {a : Int32} : z_payR z P w c a 8 = z 8 := by
  unfold z_payR
  rw [va_c1 8 (by omega), va_c1 8 (by omega), va_c1 8 (by omega), va_c1 8 (by omega), va_c1 8 (by omega), va_c1 8 (by omega)]
theorem z_payD_0 {z : Nat → Int32} {j P w c N : Nat} {a : Int32} (h : z 8 = nI N) (hN : N ≤ 8) : z_payD z j P w c a (136 + 5 * P + 0) = nI w ∧ z_payD z j P w c a (136 + 5 * P + 1) = nI c := by
  unfold z_payD
  rw [z_drop_n (z_payR_8.trans h) hN (by omega), z_drop_n (z_payR_8.trans h) hN (by omega)]
  unfold z_payR
  constructor
  · rw [va_c1 (136 + 5 * P + 0) (by omega), va_c1 (136 + 5 * P + 0) (by omega), va_c1 (136 + 5 * P + 0) (by omega), va_c1 (136 + 5 * P + 0) (by omega), va_up_eq]
  · rw [va_c1 (136 + 5 * P + 1) (by omega), va_c1 (136 + 5 * P + 1) (by omega), va_c1 (136 + 5 * P + 1) (by omega), va_up_eq]
set_option maxRecDepth 100000 in
set_option maxHeartbeats 4000000 in
theorem Q_pay {s : Nat} {l : Launch} {G : tp_G} {y : Nat} {h0 h : tp_H} {z hi tx pa : Nat → Int32} {len thr rd nu du : Int32} {hs : Int64} (hl : l.stackTraces = false) (hT0 : mm_S G y h0 z hi tx pa (nI s) len thr rd nu du hs h) (hs6 : s ≤ 6) {j w c N P : Nat} {a : Int32} (hz8 : z 8 = nI N) (hN : N ≤ 8) (hz9 : z 9 = nI P) (hP12 : P < 12) (hj : j < N) (hin : 0 ≤ nI j ∧ nI j ≤ z 8 - 1) (hw : w < 4) (hc : c < 4) (hw0 : z (96 + 5 * j + 0) = nI w) (hc0 : z (96 + 5 * j + 1) = nI c) (ha : 1 ≤ a) (hm : ¬ z (96 + 5 * j + 3) < a) (hf : ¬ z 9 = 12) : tp_Met l G mX6_pay 0 0 [.ref y, .int (nI j), .int a] h (tp_PS (some (.int (nI P))) (fun h1 => mm_S G y h (z_pays z j P w c a) (z_saveH hi z s) tx pa (nI (z_saveN s)) len 0 rd nu du hs h1)) tp_NX := by
  have hT := hT0.self
  refine tp_start (L0 := [some (.ref y), some (.int (nI j)), some (.int a), none, none, none]) (by decide) rfl hl (Nat.le_of_ble_eq_true rfl) rfl ?_
  refine r_aload0 dX6_pay_0 ?_
  refine r_aload0 dX6_pay_1 ?_
  refine r_iload1 dX6_pay_2 ?_
  refine r_pV dX6_pay_3 v_X6_120 (M_isHold hl hT) rfl (hT.ob) rfl rfl rfl (Nat.le_of_ble_eq_true rfl) ⟨(Nat.le_of_ble_eq_true rfl), (Nat.le_of_ble_eq_true rfl)⟩ ⟨(Nat.le_of_ble_eq_true rfl), (Nat.le_of_ble_eq_true rfl)⟩ ?_
  refine r_if_ne (tgt := 13) dX6_pay_6 (by decide) (fun c6 => ?_) (fun c6 => ?_)
  · refine r_iload2 dX6_pay_13 ?_
    refine r_iconst (v := 1) dX6_pay_14 (by decide) ?_
    refine r_icmp_ge (tgt := 22) dX6_pay_15 (by decide) (fun c15 => ?_) (fun c15 => ?_)
    · refine r_iload2 dX6_pay_22 ?_
      refine r_aload0 dX6_pay_23 ?_
      refine r_iload1 dX6_pay_24 ?_
      refine r_iconst (v := 3) dX6_pay_25 (by decide) ?_
      refine r_pV dX6_pay_26 v_X6_52 (M_ofHold (j := 3) hl hT (by omega) (by omega)) rfl (hT.ob) rfl rfl rfl (Nat.le_of_ble_eq_true rfl) ⟨(Nat.le_of_ble_eq_true rfl), (Nat.le_of_ble_eq_true rfl)⟩ ⟨(Nat.le_of_ble_eq_true rfl), (Nat.le_of_ble_eq_true rfl)⟩ ?_
      refine r_icmp_gt (tgt := 44) dX6_pay_29 (by decide) (fun c29 => ?_) (fun c29 => ?_)
      · first | exact absurd (by assumption) (tp_b_0.mp c29) | exact absurd (by assumption) (tp_b_0.mp (Classical.not_not.mp c29)) | exact absurd (tp_b_n c29) (by assumption) | exact absurd (by assumption) c29 | exact absurd c29 (by assumption)
      · refine r_aload0 dX6_pay_32 ?_
        refine r_getf dX6_pay_33 f_X6_7 (hT.ob) rfl ?_
        refine r_bipush (v := 9) dX6_pay_36 (by decide) ?_
        refine r_iald dX6_pay_38 hT.rz (i := 9) (rfl) (by omega) (by decide) ?_
        refine r_bipush (v := 12) dX6_pay_39 (by decide) ?_
        refine r_icmp_ne (tgt := 48) dX6_pay_41 (by decide) (fun c41 => ?_) (fun c41 => ?_)
        · refine r_iconst (v := 0) dX6_pay_48 (by decide) ?_
          refine mm_put_thr dX6_pay_49 rfl hT (fun h1 hT => ?_)
          refine r_aload0 dX6_pay_52 ?_
          refine r_getf dX6_pay_53 f_X6_22 (hT.ob) rfl ?_
          refine r_if_le (tgt := 61) dX6_pay_56 (by decide) (fun c56 => ?_) (fun c56 => ?_)
          · refine r_aload0 dX6_pay_61 ?_
            refine r_sV0 dX6_pay_62 v_X6_68 (M_save hl hT hs6) rfl (hT.ob) rfl rfl rfl (Nat.le_of_ble_eq_true rfl) ⟨(Nat.le_of_ble_eq_true rfl), (Nat.le_of_ble_eq_true rfl)⟩ ⟨(Nat.le_of_ble_eq_true rfl), (Nat.le_of_ble_eq_true rfl)⟩ (fun h1 hP => ?_)
            have hT := hT.trans hP
            refine r_aload0 dX6_pay_65 ?_
            refine r_getf dX6_pay_66 f_X6_7 (hT.ob) rfl ?_
            refine r_bipush (v := 9) dX6_pay_69 (by decide) ?_
            refine r_iald dX6_pay_71 hT.rz (i := 9) (rfl) (by omega) (by decide) ?_
            rw [hz9]
            refine r_istore3 dX6_pay_72 (Nat.le_of_ble_eq_true rfl) rfl ?_
            refine r_sipush (v := 136) dX6_pay_73 (by decide) ?_
            refine r_iconst (v := 5) dX6_pay_76 (by decide) ?_
            refine r_iload3 dX6_pay_77 ?_
            refine r_imul dX6_pay_78 ?_
            refine r_iadd dX6_pay_79 ?_
            have e80 : (136 : Int32) + 5 * nI P = nI (136 + 5 * P) := by rw [show (5 : Int32) = nI 5 from rfl, show (136 : Int32) = nI 136 from rfl, tp_mul, tp_add]
            rw [e80]
            refine r_istore4 dX6_pay_80 (Nat.le_of_ble_eq_true rfl) rfl ?_
            refine r_aload0 dX6_pay_82 ?_
            refine r_getf dX6_pay_83 f_X6_7 (hT.ob) rfl ?_
            refine r_bipush (v := 9) dX6_pay_86 (by decide) ?_
            refine r_dup2 dX6_pay_88 rfl rfl ?_
            refine r_iald dX6_pay_89 hT.rz (i := 9) (rfl) (by omega) (by decide) ?_
            refine r_iconst (v := 1) dX6_pay_90 (by decide) ?_
            refine r_iadd dX6_pay_91 ?_
            refine mm_st_z dX6_pay_92 hT (i := 9) (rfl) (by omega) (fun h1 hT => ?_)
            refine r_aload0 dX6_pay_93 ?_
            refine r_getf dX6_pay_94 f_X6_7 (hT.ob) rfl ?_
            refine r_iload4 dX6_pay_97 ?_
            refine r_iconst (v := 0) dX6_pay_99 (by decide) ?_
            refine r_iadd dX6_pay_100 ?_
            refine r_aload0 dX6_pay_101 ?_
            refine r_iload1 dX6_pay_102 ?_
            refine r_iconst (v := 0) dX6_pay_103 (by decide) ?_
            refine r_pV dX6_pay_104 v_X6_52 (M_ofHold (j := 0) hl hT (by omega) (by omega)) rfl (hT.ob) rfl rfl rfl (Nat.le_of_ble_eq_true rfl) ⟨(Nat.le_of_ble_eq_true rfl), (Nat.le_of_ble_eq_true rfl)⟩ ⟨(Nat.le_of_ble_eq_true rfl), (Nat.le_of_ble_eq_true rfl)⟩ ?_
            rw [va_c1 (96 + 5 * j + 0) (by omega), hw0]
            refine mm_st_z dX6_pay_107 hT (i := 136 + 5 * P + 0) (tp_add _ 0) (by omega) (fun h1 hT => ?_)
            refine r_aload0 dX6_pay_108 ?_
            refine r_getf dX6_pay_109 f_X6_7 (hT.ob) rfl ?_
            refine r_iload4 dX6_pay_112 ?_
            refine r_iconst (v := 1) dX6_pay_114 (by decide) ?_
            refine r_iadd dX6_pay_115 ?_
            refine r_aload0 dX6_pay_116 ?_
            refine r_iload1 dX6_pay_117 ?_
            refine r_iconst (v := 1) dX6_pay_118 (by decide) ?_
            refine r_pV dX6_pay_119 v_X6_52 (M_ofHold (j := 1) hl hT (by omega) (by omega)) rfl (hT.ob) rfl rfl rfl (Nat.le_of_ble_eq_true rfl) ⟨(Nat.le_of_ble_eq_true rfl), (Nat.le_of_ble_eq_true rfl)⟩ ⟨(Nat.le_of_ble_eq_true rfl), (Nat.le_of_ble_eq_true rfl)⟩ ?_
            rw [va_c1 (96 + 5 * j + 1) (by omega), va_c1 (96 + 5 * j + 1) (by omega), hc0]
            refine mm_st_z dX6_pay_122 hT (i := 136 + 5 * P + 1) (tp_add _ 1) (by omega) (fun h1 hT => ?_)
            refine r_aload0 dX6_pay_123 ?_
            refine r_getf dX6_pay_124 f_X6_7 (hT.ob) rfl ?_
            refine r_iload4 dX6_pay_127 ?_
            refine r_iconst (v := 2) dX6_pay_129 (by decide) ?_
            refine r_iadd dX6_pay_130 ?_
            refine r_iload2 dX6_pay_131 ?_
            refine mm_st_z dX6_pay_132 hT (i := 136 + 5 * P + 2) (tp_add _ 2) (by omega) (fun h1 hT => ?_)
            refine r_aload0 dX6_pay_133 ?_
            refine r_getf dX6_pay_134 f_X6_7 (hT.ob) rfl ?_
            refine r_iload4 dX6_pay_137 ?_
            refine r_iconst (v := 3) dX6_pay_139 (by decide) ?_
            refine r_iadd dX6_pay_140 ?_
            refine r_aload0 dX6_pay_141 ?_
            refine r_getf dX6_pay_142 f_X6_7 (hT.ob) rfl ?_
            refine r_iconst (v := 4) dX6_pay_145 (by decide) ?_
            refine r_iald dX6_pay_146 hT.rz (i := 4) (rfl) (by omega) (by decide) ?_
            rw [va_c1 (4) (by omega), va_c1 (4) (by omega), va_c1 (4) (by omega), va_c1 (4) (by omega)]
            refine mm_st_z dX6_pay_147 hT (i := 136 + 5 * P + 3) (tp_add _ 3) (by omega) (fun h1 hT => ?_)
            refine r_aload0 dX6_pay_148 ?_
            refine r_getf dX6_pay_149 f_X6_7 (hT.ob) rfl ?_
            refine r_iload4 dX6_pay_152 ?_
            refine r_iconst (v := 4) dX6_pay_154 (by decide) ?_
            refine r_iadd dX6_pay_155 ?_
            refine r_iconst (v := 0) dX6_pay_156 (by decide) ?_
            refine mm_st_z dX6_pay_157 hT (i := 136 + 5 * P + 4) (tp_add _ 4) (by omega) (fun h1 hT => ?_)
            have hT := hT.cz (z' := z_payR z P w c a) rfl
            refine r_aload0 dX6_pay_158 ?_
            refine r_iload1 dX6_pay_159 ?_
            refine r_sV0 dX6_pay_160 v_X6_123 (M_removeHold hl hT (z_payR_8.trans hz8) hN hj) rfl (hT.ob) rfl rfl rfl (Nat.le_of_ble_eq_true rfl) ⟨(Nat.le_of_ble_eq_true rfl), (Nat.le_of_ble_eq_true rfl)⟩ ⟨(Nat.le_of_ble_eq_true rfl), (Nat.le_of_ble_eq_true rfl)⟩ (fun h1 hP => ?_)
            have hT := hT.trans hP
            have hT := hT.cz (z' := z_payD z j P w c a) rfl
            obtain ⟨q0, q1⟩ := z_payD_0 (z := z) (j := j) (P := P) (w := w) (c := c) (a := a) hz8 hN
            refine r_aload0 dX6_pay_163 ?_
            refine r_getf dX6_pay_164 f_X6_7 (hT.ob) rfl ?_
            refine r_iload4 dX6_pay_167 ?_
            refine r_iconst (v := 0) dX6_pay_169 (by decide) ?_
            refine r_iadd dX6_pay_170 ?_
            refine r_iald dX6_pay_171 hT.rz (i := 136 + 5 * P + 0) (tp_add _ 0) (by omega) (by decide) ?_
            rw [q0]
            refine r_aload0 dX6_pay_172 ?_
            refine r_getf dX6_pay_173 f_X6_7 (hT.ob) rfl ?_
            refine r_iload4 dX6_pay_176 ?_
            refine r_iconst (v := 1) dX6_pay_178 (by decide) ?_
            refine r_iadd dX6_pay_179 ?_
            refine r_iald dX6_pay_180 hT.rz (i := 136 + 5 * P + 1) (tp_add _ 1) (by omega) (by decide) ?_
            rw [q1]
            refine r_pS dX6_pay_181 v_X6_45 (M_at (w := w) (c := c) hl) rfl rfl rfl (Nat.le_of_ble_eq_true rfl) ⟨(Nat.le_of_ble_eq_true rfl), (Nat.le_of_ble_eq_true rfl)⟩ ⟨(Nat.le_of_ble_eq_true rfl), (Nat.le_of_ble_eq_true rfl)⟩ ?_
            refine r_istore5 dX6_pay_184 (Nat.le_of_ble_eq_true rfl) rfl ?_
            refine r_aload0 dX6_pay_186 ?_
            refine r_getf dX6_pay_187 f_X6_7 (hT.ob) rfl ?_
            refine r_iload5 dX6_pay_190 ?_
            refine r_iconst (v := 0) dX6_pay_192 (by decide) ?_
            refine r_iadd dX6_pay_193 ?_
            refine r_dup2 dX6_pay_194 rfl rfl ?_
            refine r_iald dX6_pay_195 hT.rz (i := z_at w c + 0) (tp_add _ 0) (by unfold z_at; omega) (by decide) ?_
            refine r_iload2 dX6_pay_196 ?_
            refine r_isub dX6_pay_197 ?_
            refine mm_st_z dX6_pay_198 hT (i := z_at w c + 0) (tp_add _ 0) (by unfold z_at; omega) (fun h1 hT => ?_)
            refine r_aload0 dX6_pay_199 ?_
            refine r_getf dX6_pay_200 f_X6_7 (hT.ob) rfl ?_
            refine r_iload5 dX6_pay_203 ?_
            refine r_iconst (v := 4) dX6_pay_205 (by decide) ?_
            refine r_iadd dX6_pay_206 ?_
            refine r_dup2 dX6_pay_207 rfl rfl ?_
            refine r_iald dX6_pay_208 hT.rz (i := z_at w c + 4) (tp_add _ 4) (by unfold z_at; omega) (by decide) ?_
            refine r_iload2 dX6_pay_209 ?_
            refine r_iadd dX6_pay_210 ?_
            refine mm_st_z dX6_pay_211 hT (i := z_at w c + 4) (tp_add _ 4) (by unfold z_at; omega) (fun h1 hT => ?_)
            refine r_iload3 dX6_pay_212 ?_
            exact r_iret dX6_pay_213 rfl ⟨(Nat.le_of_ble_eq_true rfl), (Nat.le_of_ble_eq_true rfl)⟩ ⟨rfl, hT⟩
          · exact absurd (show (0 : Int32) ≤ 0 by decide) c56
        · first | exact absurd (by assumption) (tp_b_0.mp c41) | exact absurd (by assumption) (tp_b_0.mp (Classical.not_not.mp c41)) | exact absurd (tp_b_n c41) (by assumption) | exact absurd (by assumption) c41 | exact absurd c41 (by assumption)
    · first | exact absurd (by assumption) (tp_b_0.mp c15) | exact absurd (by assumption) (tp_b_0.mp (Classical.not_not.mp c15)) | exact absurd (tp_b_n c15) (by assumption) | exact absurd (by assumption) c15 | exact absurd c15 (by assumption)
  · first | exact absurd (by assumption) (tp_b_0.mp c6) | exact absurd (by assumption) (tp_b_0.mp (Classical.not_not.mp c6)) | exact absurd (tp_b_n c6) (by assumption) | exact absurd (by assumption) c6 | exact absurd c6 (by assumption)

set_option maxRecDepth 100000 in
set_option maxHeartbeats 4000000 in
theorem Q_pay_1 {l : Launch} {G : tp_G} {y : Nat} {h0 h : tp_H} {z hi tx pa : Nat → Int32} {st len thr rd nu du : Int32} {hs : Int64} (hl : l.stackTraces = false) (hT0 : mm_S G y h0 z hi tx pa st len thr rd nu du hs h) {v a : Int32} (hbad : ¬ (0 ≤ v ∧ v ≤ z 8 - 1)) : tp_Met l G mX6_pay 0 0 [.ref y, .int v, .int a] h (tp_PS (some (.int 0)) (fun h1 => mm_S G y h z hi tx pa st len 1 rd nu du hs h1)) tp_NX := by
  have hT := hT0.self
  refine tp_start (L0 := [some (.ref y), some (.int v), some (.int a), none, none, none]) (by decide) rfl hl (Nat.le_of_ble_eq_true rfl) rfl ?_
  refine r_aload0 dX6_pay_0 ?_
  refine r_aload0 dX6_pay_1 ?_
  refine r_iload1 dX6_pay_2 ?_
  refine r_pV dX6_pay_3 v_X6_120 (M_isHold hl hT) rfl (hT.ob) rfl rfl rfl (Nat.le_of_ble_eq_true rfl) ⟨(Nat.le_of_ble_eq_true rfl), (Nat.le_of_ble_eq_true rfl)⟩ ⟨(Nat.le_of_ble_eq_true rfl), (Nat.le_of_ble_eq_true rfl)⟩ ?_
  refine r_if_ne (tgt := 13) dX6_pay_6 (by decide) (fun c6 => ?_) (fun c6 => ?_)
  · first | exact absurd (by assumption) (tp_b_0.mp c6) | exact absurd (by assumption) (tp_b_0.mp (Classical.not_not.mp c6)) | exact absurd (tp_b_n c6) (by assumption) | exact absurd (by assumption) c6 | exact absurd c6 (by assumption)
  · refine r_iconst (v := 1) dX6_pay_9 (by decide) ?_
    refine r_goto (tgt := 49) dX6_pay_10 (by decide) ?_
    refine mm_put_thr dX6_pay_49 rfl hT (fun h1 hT => ?_)
    refine r_aload0 dX6_pay_52 ?_
    refine r_getf dX6_pay_53 f_X6_22 (hT.ob) rfl ?_
    refine r_if_le (tgt := 61) dX6_pay_56 (by decide) (fun c56 => ?_) (fun c56 => ?_)
    · exact absurd c56 (by decide)
    · refine r_iconst (v := 0) dX6_pay_59 (by decide) ?_
      exact r_iret dX6_pay_60 rfl ⟨(Nat.le_of_ble_eq_true rfl), (Nat.le_of_ble_eq_true rfl)⟩ ⟨rfl, hT⟩

set_option maxRecDepth 100000 in
set_option maxHeartbeats 4000000 in
theorem Q_pay_2 {l : Launch} {G : tp_G} {y : Nat} {h0 h : tp_H} {z hi tx pa : Nat → Int32} {st len thr rd nu du : Int32} {hs : Int64} (hl : l.stackTraces = false) (hT0 : mm_S G y h0 z hi tx pa st len thr rd nu du hs h) {v a : Int32} (hin : 0 ≤ v ∧ v ≤ z 8 - 1) (hbad : ¬ 1 ≤ a) : tp_Met l G mX6_pay 0 0 [.ref y, .int v, .int a] h (tp_PS (some (.int 0)) (fun h1 => mm_S G y h z hi tx pa st len 2 rd nu du hs h1)) tp_NX := by
  have hT := hT0.self
  refine tp_start (L0 := [some (.ref y), some (.int v), some (.int a), none, none, none]) (by decide) rfl hl (Nat.le_of_ble_eq_true rfl) rfl ?_
  refine r_aload0 dX6_pay_0 ?_
  refine r_aload0 dX6_pay_1 ?_
  refine r_iload1 dX6_pay_2 ?_
  refine r_pV dX6_pay_3 v_X6_120 (M_isHold hl hT) rfl (hT.ob) rfl rfl rfl (Nat.le_of_ble_eq_true rfl) ⟨(Nat.le_of_ble_eq_true rfl), (Nat.le_of_ble_eq_true rfl)⟩ ⟨(Nat.le_of_ble_eq_true rfl), (Nat.le_of_ble_eq_true rfl)⟩ ?_
  refine r_if_ne (tgt := 13) dX6_pay_6 (by decide) (fun c6 => ?_) (fun c6 => ?_)
  · refine r_iload2 dX6_pay_13 ?_
    refine r_iconst (v := 1) dX6_pay_14 (by decide) ?_
    refine r_icmp_ge (tgt := 22) dX6_pay_15 (by decide) (fun c15 => ?_) (fun c15 => ?_)
    · first | exact absurd (by assumption) (tp_b_0.mp c15) | exact absurd (by assumption) (tp_b_0.mp (Classical.not_not.mp c15)) | exact absurd (tp_b_n c15) (by assumption) | exact absurd (by assumption) c15 | exact absurd c15 (by assumption)
    · refine r_iconst (v := 2) dX6_pay_18 (by decide) ?_
      refine r_goto (tgt := 49) dX6_pay_19 (by decide) ?_
      refine mm_put_thr dX6_pay_49 rfl hT (fun h1 hT => ?_)
      refine r_aload0 dX6_pay_52 ?_
      refine r_getf dX6_pay_53 f_X6_22 (hT.ob) rfl ?_
      refine r_if_le (tgt := 61) dX6_pay_56 (by decide) (fun c56 => ?_) (fun c56 => ?_)
      · exact absurd c56 (by decide)
      · refine r_iconst (v := 0) dX6_pay_59 (by decide) ?_
        exact r_iret dX6_pay_60 rfl ⟨(Nat.le_of_ble_eq_true rfl), (Nat.le_of_ble_eq_true rfl)⟩ ⟨rfl, hT⟩
  · first | exact absurd (by assumption) (tp_b_0.mp c6) | exact absurd (by assumption) (tp_b_0.mp (Classical.not_not.mp c6)) | exact absurd (tp_b_n c6) (by assumption) | exact absurd (by assumption) c6 | exact absurd c6 (by assumption)

set_option maxRecDepth 100000 in
set_option maxHeartbeats 4000000 in
theorem Q_pay_3 {l : Launch} {G : tp_G} {y : Nat} {h0 h : tp_H} {z hi tx pa : Nat → Int32} {st len thr rd nu du : Int32} {hs : Int64} (hl : l.stackTraces = false) (hT0 : mm_S G y h0 z hi tx pa st len thr rd nu du hs h) {j : Nat} {a : Int32} (hj : j < 8) (hin : 0 ≤ nI j ∧ nI j ≤ z 8 - 1) (ha : 1 ≤ a) (hm : z (96 + 5 * j + 3) < a) : tp_Met l G mX6_pay 0 0 [.ref y, .int (nI j), .int a] h (tp_PS (some (.int 0)) (fun h1 => mm_S G y h z hi tx pa st len 3 rd nu du hs h1)) tp_NX := by
  have hT := hT0.self
  refine tp_start (L0 := [some (.ref y), some (.int (nI j)), some (.int a), none, none, none]) (by decide) rfl hl (Nat.le_of_ble_eq_true rfl) rfl ?_
  refine r_aload0 dX6_pay_0 ?_
  refine r_aload0 dX6_pay_1 ?_
  refine r_iload1 dX6_pay_2 ?_
  refine r_pV dX6_pay_3 v_X6_120 (M_isHold hl hT) rfl (hT.ob) rfl rfl rfl (Nat.le_of_ble_eq_true rfl) ⟨(Nat.le_of_ble_eq_true rfl), (Nat.le_of_ble_eq_true rfl)⟩ ⟨(Nat.le_of_ble_eq_true rfl), (Nat.le_of_ble_eq_true rfl)⟩ ?_
  refine r_if_ne (tgt := 13) dX6_pay_6 (by decide) (fun c6 => ?_) (fun c6 => ?_)
  · refine r_iload2 dX6_pay_13 ?_
    refine r_iconst (v := 1) dX6_pay_14 (by decide) ?_
    refine r_icmp_ge (tgt := 22) dX6_pay_15 (by decide) (fun c15 => ?_) (fun c15 => ?_)
    · refine r_iload2 dX6_pay_22 ?_
      refine r_aload0 dX6_pay_23 ?_
      refine r_iload1 dX6_pay_24 ?_
      refine r_iconst (v := 3) dX6_pay_25 (by decide) ?_
      refine r_pV dX6_pay_26 v_X6_52 (M_ofHold (j := 3) hl hT (by omega) (by omega)) rfl (hT.ob) rfl rfl rfl (Nat.le_of_ble_eq_true rfl) ⟨(Nat.le_of_ble_eq_true rfl), (Nat.le_of_ble_eq_true rfl)⟩ ⟨(Nat.le_of_ble_eq_true rfl), (Nat.le_of_ble_eq_true rfl)⟩ ?_
      refine r_icmp_gt (tgt := 44) dX6_pay_29 (by decide) (fun c29 => ?_) (fun c29 => ?_)
      · refine r_iconst (v := 3) dX6_pay_44 (by decide) ?_
        refine r_goto (tgt := 49) dX6_pay_45 (by decide) ?_
        refine mm_put_thr dX6_pay_49 rfl hT (fun h1 hT => ?_)
        refine r_aload0 dX6_pay_52 ?_
        refine r_getf dX6_pay_53 f_X6_22 (hT.ob) rfl ?_
        refine r_if_le (tgt := 61) dX6_pay_56 (by decide) (fun c56 => ?_) (fun c56 => ?_)
        · exact absurd c56 (by decide)
        · refine r_iconst (v := 0) dX6_pay_59 (by decide) ?_
          exact r_iret dX6_pay_60 rfl ⟨(Nat.le_of_ble_eq_true rfl), (Nat.le_of_ble_eq_true rfl)⟩ ⟨rfl, hT⟩
      · first | exact absurd (by assumption) (tp_b_0.mp c29) | exact absurd (by assumption) (tp_b_0.mp (Classical.not_not.mp c29)) | exact absurd (tp_b_n c29) (by assumption) | exact absurd (by assumption) c29 | exact absurd c29 (by assumption)
    · first | exact absurd (by assumption) (tp_b_0.mp c15) | exact absurd (by assumption) (tp_b_0.mp (Classical.not_not.mp c15)) | exact absurd (tp_b_n c15) (by assumption) | exact absurd (by assumption) c15 | exact absurd c15 (by assumption)
  · first | exact absurd (by assumption) (tp_b_0.mp c6) | exact absurd (by assumption) (tp_b_0.mp (Classical.not_not.mp c6)) | exact absurd (tp_b_n c6) (by assumption) | exact absurd (by assumption) c6 | exact absurd c6 (by assumption)

set_option maxRecDepth 100000 in
set_option maxHeartbeats 4000000 in
theorem Q_pay_3b {l : Launch} {G : tp_G} {y : Nat} {h0 h : tp_H} {z hi tx pa : Nat → Int32} {st len thr rd nu du : Int32} {hs : Int64} (hl : l.stackTraces = false) (hT0 : mm_S G y h0 z hi tx pa st len thr rd nu du hs h) {j : Nat} {a : Int32} (hj : j < 8) (hin : 0 ≤ nI j ∧ nI j ≤ z 8 - 1) (ha : 1 ≤ a) (hm : ¬ z (96 + 5 * j + 3) < a) (hf : z 9 = 12) : tp_Met l G mX6_pay 0 0 [.ref y, .int (nI j), .int a] h (tp_PS (some (.int 0)) (fun h1 => mm_S G y h z hi tx pa st len 3 rd nu du hs h1)) tp_NX := by
  have hT := hT0.self
  refine tp_start (L0 := [some (.ref y), some (.int (nI j)), some (.int a), none, none, none]) (by decide) rfl hl (Nat.le_of_ble_eq_true rfl) rfl ?_
  refine r_aload0 dX6_pay_0 ?_
  refine r_aload0 dX6_pay_1 ?_
  refine r_iload1 dX6_pay_2 ?_
  refine r_pV dX6_pay_3 v_X6_120 (M_isHold hl hT) rfl (hT.ob) rfl rfl rfl (Nat.le_of_ble_eq_true rfl) ⟨(Nat.le_of_ble_eq_true rfl), (Nat.le_of_ble_eq_true rfl)⟩ ⟨(Nat.le_of_ble_eq_true rfl), (Nat.le_of_ble_eq_true rfl)⟩ ?_
  refine r_if_ne (tgt := 13) dX6_pay_6 (by decide) (fun c6 => ?_) (fun c6 => ?_)
  · refine r_iload2 dX6_pay_13 ?_
    refine r_iconst (v := 1) dX6_pay_14 (by decide) ?_
    refine r_icmp_ge (tgt := 22) dX6_pay_15 (by decide) (fun c15 => ?_) (fun c15 => ?_)
    · refine r_iload2 dX6_pay_22 ?_
      refine r_aload0 dX6_pay_23 ?_
      refine r_iload1 dX6_pay_24 ?_
      refine r_iconst (v := 3) dX6_pay_25 (by decide) ?_
      refine r_pV dX6_pay_26 v_X6_52 (M_ofHold (j := 3) hl hT (by omega) (by omega)) rfl (hT.ob) rfl rfl rfl (Nat.le_of_ble_eq_true rfl) ⟨(Nat.le_of_ble_eq_true rfl), (Nat.le_of_ble_eq_true rfl)⟩ ⟨(Nat.le_of_ble_eq_true rfl), (Nat.le_of_ble_eq_true rfl)⟩ ?_
      refine r_icmp_gt (tgt := 44) dX6_pay_29 (by decide) (fun c29 => ?_) (fun c29 => ?_)
      · first | exact absurd (by assumption) (tp_b_0.mp c29) | exact absurd (by assumption) (tp_b_0.mp (Classical.not_not.mp c29)) | exact absurd (tp_b_n c29) (by assumption) | exact absurd (by assumption) c29 | exact absurd c29 (by assumption)
      · refine r_aload0 dX6_pay_32 ?_
        refine r_getf dX6_pay_33 f_X6_7 (hT.ob) rfl ?_
        refine r_bipush (v := 9) dX6_pay_36 (by decide) ?_
        refine r_iald dX6_pay_38 hT.rz (i := 9) (rfl) (by omega) (by decide) ?_
        refine r_bipush (v := 12) dX6_pay_39 (by decide) ?_
        refine r_icmp_ne (tgt := 48) dX6_pay_41 (by decide) (fun c41 => ?_) (fun c41 => ?_)
        · first | exact absurd (by assumption) (tp_b_0.mp c41) | exact absurd (by assumption) (tp_b_0.mp (Classical.not_not.mp c41)) | exact absurd (tp_b_n c41) (by assumption) | exact absurd (by assumption) c41 | exact absurd c41 (by assumption)
        · refine r_iconst (v := 3) dX6_pay_44 (by decide) ?_
          refine r_goto (tgt := 49) dX6_pay_45 (by decide) ?_
          refine mm_put_thr dX6_pay_49 rfl hT (fun h1 hT => ?_)
          refine r_aload0 dX6_pay_52 ?_
          refine r_getf dX6_pay_53 f_X6_22 (hT.ob) rfl ?_
          refine r_if_le (tgt := 61) dX6_pay_56 (by decide) (fun c56 => ?_) (fun c56 => ?_)
          · exact absurd c56 (by decide)
          · refine r_iconst (v := 0) dX6_pay_59 (by decide) ?_
            exact r_iret dX6_pay_60 rfl ⟨(Nat.le_of_ble_eq_true rfl), (Nat.le_of_ble_eq_true rfl)⟩ ⟨rfl, hT⟩
    · first | exact absurd (by assumption) (tp_b_0.mp c15) | exact absurd (by assumption) (tp_b_0.mp (Classical.not_not.mp c15)) | exact absurd (tp_b_n c15) (by assumption) | exact absurd (by assumption) c15 | exact absurd c15 (by assumption)
  · first | exact absurd (by assumption) (tp_b_0.mp c6) | exact absurd (by assumption) (tp_b_0.mp (Classical.not_not.mp c6)) | exact absurd (tp_b_n c6) (by assumption) | exact absurd (by assumption) c6 | exact absurd c6 (by assumption)

