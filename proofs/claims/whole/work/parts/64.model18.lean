set_option maxRecDepth 100000 in
set_option maxHeartbeats 4000000 in
theorem M_carries_l1 {l : Launch} {G : tp_G} {y : Nat} {h0 h : tp_H} {z hi tx pa : Nat → Int32} {st len thr rd nu du : Int32} {hs : Int64} (hl : l.stackTraces = false) (hT0 : mm_S G y h0 z hi tx pa st len thr rd nu du hs h) {p w : Nat} {a : Int32} (hp12 : p ≤ 12) (hw : w < 4) (h0 : pa (5 * p) = 108) (h1 : pa (5 * p + 1) = nI w) {b : Int32} (h2 : pa (5 * p + 2) = b) {c : Int32} (h3 : pa (5 * p + 3) = c) (h4 : pa (5 * p + 4) = a) (hm : z (z_at w 0) + a ≤ 1000000) : tp_Met l G mX6_carries 0 0 [.ref y, .int (nI p)] h (tp_PS (some (.int (1))) (fun h1 => mm_S G y h (z_loads z w a) hi tx pa st len thr rd nu du hs h1)) tp_NX := by
  have hT := hT0.self
  refine tp_start (L0 := [some (.ref y), some (.int (nI p)), none, none, none, none, none, none, none]) (by decide) rfl hl (Nat.le_of_ble_eq_true rfl) rfl ?_
  refine r_aload0 dX6_carries_0 ?_
  refine r_getf dX6_carries_1 f_X6_19 (hT.ob) rfl ?_
  refine r_iconst (v := 5) dX6_carries_4 (by decide) ?_
  refine r_iload1 dX6_carries_5 ?_
  refine r_imul dX6_carries_6 ?_
  refine r_iald dX6_carries_7 hT.rpa (i := 5 * p) (by rw [show (5 : Int32) = nI 5 from rfl, tp_mul]) (by omega) (by decide) ?_
  rw [h0]
  refine r_istore2 dX6_carries_8 (Nat.le_of_ble_eq_true rfl) rfl ?_
  refine r_aload0 dX6_carries_9 ?_
  refine r_getf dX6_carries_10 f_X6_19 (hT.ob) rfl ?_
  refine r_iconst (v := 5) dX6_carries_13 (by decide) ?_
  refine r_iload1 dX6_carries_14 ?_
  refine r_imul dX6_carries_15 ?_
  refine r_iconst (v := 1) dX6_carries_16 (by decide) ?_
  refine r_iadd dX6_carries_17 ?_
  refine r_iald dX6_carries_18 hT.rpa (i := 5 * p + 1) (by rw [show (5 : Int32) = nI 5 from rfl, tp_mul]; exact tp_add (5 * p) 1) (by omega) (by decide) ?_
  rw [h1]
  refine r_istore3 dX6_carries_19 (Nat.le_of_ble_eq_true rfl) rfl ?_
  refine r_aload0 dX6_carries_20 ?_
  refine r_getf dX6_carries_21 f_X6_19 (hT.ob) rfl ?_
  refine r_iconst (v := 5) dX6_carries_24 (by decide) ?_
  refine r_iload1 dX6_carries_25 ?_
  refine r_imul dX6_carries_26 ?_
  refine r_iconst (v := 2) dX6_carries_27 (by decide) ?_
  refine r_iadd dX6_carries_28 ?_
  refine r_iald dX6_carries_29 hT.rpa (i := 5 * p + 2) (by rw [show (5 : Int32) = nI 5 from rfl, tp_mul]; exact tp_add (5 * p) 2) (by omega) (by decide) ?_
  rw [h2]
  refine r_istore4 dX6_carries_30 (Nat.le_of_ble_eq_true rfl) rfl ?_
  refine r_aload0 dX6_carries_32 ?_
  refine r_getf dX6_carries_33 f_X6_19 (hT.ob) rfl ?_
  refine r_iconst (v := 5) dX6_carries_36 (by decide) ?_
  refine r_iload1 dX6_carries_37 ?_
  refine r_imul dX6_carries_38 ?_
  refine r_iconst (v := 3) dX6_carries_39 (by decide) ?_
  refine r_iadd dX6_carries_40 ?_
  refine r_iald dX6_carries_41 hT.rpa (i := 5 * p + 3) (by rw [show (5 : Int32) = nI 5 from rfl, tp_mul]; exact tp_add (5 * p) 3) (by omega) (by decide) ?_
  rw [h3]
  refine r_istore5 dX6_carries_42 (Nat.le_of_ble_eq_true rfl) rfl ?_
  refine r_aload0 dX6_carries_44 ?_
  refine r_getf dX6_carries_45 f_X6_19 (hT.ob) rfl ?_
  refine r_iconst (v := 5) dX6_carries_48 (by decide) ?_
  refine r_iload1 dX6_carries_49 ?_
  refine r_imul dX6_carries_50 ?_
  refine r_iconst (v := 4) dX6_carries_51 (by decide) ?_
  refine r_iadd dX6_carries_52 ?_
  refine r_iald dX6_carries_53 hT.rpa (i := 5 * p + 4) (by rw [show (5 : Int32) = nI 5 from rfl, tp_mul]; exact tp_add (5 * p) 4) (by omega) (by decide) ?_
  rw [h4]
  refine r_istore6 dX6_carries_54 (Nat.le_of_ble_eq_true rfl) rfl ?_
  refine r_iload2 dX6_carries_56 ?_
  refine r_bipush (v := 108) dX6_carries_57 (by decide) ?_
  refine r_icmp_ne (tgt := 90) dX6_carries_59 (by decide) (fun c59 => ?_) (fun c59 => ?_)
  · exact absurd rfl c59
  · refine r_aload0 dX6_carries_62 ?_
    refine r_iload3 dX6_carries_63 ?_
    refine r_iload6 dX6_carries_64 ?_
    refine r_pV dX6_carries_66 v_X6_65 (M_canLoad hl hT hw) rfl (hT.ob) rfl rfl rfl (Nat.le_of_ble_eq_true rfl) ⟨(Nat.le_of_ble_eq_true rfl), (Nat.le_of_ble_eq_true rfl)⟩ ⟨(Nat.le_of_ble_eq_true rfl), (Nat.le_of_ble_eq_true rfl)⟩ ?_
    rw [tp_b_t hm]
    refine r_istore7 dX6_carries_69 (Nat.le_of_ble_eq_true rfl) rfl ?_
    refine r_aload0 dX6_carries_71 ?_
    refine r_iload3 dX6_carries_72 ?_
    refine r_iload7 dX6_carries_73 ?_
    refine r_if_eq (tgt := 83) dX6_carries_75 (by decide) (fun c75 => ?_) (fun c75 => ?_)
    · exact absurd c75 (by decide)
    · refine r_iload6 dX6_carries_78 ?_
      refine r_goto (tgt := 84) dX6_carries_80 (by decide) ?_
      refine r_sV0 dX6_carries_84 v_X6_71 (M_loads hl hT hw) rfl (hT.ob) rfl rfl rfl (Nat.le_of_ble_eq_true rfl) ⟨(Nat.le_of_ble_eq_true rfl), (Nat.le_of_ble_eq_true rfl)⟩ ⟨(Nat.le_of_ble_eq_true rfl), (Nat.le_of_ble_eq_true rfl)⟩ (fun h1 hP => ?_)
      have hT := hT.trans hP
      refine r_iload7 dX6_carries_87 ?_
      exact r_zret dX6_carries_89 rfl ⟨(Nat.le_of_ble_eq_true rfl), (Nat.le_of_ble_eq_true rfl)⟩ (by first | rfl | decide) ⟨rfl, hT⟩

set_option maxRecDepth 100000 in
set_option maxHeartbeats 4000000 in
theorem M_carries_l0 {l : Launch} {G : tp_G} {y : Nat} {h0 h : tp_H} {z hi tx pa : Nat → Int32} {st len thr rd nu du : Int32} {hs : Int64} (hl : l.stackTraces = false) (hT0 : mm_S G y h0 z hi tx pa st len thr rd nu du hs h) {p w : Nat} {a : Int32} (hp12 : p ≤ 12) (hw : w < 4) (h0 : pa (5 * p) = 108) (h1 : pa (5 * p + 1) = nI w) {b : Int32} (h2 : pa (5 * p + 2) = b) {c : Int32} (h3 : pa (5 * p + 3) = c) (h4 : pa (5 * p + 4) = a) (hm : ¬ z (z_at w 0) + a ≤ 1000000) : tp_Met l G mX6_carries 0 0 [.ref y, .int (nI p)] h (tp_PS (some (.int (0))) (fun h1 => mm_S G y h (z_loads z w 0) hi tx pa st len thr rd nu du hs h1)) tp_NX := by
  have hT := hT0.self
  refine tp_start (L0 := [some (.ref y), some (.int (nI p)), none, none, none, none, none, none, none]) (by decide) rfl hl (Nat.le_of_ble_eq_true rfl) rfl ?_
  refine r_aload0 dX6_carries_0 ?_
  refine r_getf dX6_carries_1 f_X6_19 (hT.ob) rfl ?_
  refine r_iconst (v := 5) dX6_carries_4 (by decide) ?_
  refine r_iload1 dX6_carries_5 ?_
  refine r_imul dX6_carries_6 ?_
  refine r_iald dX6_carries_7 hT.rpa (i := 5 * p) (by rw [show (5 : Int32) = nI 5 from rfl, tp_mul]) (by omega) (by decide) ?_
  rw [h0]
  refine r_istore2 dX6_carries_8 (Nat.le_of_ble_eq_true rfl) rfl ?_
  refine r_aload0 dX6_carries_9 ?_
  refine r_getf dX6_carries_10 f_X6_19 (hT.ob) rfl ?_
  refine r_iconst (v := 5) dX6_carries_13 (by decide) ?_
  refine r_iload1 dX6_carries_14 ?_
  refine r_imul dX6_carries_15 ?_
  refine r_iconst (v := 1) dX6_carries_16 (by decide) ?_
  refine r_iadd dX6_carries_17 ?_
  refine r_iald dX6_carries_18 hT.rpa (i := 5 * p + 1) (by rw [show (5 : Int32) = nI 5 from rfl, tp_mul]; exact tp_add (5 * p) 1) (by omega) (by decide) ?_
  rw [h1]
  refine r_istore3 dX6_carries_19 (Nat.le_of_ble_eq_true rfl) rfl ?_
  refine r_aload0 dX6_carries_20 ?_
  refine r_getf dX6_carries_21 f_X6_19 (hT.ob) rfl ?_
  refine r_iconst (v := 5) dX6_carries_24 (by decide) ?_
  refine r_iload1 dX6_carries_25 ?_
  refine r_imul dX6_carries_26 ?_
  refine r_iconst (v := 2) dX6_carries_27 (by decide) ?_
  refine r_iadd dX6_carries_28 ?_
  refine r_iald dX6_carries_29 hT.rpa (i := 5 * p + 2) (by rw [show (5 : Int32) = nI 5 from rfl, tp_mul]; exact tp_add (5 * p) 2) (by omega) (by decide) ?_
  rw [h2]
  refine r_istore4 dX6_carries_30 (Nat.le_of_ble_eq_true rfl) rfl ?_
  refine r_aload0 dX6_carries_32 ?_
  refine r_getf dX6_carries_33 f_X6_19 (hT.ob) rfl ?_
  refine r_iconst (v := 5) dX6_carries_36 (by decide) ?_
  refine r_iload1 dX6_carries_37 ?_
  refine r_imul dX6_carries_38 ?_
  refine r_iconst (v := 3) dX6_carries_39 (by decide) ?_
  refine r_iadd dX6_carries_40 ?_
  refine r_iald dX6_carries_41 hT.rpa (i := 5 * p + 3) (by rw [show (5 : Int32) = nI 5 from rfl, tp_mul]; exact tp_add (5 * p) 3) (by omega) (by decide) ?_
  rw [h3]
  refine r_istore5 dX6_carries_42 (Nat.le_of_ble_eq_true rfl) rfl ?_
  refine r_aload0 dX6_carries_44 ?_
  refine r_getf dX6_carries_45 f_X6_19 (hT.ob) rfl ?_
  refine r_iconst (v := 5) dX6_carries_48 (by decide) ?_
  refine r_iload1 dX6_carries_49 ?_
  refine r_imul dX6_carries_50 ?_
  refine r_iconst (v := 4) dX6_carries_51 (by decide) ?_
  refine r_iadd dX6_carries_52 ?_
  refine r_iald dX6_carries_53 hT.rpa (i := 5 * p + 4) (by rw [show (5 : Int32) = nI 5 from rfl, tp_mul]; exact tp_add (5 * p) 4) (by omega) (by decide) ?_
  rw [h4]
  refine r_istore6 dX6_carries_54 (Nat.le_of_ble_eq_true rfl) rfl ?_
  refine r_iload2 dX6_carries_56 ?_
  refine r_bipush (v := 108) dX6_carries_57 (by decide) ?_
  refine r_icmp_ne (tgt := 90) dX6_carries_59 (by decide) (fun c59 => ?_) (fun c59 => ?_)
  · exact absurd rfl c59
  · refine r_aload0 dX6_carries_62 ?_
    refine r_iload3 dX6_carries_63 ?_
    refine r_iload6 dX6_carries_64 ?_
    refine r_pV dX6_carries_66 v_X6_65 (M_canLoad hl hT hw) rfl (hT.ob) rfl rfl rfl (Nat.le_of_ble_eq_true rfl) ⟨(Nat.le_of_ble_eq_true rfl), (Nat.le_of_ble_eq_true rfl)⟩ ⟨(Nat.le_of_ble_eq_true rfl), (Nat.le_of_ble_eq_true rfl)⟩ ?_
    rw [tp_b_f hm]
    refine r_istore7 dX6_carries_69 (Nat.le_of_ble_eq_true rfl) rfl ?_
    refine r_aload0 dX6_carries_71 ?_
    refine r_iload3 dX6_carries_72 ?_
    refine r_iload7 dX6_carries_73 ?_
    refine r_if_eq (tgt := 83) dX6_carries_75 (by decide) (fun c75 => ?_) (fun c75 => ?_)
    · refine r_iconst (v := 0) dX6_carries_83 (by decide) ?_
      refine r_sV0 dX6_carries_84 v_X6_71 (M_loads hl hT hw) rfl (hT.ob) rfl rfl rfl (Nat.le_of_ble_eq_true rfl) ⟨(Nat.le_of_ble_eq_true rfl), (Nat.le_of_ble_eq_true rfl)⟩ ⟨(Nat.le_of_ble_eq_true rfl), (Nat.le_of_ble_eq_true rfl)⟩ (fun h1 hP => ?_)
      have hT := hT.trans hP
      refine r_iload7 dX6_carries_87 ?_
      exact r_zret dX6_carries_89 rfl ⟨(Nat.le_of_ble_eq_true rfl), (Nat.le_of_ble_eq_true rfl)⟩ (by first | rfl | decide) ⟨rfl, hT⟩
    · exact absurd rfl c75

set_option maxRecDepth 100000 in
set_option maxHeartbeats 4000000 in
theorem M_carries_x1 {l : Launch} {G : tp_G} {y : Nat} {h0 h : tp_H} {z hi tx pa : Nat → Int32} {st len thr rd nu du : Int32} {hs : Int64} (hl : l.stackTraces = false) (hT0 : mm_S G y h0 z hi tx pa st len thr rd nu du hs h) {p w : Nat} {a : Int32} (hp12 : p ≤ 12) (hw : w < 4) (h0 : pa (5 * p) = 120) (h1 : pa (5 * p + 1) = nI w) {f : Nat} (hf : f < 4) (h2 : pa (5 * p + 2) = nI f) {t : Nat} (ht : t < 4) (h3 : pa (5 * p + 3) = nI t) (h4 : pa (5 * p + 4) = a) {N : Nat} (hz8 : z 8 = nI N) (hN : N ≤ 8) (hr : ¬ (z_rate z w t).toInt64 = 0) (hm : z_whyEx z w f t a = 0) : tp_Met l G mX6_carries 0 0 [.ref y, .int (nI p)] h (tp_PS (some (.int (1))) (fun h1 => mm_S G y h (z_ex z w f t a) hi tx pa st len thr rd nu du hs h1)) tp_NX := by
  have hT := hT0.self
  refine tp_start (L0 := [some (.ref y), some (.int (nI p)), none, none, none, none, none, none, none]) (by decide) rfl hl (Nat.le_of_ble_eq_true rfl) rfl ?_
  refine r_aload0 dX6_carries_0 ?_
  refine r_getf dX6_carries_1 f_X6_19 (hT.ob) rfl ?_
  refine r_iconst (v := 5) dX6_carries_4 (by decide) ?_
  refine r_iload1 dX6_carries_5 ?_
  refine r_imul dX6_carries_6 ?_
  refine r_iald dX6_carries_7 hT.rpa (i := 5 * p) (by rw [show (5 : Int32) = nI 5 from rfl, tp_mul]) (by omega) (by decide) ?_
  rw [h0]
  refine r_istore2 dX6_carries_8 (Nat.le_of_ble_eq_true rfl) rfl ?_
  refine r_aload0 dX6_carries_9 ?_
  refine r_getf dX6_carries_10 f_X6_19 (hT.ob) rfl ?_
  refine r_iconst (v := 5) dX6_carries_13 (by decide) ?_
  refine r_iload1 dX6_carries_14 ?_
  refine r_imul dX6_carries_15 ?_
  refine r_iconst (v := 1) dX6_carries_16 (by decide) ?_
  refine r_iadd dX6_carries_17 ?_
  refine r_iald dX6_carries_18 hT.rpa (i := 5 * p + 1) (by rw [show (5 : Int32) = nI 5 from rfl, tp_mul]; exact tp_add (5 * p) 1) (by omega) (by decide) ?_
  rw [h1]
  refine r_istore3 dX6_carries_19 (Nat.le_of_ble_eq_true rfl) rfl ?_
  refine r_aload0 dX6_carries_20 ?_
  refine r_getf dX6_carries_21 f_X6_19 (hT.ob) rfl ?_
  refine r_iconst (v := 5) dX6_carries_24 (by decide) ?_
  refine r_iload1 dX6_carries_25 ?_
  refine r_imul dX6_carries_26 ?_
  refine r_iconst (v := 2) dX6_carries_27 (by decide) ?_
  refine r_iadd dX6_carries_28 ?_
  refine r_iald dX6_carries_29 hT.rpa (i := 5 * p + 2) (by rw [show (5 : Int32) = nI 5 from rfl, tp_mul]; exact tp_add (5 * p) 2) (by omega) (by decide) ?_
  rw [h2]
  refine r_istore4 dX6_carries_30 (Nat.le_of_ble_eq_true rfl) rfl ?_
  refine r_aload0 dX6_carries_32 ?_
  refine r_getf dX6_carries_33 f_X6_19 (hT.ob) rfl ?_
  refine r_iconst (v := 5) dX6_carries_36 (by decide) ?_
  refine r_iload1 dX6_carries_37 ?_
  refine r_imul dX6_carries_38 ?_
  refine r_iconst (v := 3) dX6_carries_39 (by decide) ?_
  refine r_iadd dX6_carries_40 ?_
  refine r_iald dX6_carries_41 hT.rpa (i := 5 * p + 3) (by rw [show (5 : Int32) = nI 5 from rfl, tp_mul]; exact tp_add (5 * p) 3) (by omega) (by decide) ?_
  rw [h3]
  refine r_istore5 dX6_carries_42 (Nat.le_of_ble_eq_true rfl) rfl ?_
  refine r_aload0 dX6_carries_44 ?_
  refine r_getf dX6_carries_45 f_X6_19 (hT.ob) rfl ?_
  refine r_iconst (v := 5) dX6_carries_48 (by decide) ?_
  refine r_iload1 dX6_carries_49 ?_
  refine r_imul dX6_carries_50 ?_
  refine r_iconst (v := 4) dX6_carries_51 (by decide) ?_
  refine r_iadd dX6_carries_52 ?_
  refine r_iald dX6_carries_53 hT.rpa (i := 5 * p + 4) (by rw [show (5 : Int32) = nI 5 from rfl, tp_mul]; exact tp_add (5 * p) 4) (by omega) (by decide) ?_
  rw [h4]
  refine r_istore6 dX6_carries_54 (Nat.le_of_ble_eq_true rfl) rfl ?_
  refine r_iload2 dX6_carries_56 ?_
  refine r_bipush (v := 108) dX6_carries_57 (by decide) ?_
  refine r_icmp_ne (tgt := 90) dX6_carries_59 (by decide) (fun c59 => ?_) (fun c59 => ?_)
  · refine r_iload2 dX6_carries_90 ?_
    refine r_bipush (v := 120) dX6_carries_91 (by decide) ?_
    refine r_icmp_ne (tgt := 110) dX6_carries_93 (by decide) (fun c93 => ?_) (fun c93 => ?_)
    · exact absurd rfl c93
    · refine r_aload0 dX6_carries_96 ?_
      refine r_iload3 dX6_carries_97 ?_
      refine r_iload4 dX6_carries_98 ?_
      refine r_iload5 dX6_carries_100 ?_
      refine r_iload6 dX6_carries_102 ?_
      refine r_pV dX6_carries_104 v_X6_105 (M_whyNoExchange hl hT hw hf ht hz8 hN) rfl (hT.ob) rfl rfl rfl (Nat.le_of_ble_eq_true rfl) ⟨(Nat.le_of_ble_eq_true rfl), (Nat.le_of_ble_eq_true rfl)⟩ ⟨(Nat.le_of_ble_eq_true rfl), (Nat.le_of_ble_eq_true rfl)⟩ ?_
      refine r_goto (tgt := 119) dX6_carries_107 (by decide) ?_
      refine r_if_ne (tgt := 126) dX6_carries_119 (by decide) (fun c119 => ?_) (fun c119 => ?_)
      · first | exact absurd (by assumption) (tp_b_0.mp c119) | exact absurd (by assumption) (tp_b_0.mp (Classical.not_not.mp c119)) | exact absurd (tp_b_n c119) (by assumption) | exact absurd (by assumption) c119 | exact absurd c119 (by assumption)
      · refine r_iconst (v := 1) dX6_carries_122 (by decide) ?_
        refine r_goto (tgt := 127) dX6_carries_123 (by decide) ?_
        refine r_istore7 dX6_carries_127 (Nat.le_of_ble_eq_true rfl) rfl ?_
        refine r_iload7 dX6_carries_129 ?_
        refine r_if_ne (tgt := 138) dX6_carries_131 (by decide) (fun c131 => ?_) (fun c131 => ?_)
        · refine r_iload2 dX6_carries_138 ?_
          refine r_bipush (v := 120) dX6_carries_139 (by decide) ?_
          refine r_icmp_ne (tgt := 158) dX6_carries_141 (by decide) (fun c141 => ?_) (fun c141 => ?_)
          · exact absurd rfl c141
          · refine r_aload0 dX6_carries_144 ?_
            refine r_iload3 dX6_carries_145 ?_
            refine r_iload4 dX6_carries_146 ?_
            refine r_iload5 dX6_carries_148 ?_
            refine r_iload6 dX6_carries_150 ?_
            refine r_sV1 dX6_carries_152 v_X6_108 (M_exchanges hl hT hw hf ht hr) rfl (hT.ob) rfl rfl rfl (Nat.le_of_ble_eq_true rfl) ⟨(Nat.le_of_ble_eq_true rfl), (Nat.le_of_ble_eq_true rfl)⟩ ⟨(Nat.le_of_ble_eq_true rfl), (Nat.le_of_ble_eq_true rfl)⟩ (fun h1 hP => ?_)
            have hT := hT.trans hP
            refine r_goto (tgt := 167) dX6_carries_155 (by decide) ?_
            refine r_istore8 dX6_carries_167 (Nat.le_of_ble_eq_true rfl) rfl ?_
            refine r_iload7 dX6_carries_169 ?_
            exact r_zret dX6_carries_171 rfl ⟨(Nat.le_of_ble_eq_true rfl), (Nat.le_of_ble_eq_true rfl)⟩ (by first | rfl | decide) ⟨rfl, hT⟩
        · exact absurd c131 (by decide)
  · exact absurd c59 (by decide)

set_option maxRecDepth 100000 in
set_option maxHeartbeats 4000000 in
theorem M_carries_x0 {l : Launch} {G : tp_G} {y : Nat} {h0 h : tp_H} {z hi tx pa : Nat → Int32} {st len thr rd nu du : Int32} {hs : Int64} (hl : l.stackTraces = false) (hT0 : mm_S G y h0 z hi tx pa st len thr rd nu du hs h) {p w : Nat} {a : Int32} (hp12 : p ≤ 12) (hw : w < 4) (h0 : pa (5 * p) = 120) (h1 : pa (5 * p + 1) = nI w) {f : Nat} (hf : f < 4) (h2 : pa (5 * p + 2) = nI f) {t : Nat} (ht : t < 4) (h3 : pa (5 * p + 3) = nI t) (h4 : pa (5 * p + 4) = a) {N : Nat} (hz8 : z 8 = nI N) (hN : N ≤ 8) (hm : ¬ z_whyEx z w f t a = 0) : tp_Met l G mX6_carries 0 0 [.ref y, .int (nI p)] h (tp_PS (some (.int (0))) (fun h1 => mm_S G y h z hi tx pa st len thr rd nu du hs h1)) tp_NX := by
  have hT := hT0.self
  refine tp_start (L0 := [some (.ref y), some (.int (nI p)), none, none, none, none, none, none, none]) (by decide) rfl hl (Nat.le_of_ble_eq_true rfl) rfl ?_
  refine r_aload0 dX6_carries_0 ?_
  refine r_getf dX6_carries_1 f_X6_19 (hT.ob) rfl ?_
  refine r_iconst (v := 5) dX6_carries_4 (by decide) ?_
  refine r_iload1 dX6_carries_5 ?_
  refine r_imul dX6_carries_6 ?_
  refine r_iald dX6_carries_7 hT.rpa (i := 5 * p) (by rw [show (5 : Int32) = nI 5 from rfl, tp_mul]) (by omega) (by decide) ?_
  rw [h0]
  refine r_istore2 dX6_carries_8 (Nat.le_of_ble_eq_true rfl) rfl ?_
  refine r_aload0 dX6_carries_9 ?_
  refine r_getf dX6_carries_10 f_X6_19 (hT.ob) rfl ?_
  refine r_iconst (v := 5) dX6_carries_13 (by decide) ?_
  refine r_iload1 dX6_carries_14 ?_
  refine r_imul dX6_carries_15 ?_
  refine r_iconst (v := 1) dX6_carries_16 (by decide) ?_
  refine r_iadd dX6_carries_17 ?_
  refine r_iald dX6_carries_18 hT.rpa (i := 5 * p + 1) (by rw [show (5 : Int32) = nI 5 from rfl, tp_mul]; exact tp_add (5 * p) 1) (by omega) (by decide) ?_
  rw [h1]
  refine r_istore3 dX6_carries_19 (Nat.le_of_ble_eq_true rfl) rfl ?_
  refine r_aload0 dX6_carries_20 ?_
  refine r_getf dX6_carries_21 f_X6_19 (hT.ob) rfl ?_
  refine r_iconst (v := 5) dX6_carries_24 (by decide) ?_
  refine r_iload1 dX6_carries_25 ?_
  refine r_imul dX6_carries_26 ?_
  refine r_iconst (v := 2) dX6_carries_27 (by decide) ?_
  refine r_iadd dX6_carries_28 ?_
  refine r_iald dX6_carries_29 hT.rpa (i := 5 * p + 2) (by rw [show (5 : Int32) = nI 5 from rfl, tp_mul]; exact tp_add (5 * p) 2) (by omega) (by decide) ?_
  rw [h2]
  refine r_istore4 dX6_carries_30 (Nat.le_of_ble_eq_true rfl) rfl ?_
  refine r_aload0 dX6_carries_32 ?_
  refine r_getf dX6_carries_33 f_X6_19 (hT.ob) rfl ?_
  refine r_iconst (v := 5) dX6_carries_36 (by decide) ?_
  refine r_iload1 dX6_carries_37 ?_
  refine r_imul dX6_carries_38 ?_
  refine r_iconst (v := 3) dX6_carries_39 (by decide) ?_
  refine r_iadd dX6_carries_40 ?_
  refine r_iald dX6_carries_41 hT.rpa (i := 5 * p + 3) (by rw [show (5 : Int32) = nI 5 from rfl, tp_mul]; exact tp_add (5 * p) 3) (by omega) (by decide) ?_
  rw [h3]
  refine r_istore5 dX6_carries_42 (Nat.le_of_ble_eq_true rfl) rfl ?_
  refine r_aload0 dX6_carries_44 ?_
  refine r_getf dX6_carries_45 f_X6_19 (hT.ob) rfl ?_
  refine r_iconst (v := 5) dX6_carries_48 (by decide) ?_
  refine r_iload1 dX6_carries_49 ?_
  refine r_imul dX6_carries_50 ?_
  refine r_iconst (v := 4) dX6_carries_51 (by decide) ?_
  refine r_iadd dX6_carries_52 ?_
  refine r_iald dX6_carries_53 hT.rpa (i := 5 * p + 4) (by rw [show (5 : Int32) = nI 5 from rfl, tp_mul]; exact tp_add (5 * p) 4) (by omega) (by decide) ?_
  rw [h4]
  refine r_istore6 dX6_carries_54 (Nat.le_of_ble_eq_true rfl) rfl ?_
  refine r_iload2 dX6_carries_56 ?_
  refine r_bipush (v := 108) dX6_carries_57 (by decide) ?_
  refine r_icmp_ne (tgt := 90) dX6_carries_59 (by decide) (fun c59 => ?_) (fun c59 => ?_)
  · refine r_iload2 dX6_carries_90 ?_
    refine r_bipush (v := 120) dX6_carries_91 (by decide) ?_
    refine r_icmp_ne (tgt := 110) dX6_carries_93 (by decide) (fun c93 => ?_) (fun c93 => ?_)
    · exact absurd rfl c93
    · refine r_aload0 dX6_carries_96 ?_
      refine r_iload3 dX6_carries_97 ?_
      refine r_iload4 dX6_carries_98 ?_
      refine r_iload5 dX6_carries_100 ?_
      refine r_iload6 dX6_carries_102 ?_
      refine r_pV dX6_carries_104 v_X6_105 (M_whyNoExchange hl hT hw hf ht hz8 hN) rfl (hT.ob) rfl rfl rfl (Nat.le_of_ble_eq_true rfl) ⟨(Nat.le_of_ble_eq_true rfl), (Nat.le_of_ble_eq_true rfl)⟩ ⟨(Nat.le_of_ble_eq_true rfl), (Nat.le_of_ble_eq_true rfl)⟩ ?_
      refine r_goto (tgt := 119) dX6_carries_107 (by decide) ?_
      refine r_if_ne (tgt := 126) dX6_carries_119 (by decide) (fun c119 => ?_) (fun c119 => ?_)
      · refine r_iconst (v := 0) dX6_carries_126 (by decide) ?_
        refine r_istore7 dX6_carries_127 (Nat.le_of_ble_eq_true rfl) rfl ?_
        refine r_iload7 dX6_carries_129 ?_
        refine r_if_ne (tgt := 138) dX6_carries_131 (by decide) (fun c131 => ?_) (fun c131 => ?_)
        · exact absurd rfl c131
        · refine r_iconst (v := 0) dX6_carries_134 (by decide) ?_
          refine r_goto (tgt := 167) dX6_carries_135 (by decide) ?_
          refine r_istore8 dX6_carries_167 (Nat.le_of_ble_eq_true rfl) rfl ?_
          refine r_iload7 dX6_carries_169 ?_
          exact r_zret dX6_carries_171 rfl ⟨(Nat.le_of_ble_eq_true rfl), (Nat.le_of_ble_eq_true rfl)⟩ (by first | rfl | decide) ⟨rfl, hT⟩
      · first | exact absurd (by assumption) (tp_b_0.mp c119) | exact absurd (by assumption) (tp_b_0.mp (Classical.not_not.mp c119)) | exact absurd (tp_b_n c119) (by assumption) | exact absurd (by assumption) c119 | exact absurd c119 (by assumption)
  · exact absurd c59 (by decide)

set_option maxRecDepth 100000 in
set_option maxHeartbeats 4000000 in
theorem M_carries_h1 {l : Launch} {G : tp_G} {y : Nat} {h0 h : tp_H} {z hi tx pa : Nat → Int32} {st len thr rd nu du : Int32} {hs : Int64} (hl : l.stackTraces = false) (hT0 : mm_S G y h0 z hi tx pa st len thr rd nu du hs h) {p w : Nat} {a : Int32} (hp12 : p ≤ 12) (hw : w < 4) (h0 : pa (5 * p) = 104) (h1 : pa (5 * p + 1) = nI w) {f : Nat} (hf : f < 4) (h2 : pa (5 * p + 2) = nI f) {c : Int32} (h3 : pa (5 * p + 3) = c) (h4 : pa (5 * p + 4) = a) {N : Nat} (hz8 : z 8 = nI N) (hN : N ≤ 8) (hN8 : N < 8) (hm : z_whyHold z w f a = 0) : tp_Met l G mX6_carries 0 0 [.ref y, .int (nI p)] h (tp_PS (some (.int (1))) (fun h1 => mm_S G y h (z_holds z w f a) hi tx pa st len thr rd nu du hs h1)) tp_NX := by
  have hT := hT0.self
  refine tp_start (L0 := [some (.ref y), some (.int (nI p)), none, none, none, none, none, none, none]) (by decide) rfl hl (Nat.le_of_ble_eq_true rfl) rfl ?_
  refine r_aload0 dX6_carries_0 ?_
  refine r_getf dX6_carries_1 f_X6_19 (hT.ob) rfl ?_
  refine r_iconst (v := 5) dX6_carries_4 (by decide) ?_
  refine r_iload1 dX6_carries_5 ?_
  refine r_imul dX6_carries_6 ?_
  refine r_iald dX6_carries_7 hT.rpa (i := 5 * p) (by rw [show (5 : Int32) = nI 5 from rfl, tp_mul]) (by omega) (by decide) ?_
  rw [h0]
  refine r_istore2 dX6_carries_8 (Nat.le_of_ble_eq_true rfl) rfl ?_
  refine r_aload0 dX6_carries_9 ?_
  refine r_getf dX6_carries_10 f_X6_19 (hT.ob) rfl ?_
  refine r_iconst (v := 5) dX6_carries_13 (by decide) ?_
  refine r_iload1 dX6_carries_14 ?_
  refine r_imul dX6_carries_15 ?_
  refine r_iconst (v := 1) dX6_carries_16 (by decide) ?_
  refine r_iadd dX6_carries_17 ?_
  refine r_iald dX6_carries_18 hT.rpa (i := 5 * p + 1) (by rw [show (5 : Int32) = nI 5 from rfl, tp_mul]; exact tp_add (5 * p) 1) (by omega) (by decide) ?_
  rw [h1]
  refine r_istore3 dX6_carries_19 (Nat.le_of_ble_eq_true rfl) rfl ?_
  refine r_aload0 dX6_carries_20 ?_
  refine r_getf dX6_carries_21 f_X6_19 (hT.ob) rfl ?_
  refine r_iconst (v := 5) dX6_carries_24 (by decide) ?_
  refine r_iload1 dX6_carries_25 ?_
  refine r_imul dX6_carries_26 ?_
  refine r_iconst (v := 2) dX6_carries_27 (by decide) ?_
  refine r_iadd dX6_carries_28 ?_
  refine r_iald dX6_carries_29 hT.rpa (i := 5 * p + 2) (by rw [show (5 : Int32) = nI 5 from rfl, tp_mul]; exact tp_add (5 * p) 2) (by omega) (by decide) ?_
  rw [h2]
  refine r_istore4 dX6_carries_30 (Nat.le_of_ble_eq_true rfl) rfl ?_
  refine r_aload0 dX6_carries_32 ?_
  refine r_getf dX6_carries_33 f_X6_19 (hT.ob) rfl ?_
  refine r_iconst (v := 5) dX6_carries_36 (by decide) ?_
  refine r_iload1 dX6_carries_37 ?_
  refine r_imul dX6_carries_38 ?_
  refine r_iconst (v := 3) dX6_carries_39 (by decide) ?_
  refine r_iadd dX6_carries_40 ?_
  refine r_iald dX6_carries_41 hT.rpa (i := 5 * p + 3) (by rw [show (5 : Int32) = nI 5 from rfl, tp_mul]; exact tp_add (5 * p) 3) (by omega) (by decide) ?_
  rw [h3]
  refine r_istore5 dX6_carries_42 (Nat.le_of_ble_eq_true rfl) rfl ?_
  refine r_aload0 dX6_carries_44 ?_
  refine r_getf dX6_carries_45 f_X6_19 (hT.ob) rfl ?_
  refine r_iconst (v := 5) dX6_carries_48 (by decide) ?_
  refine r_iload1 dX6_carries_49 ?_
  refine r_imul dX6_carries_50 ?_
  refine r_iconst (v := 4) dX6_carries_51 (by decide) ?_
  refine r_iadd dX6_carries_52 ?_
  refine r_iald dX6_carries_53 hT.rpa (i := 5 * p + 4) (by rw [show (5 : Int32) = nI 5 from rfl, tp_mul]; exact tp_add (5 * p) 4) (by omega) (by decide) ?_
  rw [h4]
  refine r_istore6 dX6_carries_54 (Nat.le_of_ble_eq_true rfl) rfl ?_
  refine r_iload2 dX6_carries_56 ?_
  refine r_bipush (v := 108) dX6_carries_57 (by decide) ?_
  refine r_icmp_ne (tgt := 90) dX6_carries_59 (by decide) (fun c59 => ?_) (fun c59 => ?_)
  · refine r_iload2 dX6_carries_90 ?_
    refine r_bipush (v := 120) dX6_carries_91 (by decide) ?_
    refine r_icmp_ne (tgt := 110) dX6_carries_93 (by decide) (fun c93 => ?_) (fun c93 => ?_)
    · refine r_aload0 dX6_carries_110 ?_
      refine r_iload3 dX6_carries_111 ?_
      refine r_iload4 dX6_carries_112 ?_
      refine r_iload6 dX6_carries_114 ?_
      refine r_pV dX6_carries_116 v_X6_114 (M_whyNoHold hl hT hw hf hz8 hN) rfl (hT.ob) rfl rfl rfl (Nat.le_of_ble_eq_true rfl) ⟨(Nat.le_of_ble_eq_true rfl), (Nat.le_of_ble_eq_true rfl)⟩ ⟨(Nat.le_of_ble_eq_true rfl), (Nat.le_of_ble_eq_true rfl)⟩ ?_
      refine r_if_ne (tgt := 126) dX6_carries_119 (by decide) (fun c119 => ?_) (fun c119 => ?_)
      · first | exact absurd (by assumption) (tp_b_0.mp c119) | exact absurd (by assumption) (tp_b_0.mp (Classical.not_not.mp c119)) | exact absurd (tp_b_n c119) (by assumption) | exact absurd (by assumption) c119 | exact absurd c119 (by assumption)
      · refine r_iconst (v := 1) dX6_carries_122 (by decide) ?_
        refine r_goto (tgt := 127) dX6_carries_123 (by decide) ?_
        refine r_istore7 dX6_carries_127 (Nat.le_of_ble_eq_true rfl) rfl ?_
        refine r_iload7 dX6_carries_129 ?_
        refine r_if_ne (tgt := 138) dX6_carries_131 (by decide) (fun c131 => ?_) (fun c131 => ?_)
        · refine r_iload2 dX6_carries_138 ?_
          refine r_bipush (v := 120) dX6_carries_139 (by decide) ?_
          refine r_icmp_ne (tgt := 158) dX6_carries_141 (by decide) (fun c141 => ?_) (fun c141 => ?_)
          · refine r_aload0 dX6_carries_158 ?_
            refine r_iload3 dX6_carries_159 ?_
            refine r_iload4 dX6_carries_160 ?_
            refine r_iload6 dX6_carries_162 ?_
            refine r_sV1 dX6_carries_164 v_X6_117 (M_holds hl hT hz8 hN8) rfl (hT.ob) rfl rfl rfl (Nat.le_of_ble_eq_true rfl) ⟨(Nat.le_of_ble_eq_true rfl), (Nat.le_of_ble_eq_true rfl)⟩ ⟨(Nat.le_of_ble_eq_true rfl), (Nat.le_of_ble_eq_true rfl)⟩ (fun h1 hP => ?_)
            have hT := hT.trans hP
            refine r_istore8 dX6_carries_167 (Nat.le_of_ble_eq_true rfl) rfl ?_
            refine r_iload7 dX6_carries_169 ?_
            exact r_zret dX6_carries_171 rfl ⟨(Nat.le_of_ble_eq_true rfl), (Nat.le_of_ble_eq_true rfl)⟩ (by first | rfl | decide) ⟨rfl, hT⟩
          · exact absurd c141 (by decide)
        · exact absurd c131 (by decide)
    · exact absurd c93 (by decide)
  · exact absurd c59 (by decide)

set_option maxRecDepth 100000 in
set_option maxHeartbeats 4000000 in
theorem M_carries_h0 {l : Launch} {G : tp_G} {y : Nat} {h0 h : tp_H} {z hi tx pa : Nat → Int32} {st len thr rd nu du : Int32} {hs : Int64} (hl : l.stackTraces = false) (hT0 : mm_S G y h0 z hi tx pa st len thr rd nu du hs h) {p w : Nat} {a : Int32} (hp12 : p ≤ 12) (hw : w < 4) (h0 : pa (5 * p) = 104) (h1 : pa (5 * p + 1) = nI w) {f : Nat} (hf : f < 4) (h2 : pa (5 * p + 2) = nI f) {c : Int32} (h3 : pa (5 * p + 3) = c) (h4 : pa (5 * p + 4) = a) {N : Nat} (hz8 : z 8 = nI N) (hN : N ≤ 8) (hm : ¬ z_whyHold z w f a = 0) : tp_Met l G mX6_carries 0 0 [.ref y, .int (nI p)] h (tp_PS (some (.int (0))) (fun h1 => mm_S G y h z hi tx pa st len thr rd nu du hs h1)) tp_NX := by
  have hT := hT0.self
  refine tp_start (L0 := [some (.ref y), some (.int (nI p)), none, none, none, none, none, none, none]) (by decide) rfl hl (Nat.le_of_ble_eq_true rfl) rfl ?_
  refine r_aload0 dX6_carries_0 ?_
  refine r_getf dX6_carries_1 f_X6_19 (hT.ob) rfl ?_
  refine r_iconst (v := 5) dX6_carries_4 (by decide) ?_
  refine r_iload1 dX6_carries_5 ?_
  refine r_imul dX6_carries_6 ?_
  refine r_iald dX6_carries_7 hT.rpa (i := 5 * p) (by rw [show (5 : Int32) = nI 5 from rfl, tp_mul]) (by omega) (by decide) ?_
  rw [h0]
  refine r_istore2 dX6_carries_8 (Nat.le_of_ble_eq_true rfl) rfl ?_
  refine r_aload0 dX6_carries_9 ?_
  refine r_getf dX6_carries_10 f_X6_19 (hT.ob) rfl ?_
  refine r_iconst (v := 5) dX6_carries_13 (by decide) ?_
  refine r_iload1 dX6_carries_14 ?_
  refine r_imul dX6_carries_15 ?_
  refine r_iconst (v := 1) dX6_carries_16 (by decide) ?_
  refine r_iadd dX6_carries_17 ?_
  refine r_iald dX6_carries_18 hT.rpa (i := 5 * p + 1) (by rw [show (5 : Int32) = nI 5 from rfl, tp_mul]; exact tp_add (5 * p) 1) (by omega) (by decide) ?_
  rw [h1]
  refine r_istore3 dX6_carries_19 (Nat.le_of_ble_eq_true rfl) rfl ?_
  refine r_aload0 dX6_carries_20 ?_
  refine r_getf dX6_carries_21 f_X6_19 (hT.ob) rfl ?_
  refine r_iconst (v := 5) dX6_carries_24 (by decide) ?_
  refine r_iload1 dX6_carries_25 ?_
  refine r_imul dX6_carries_26 ?_
  refine r_iconst (v := 2) dX6_carries_27 (by decide) ?_
  refine r_iadd dX6_carries_28 ?_
  refine r_iald dX6_carries_29 hT.rpa (i := 5 * p + 2) (by rw [show (5 : Int32) = nI 5 from rfl, tp_mul]; exact tp_add (5 * p) 2) (by omega) (by decide) ?_
  rw [h2]
  refine r_istore4 dX6_carries_30 (Nat.le_of_ble_eq_true rfl) rfl ?_
  refine r_aload0 dX6_carries_32 ?_
  refine r_getf dX6_carries_33 f_X6_19 (hT.ob) rfl ?_
  refine r_iconst (v := 5) dX6_carries_36 (by decide) ?_
  refine r_iload1 dX6_carries_37 ?_
  refine r_imul dX6_carries_38 ?_
  refine r_iconst (v := 3) dX6_carries_39 (by decide) ?_
  refine r_iadd dX6_carries_40 ?_
  refine r_iald dX6_carries_41 hT.rpa (i := 5 * p + 3) (by rw [show (5 : Int32) = nI 5 from rfl, tp_mul]; exact tp_add (5 * p) 3) (by omega) (by decide) ?_
  rw [h3]
  refine r_istore5 dX6_carries_42 (Nat.le_of_ble_eq_true rfl) rfl ?_
  refine r_aload0 dX6_carries_44 ?_
  refine r_getf dX6_carries_45 f_X6_19 (hT.ob) rfl ?_
  refine r_iconst (v := 5) dX6_carries_48 (by decide) ?_
  refine r_iload1 dX6_carries_49 ?_
  refine r_imul dX6_carries_50 ?_
  refine r_iconst (v := 4) dX6_carries_51 (by decide) ?_
  refine r_iadd dX6_carries_52 ?_
  refine r_iald dX6_carries_53 hT.rpa (i := 5 * p + 4) (by rw [show (5 : Int32) = nI 5 from rfl, tp_mul]; exact tp_add (5 * p) 4) (by omega) (by decide) ?_
  rw [h4]
  refine r_istore6 dX6_carries_54 (Nat.le_of_ble_eq_true rfl) rfl ?_
  refine r_iload2 dX6_carries_56 ?_
  refine r_bipush (v := 108) dX6_carries_57 (by decide) ?_
  refine r_icmp_ne (tgt := 90) dX6_carries_59 (by decide) (fun c59 => ?_) (fun c59 => ?_)
  · refine r_iload2 dX6_carries_90 ?_
    refine r_bipush (v := 120) dX6_carries_91 (by decide) ?_
    refine r_icmp_ne (tgt := 110) dX6_carries_93 (by decide) (fun c93 => ?_) (fun c93 => ?_)
    · refine r_aload0 dX6_carries_110 ?_
      refine r_iload3 dX6_carries_111 ?_
      refine r_iload4 dX6_carries_112 ?_
      refine r_iload6 dX6_carries_114 ?_
      refine r_pV dX6_carries_116 v_X6_114 (M_whyNoHold hl hT hw hf hz8 hN) rfl (hT.ob) rfl rfl rfl (Nat.le_of_ble_eq_true rfl) ⟨(Nat.le_of_ble_eq_true rfl), (Nat.le_of_ble_eq_true rfl)⟩ ⟨(Nat.le_of_ble_eq_true rfl), (Nat.le_of_ble_eq_true rfl)⟩ ?_
      refine r_if_ne (tgt := 126) dX6_carries_119 (by decide) (fun c119 => ?_) (fun c119 => ?_)
      · refine r_iconst (v := 0) dX6_carries_126 (by decide) ?_
        refine r_istore7 dX6_carries_127 (Nat.le_of_ble_eq_true rfl) rfl ?_
        refine r_iload7 dX6_carries_129 ?_
        refine r_if_ne (tgt := 138) dX6_carries_131 (by decide) (fun c131 => ?_) (fun c131 => ?_)
        · exact absurd rfl c131
        · refine r_iconst (v := 0) dX6_carries_134 (by decide) ?_
          refine r_goto (tgt := 167) dX6_carries_135 (by decide) ?_
          refine r_istore8 dX6_carries_167 (Nat.le_of_ble_eq_true rfl) rfl ?_
          refine r_iload7 dX6_carries_169 ?_
          exact r_zret dX6_carries_171 rfl ⟨(Nat.le_of_ble_eq_true rfl), (Nat.le_of_ble_eq_true rfl)⟩ (by first | rfl | decide) ⟨rfl, hT⟩
      · first | exact absurd (by assumption) (tp_b_0.mp c119) | exact absurd (by assumption) (tp_b_0.mp (Classical.not_not.mp c119)) | exact absurd (tp_b_n c119) (by assumption) | exact absurd (by assumption) c119 | exact absurd c119 (by assumption)
    · exact absurd c93 (by decide)
  · exact absurd c59 (by decide)

