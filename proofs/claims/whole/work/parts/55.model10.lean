theorem mm_S.crd {G : tp_G} {y : Nat} {h0 h : tp_H} {z hi tx pa : Nat → Int32} {st len thr rd nu du : Int32} {hs : Int64} {x : Int32} (hT : mm_S G y h0 z hi tx pa st len thr rd nu du hs h) (e : rd = x) : mm_S G y h0 z hi tx pa st len thr x nu du hs h := e ▸ hT
theorem mm_S.cnu {G : tp_G} {y : Nat} {h0 h : tp_H} {z hi tx pa : Nat → Int32} {st len thr rd nu du : Int32} {hs : Int64} {x : Int32} (hT : mm_S G y h0 z hi tx pa st len thr rd nu du hs h) (e : nu = x) : mm_S G y h0 z hi tx pa st len thr rd x du hs h := e ▸ hT
theorem mm_S.cdu {G : tp_G} {y : Nat} {h0 h : tp_H} {z hi tx pa : Nat → Int32} {st len thr rd nu du : Int32} {hs : Int64} {x : Int32} (hT : mm_S G y h0 z hi tx pa st len thr rd nu du hs h) (e : du = x) : mm_S G y h0 z hi tx pa st len thr rd nu x hs h := e ▸ hT
theorem mm_S.cthr {G : tp_G} {y : Nat} {h0 h : tp_H} {z hi tx pa : Nat → Int32} {st len thr rd nu du : Int32} {hs : Int64} {x : Int32} (hT : mm_S G y h0 z hi tx pa st len thr rd nu du hs h) (e : thr = x) : mm_S G y h0 z hi tx pa st len x rd nu du hs h := e ▸ hT
theorem mm_S.clen {G : tp_G} {y : Nat} {h0 h : tp_H} {z hi tx pa : Nat → Int32} {st len thr rd nu du : Int32} {hs : Int64} {x : Int32} (hT : mm_S G y h0 z hi tx pa st len thr rd nu du hs h) (e : len = x) : mm_S G y h0 z hi tx pa st x thr rd nu du hs h := e ▸ hT
theorem mm_S.cst {G : tp_G} {y : Nat} {h0 h : tp_H} {z hi tx pa : Nat → Int32} {st len thr rd nu du : Int32} {hs : Int64} {x : Int32} (hT : mm_S G y h0 z hi tx pa st len thr rd nu du hs h) (e : st = x) : mm_S G y h0 z hi tx pa x len thr rd nu du hs h := e ▸ hT
theorem mm_S.cpa {G : tp_G} {y : Nat} {h0 h : tp_H} {z hi tx pa : Nat → Int32} {st len thr rd nu du : Int32} {hs : Int64} {x : Nat → Int32} (hT : mm_S G y h0 z hi tx pa st len thr rd nu du hs h) (e : pa = x) : mm_S G y h0 z hi tx x st len thr rd nu du hs h := e ▸ hT
/-! reading a row of orders: the reference's step on (parts, order, number, due) -/
def p_du (l : Int32) (D : Nat) : Nat := if l = 108 then (if D = 1 then 4 else D + 1) else if l = 104 then (if D = 2 then 4 else D + 1) else (if D = 3 then 4 else D + 1)
def p_v (nu g : Int32) : Int32 := if nu = -1 then g else 10 * nu + g
def p_dg (nu g : Int32) : Prop := (0 ≤ g ∧ g ≤ 9) ∧ (1 ≤ p_v nu g ∧ p_v nu g ≤ 99999)

set_option maxRecDepth 100000 in
set_option maxHeartbeats 4000000 in
theorem M_takesPlace {l : Launch} {G : tp_G} {y : Nat} {h0 h : tp_H} {z hi tx pa : Nat → Int32} {st len thr nu : Int32} {R D : Nat} {hs : Int64} (hl : l.stackTraces = false) (hT0 : mm_S G y h0 z hi tx pa st len thr (nI R) nu (nI D) hs h) (hR : R ≤ 11) {c : Int32} (hD : 1 ≤ D ∧ D ≤ 3) : tp_Met l G mX6_takesPlace 0 0 [.ref y, .int c] h (tp_PS (some (.int (tp_b (48 ≤ c ∧ c ≤ 51)))) (fun h1 => mm_S G y h z hi tx (va_up pa (5 * R + D) (c - 48)) st len thr (nI R) nu (nI (p_du (pa (5 * R)) D)) hs h1)) tp_NX := by
  have hT := hT0.self
  refine tp_start (L0 := [some (.ref y), some (.int c), none, none]) (by decide) rfl hl (Nat.le_of_ble_eq_true rfl) rfl ?_
  refine r_aload0 dX6_takesPlace_0 ?_
  refine r_getf dX6_takesPlace_1 f_X6_19 (hT.ob) rfl ?_
  refine r_iconst (v := 5) dX6_takesPlace_4 (by decide) ?_
  refine r_aload0 dX6_takesPlace_5 ?_
  refine r_getf dX6_takesPlace_6 f_X6_167 (hT.ob) rfl ?_
  refine r_imul dX6_takesPlace_9 ?_
  refine r_iald dX6_takesPlace_10 hT.rpa (i := 5 * R) (by rw [show (5 : Int32) = nI 5 from rfl, tp_mul]) (by omega) (by decide) ?_
  refine r_istore2 dX6_takesPlace_11 (Nat.le_of_ble_eq_true rfl) rfl ?_
  refine r_iload2 dX6_takesPlace_12 ?_
  refine r_bipush (v := 108) dX6_takesPlace_13 (by decide) ?_
  refine r_icmp_ne (tgt := 34) dX6_takesPlace_15 (by decide) (fun c15 => ?_) (fun c15 => ?_)
  · refine r_iload2 dX6_takesPlace_34 ?_
    refine r_bipush (v := 104) dX6_takesPlace_35 (by decide) ?_
    refine r_icmp_ne (tgt := 56) dX6_takesPlace_37 (by decide) (fun c37 => ?_) (fun c37 => ?_)
    · refine r_aload0 dX6_takesPlace_56 ?_
      refine r_getf dX6_takesPlace_57 f_X6_170 (hT.ob) rfl ?_
      refine r_iconst (v := 3) dX6_takesPlace_60 (by decide) ?_
      refine r_icmp_ne (tgt := 68) dX6_takesPlace_61 (by decide) (fun c61 => ?_) (fun c61 => ?_)
      · have e61 : ¬ D = 3 := by
          have q := tp_eq (show D < 2 ^ 31 by omega) (show 3 < 2 ^ 31 by omega)
          first | exact q.mp c61 | exact fun z => c61 (q.mpr z)
        refine r_iconst (v := 0) dX6_takesPlace_68 (by decide) ?_
        refine r_istore3 dX6_takesPlace_69 (Nat.le_of_ble_eq_true rfl) rfl ?_
        refine r_aload0 dX6_takesPlace_70 ?_
        refine r_getf dX6_takesPlace_71 f_X6_19 (hT.ob) rfl ?_
        refine r_iconst (v := 5) dX6_takesPlace_74 (by decide) ?_
        refine r_aload0 dX6_takesPlace_75 ?_
        refine r_getf dX6_takesPlace_76 f_X6_167 (hT.ob) rfl ?_
        refine r_imul dX6_takesPlace_79 ?_
        refine r_aload0 dX6_takesPlace_80 ?_
        refine r_getf dX6_takesPlace_81 f_X6_170 (hT.ob) rfl ?_
        refine r_iadd dX6_takesPlace_84 ?_
        refine r_iload1 dX6_takesPlace_85 ?_
        refine r_bipush (v := 48) dX6_takesPlace_86 (by decide) ?_
        refine r_isub dX6_takesPlace_88 ?_
        refine mm_st_pa dX6_takesPlace_89 hT (i := 5 * R + D) (by rw [show (5 : Int32) = nI 5 from rfl, tp_mul, tp_add]) (by omega) (fun h1 hT => ?_)
        refine r_aload0 dX6_takesPlace_90 ?_
        refine r_iload3 dX6_takesPlace_91 ?_
        refine r_if_eq (tgt := 99) dX6_takesPlace_92 (by decide) (fun c92 => ?_) (fun c92 => ?_)
        · have e92 : p_du (pa (5 * R)) D = D + 1 := by
            first | exact absurd c92 (by decide) | exact absurd rfl c92 | (unfold p_du; first | (rw [if_pos c15, if_neg e23]; done) | (rw [if_neg c15, if_pos c37, if_neg e45]; done) | (rw [if_neg c15, if_neg c37, if_neg e61]; done))
          refine r_aload0 dX6_takesPlace_99 ?_
          refine r_getf dX6_takesPlace_100 f_X6_170 (hT.ob) rfl ?_
          refine r_iconst (v := 1) dX6_takesPlace_103 (by decide) ?_
          refine r_iadd dX6_takesPlace_104 ?_
          refine mm_put_du dX6_takesPlace_105 rfl hT (fun h1 hT => ?_)
          refine r_iload1 dX6_takesPlace_108 ?_
          refine r_bipush (v := 48) dX6_takesPlace_109 (by decide) ?_
          refine r_bipush (v := 51) dX6_takesPlace_111 (by decide) ?_
          refine r_pS dX6_takesPlace_113 v_X6_29 (M_within hl) rfl rfl rfl (Nat.le_of_ble_eq_true rfl) ⟨(Nat.le_of_ble_eq_true rfl), (Nat.le_of_ble_eq_true rfl)⟩ ⟨(Nat.le_of_ble_eq_true rfl), (Nat.le_of_ble_eq_true rfl)⟩ ?_
          exact r_zret dX6_takesPlace_116 rfl ⟨(Nat.le_of_ble_eq_true rfl), (Nat.le_of_ble_eq_true rfl)⟩ tp_b_z ⟨rfl, hT.cdu (by rw [e92]; first | rfl | exact tp_1 D)⟩
        · have e92 : p_du (pa (5 * R)) D = 4 := by
            first | exact absurd c92 (by decide) | exact absurd rfl c92 | (unfold p_du; first | (rw [if_pos c15, if_pos e23]; done) | (rw [if_neg c15, if_pos c37, if_pos e45]; done) | (rw [if_neg c15, if_neg c37, if_pos e61]; done))
          refine r_iconst (v := 4) dX6_takesPlace_95 (by decide) ?_
          refine r_goto (tgt := 105) dX6_takesPlace_96 (by decide) ?_
          refine mm_put_du dX6_takesPlace_105 rfl hT (fun h1 hT => ?_)
          refine r_iload1 dX6_takesPlace_108 ?_
          refine r_bipush (v := 48) dX6_takesPlace_109 (by decide) ?_
          refine r_bipush (v := 51) dX6_takesPlace_111 (by decide) ?_
          refine r_pS dX6_takesPlace_113 v_X6_29 (M_within hl) rfl rfl rfl (Nat.le_of_ble_eq_true rfl) ⟨(Nat.le_of_ble_eq_true rfl), (Nat.le_of_ble_eq_true rfl)⟩ ⟨(Nat.le_of_ble_eq_true rfl), (Nat.le_of_ble_eq_true rfl)⟩ ?_
          exact r_zret dX6_takesPlace_116 rfl ⟨(Nat.le_of_ble_eq_true rfl), (Nat.le_of_ble_eq_true rfl)⟩ tp_b_z ⟨rfl, hT.cdu (by rw [e92]; first | rfl | exact tp_1 D)⟩
      · have e61 : D = 3 := by
          have q := tp_eq (show D < 2 ^ 31 by omega) (show 3 < 2 ^ 31 by omega)
          first | exact q.mp c61 | exact fun z => c61 (q.mpr z)
        refine r_iconst (v := 1) dX6_takesPlace_64 (by decide) ?_
        refine r_goto (tgt := 69) dX6_takesPlace_65 (by decide) ?_
        refine r_istore3 dX6_takesPlace_69 (Nat.le_of_ble_eq_true rfl) rfl ?_
        refine r_aload0 dX6_takesPlace_70 ?_
        refine r_getf dX6_takesPlace_71 f_X6_19 (hT.ob) rfl ?_
        refine r_iconst (v := 5) dX6_takesPlace_74 (by decide) ?_
        refine r_aload0 dX6_takesPlace_75 ?_
        refine r_getf dX6_takesPlace_76 f_X6_167 (hT.ob) rfl ?_
        refine r_imul dX6_takesPlace_79 ?_
        refine r_aload0 dX6_takesPlace_80 ?_
        refine r_getf dX6_takesPlace_81 f_X6_170 (hT.ob) rfl ?_
        refine r_iadd dX6_takesPlace_84 ?_
        refine r_iload1 dX6_takesPlace_85 ?_
        refine r_bipush (v := 48) dX6_takesPlace_86 (by decide) ?_
        refine r_isub dX6_takesPlace_88 ?_
        refine mm_st_pa dX6_takesPlace_89 hT (i := 5 * R + D) (by rw [show (5 : Int32) = nI 5 from rfl, tp_mul, tp_add]) (by omega) (fun h1 hT => ?_)
        refine r_aload0 dX6_takesPlace_90 ?_
        refine r_iload3 dX6_takesPlace_91 ?_
        refine r_if_eq (tgt := 99) dX6_takesPlace_92 (by decide) (fun c92 => ?_) (fun c92 => ?_)
        · have e92 : p_du (pa (5 * R)) D = D + 1 := by
            first | exact absurd c92 (by decide) | exact absurd rfl c92 | (unfold p_du; first | (rw [if_pos c15, if_neg e23]; done) | (rw [if_neg c15, if_pos c37, if_neg e45]; done) | (rw [if_neg c15, if_neg c37, if_neg e61]; done))
          refine r_aload0 dX6_takesPlace_99 ?_
          refine r_getf dX6_takesPlace_100 f_X6_170 (hT.ob) rfl ?_
          refine r_iconst (v := 1) dX6_takesPlace_103 (by decide) ?_
          refine r_iadd dX6_takesPlace_104 ?_
          refine mm_put_du dX6_takesPlace_105 rfl hT (fun h1 hT => ?_)
          refine r_iload1 dX6_takesPlace_108 ?_
          refine r_bipush (v := 48) dX6_takesPlace_109 (by decide) ?_
          refine r_bipush (v := 51) dX6_takesPlace_111 (by decide) ?_
          refine r_pS dX6_takesPlace_113 v_X6_29 (M_within hl) rfl rfl rfl (Nat.le_of_ble_eq_true rfl) ⟨(Nat.le_of_ble_eq_true rfl), (Nat.le_of_ble_eq_true rfl)⟩ ⟨(Nat.le_of_ble_eq_true rfl), (Nat.le_of_ble_eq_true rfl)⟩ ?_
          exact r_zret dX6_takesPlace_116 rfl ⟨(Nat.le_of_ble_eq_true rfl), (Nat.le_of_ble_eq_true rfl)⟩ tp_b_z ⟨rfl, hT.cdu (by rw [e92]; first | rfl | exact tp_1 D)⟩
        · have e92 : p_du (pa (5 * R)) D = 4 := by
            first | exact absurd c92 (by decide) | exact absurd rfl c92 | (unfold p_du; first | (rw [if_pos c15, if_pos e23]; done) | (rw [if_neg c15, if_pos c37, if_pos e45]; done) | (rw [if_neg c15, if_neg c37, if_pos e61]; done))
          refine r_iconst (v := 4) dX6_takesPlace_95 (by decide) ?_
          refine r_goto (tgt := 105) dX6_takesPlace_96 (by decide) ?_
          refine mm_put_du dX6_takesPlace_105 rfl hT (fun h1 hT => ?_)
          refine r_iload1 dX6_takesPlace_108 ?_
          refine r_bipush (v := 48) dX6_takesPlace_109 (by decide) ?_
          refine r_bipush (v := 51) dX6_takesPlace_111 (by decide) ?_
          refine r_pS dX6_takesPlace_113 v_X6_29 (M_within hl) rfl rfl rfl (Nat.le_of_ble_eq_true rfl) ⟨(Nat.le_of_ble_eq_true rfl), (Nat.le_of_ble_eq_true rfl)⟩ ⟨(Nat.le_of_ble_eq_true rfl), (Nat.le_of_ble_eq_true rfl)⟩ ?_
          exact r_zret dX6_takesPlace_116 rfl ⟨(Nat.le_of_ble_eq_true rfl), (Nat.le_of_ble_eq_true rfl)⟩ tp_b_z ⟨rfl, hT.cdu (by rw [e92]; first | rfl | exact tp_1 D)⟩
    · refine r_aload0 dX6_takesPlace_40 ?_
      refine r_getf dX6_takesPlace_41 f_X6_170 (hT.ob) rfl ?_
      refine r_iconst (v := 2) dX6_takesPlace_44 (by decide) ?_
      refine r_icmp_ne (tgt := 52) dX6_takesPlace_45 (by decide) (fun c45 => ?_) (fun c45 => ?_)
      · have e45 : ¬ D = 2 := by
          have q := tp_eq (show D < 2 ^ 31 by omega) (show 2 < 2 ^ 31 by omega)
          first | exact q.mp c45 | exact fun z => c45 (q.mpr z)
        refine r_iconst (v := 0) dX6_takesPlace_52 (by decide) ?_
        refine r_goto (tgt := 69) dX6_takesPlace_53 (by decide) ?_
        refine r_istore3 dX6_takesPlace_69 (Nat.le_of_ble_eq_true rfl) rfl ?_
        refine r_aload0 dX6_takesPlace_70 ?_
        refine r_getf dX6_takesPlace_71 f_X6_19 (hT.ob) rfl ?_
        refine r_iconst (v := 5) dX6_takesPlace_74 (by decide) ?_
        refine r_aload0 dX6_takesPlace_75 ?_
        refine r_getf dX6_takesPlace_76 f_X6_167 (hT.ob) rfl ?_
        refine r_imul dX6_takesPlace_79 ?_
        refine r_aload0 dX6_takesPlace_80 ?_
        refine r_getf dX6_takesPlace_81 f_X6_170 (hT.ob) rfl ?_
        refine r_iadd dX6_takesPlace_84 ?_
        refine r_iload1 dX6_takesPlace_85 ?_
        refine r_bipush (v := 48) dX6_takesPlace_86 (by decide) ?_
        refine r_isub dX6_takesPlace_88 ?_
        refine mm_st_pa dX6_takesPlace_89 hT (i := 5 * R + D) (by rw [show (5 : Int32) = nI 5 from rfl, tp_mul, tp_add]) (by omega) (fun h1 hT => ?_)
        refine r_aload0 dX6_takesPlace_90 ?_
        refine r_iload3 dX6_takesPlace_91 ?_
        refine r_if_eq (tgt := 99) dX6_takesPlace_92 (by decide) (fun c92 => ?_) (fun c92 => ?_)
        · have e92 : p_du (pa (5 * R)) D = D + 1 := by
            first | exact absurd c92 (by decide) | exact absurd rfl c92 | (unfold p_du; first | (rw [if_pos c15, if_neg e23]; done) | (rw [if_neg c15, if_pos c37, if_neg e45]; done) | (rw [if_neg c15, if_neg c37, if_neg e61]; done))
          refine r_aload0 dX6_takesPlace_99 ?_
          refine r_getf dX6_takesPlace_100 f_X6_170 (hT.ob) rfl ?_
          refine r_iconst (v := 1) dX6_takesPlace_103 (by decide) ?_
          refine r_iadd dX6_takesPlace_104 ?_
          refine mm_put_du dX6_takesPlace_105 rfl hT (fun h1 hT => ?_)
          refine r_iload1 dX6_takesPlace_108 ?_
          refine r_bipush (v := 48) dX6_takesPlace_109 (by decide) ?_
          refine r_bipush (v := 51) dX6_takesPlace_111 (by decide) ?_
          refine r_pS dX6_takesPlace_113 v_X6_29 (M_within hl) rfl rfl rfl (Nat.le_of_ble_eq_true rfl) ⟨(Nat.le_of_ble_eq_true rfl), (Nat.le_of_ble_eq_true rfl)⟩ ⟨(Nat.le_of_ble_eq_true rfl), (Nat.le_of_ble_eq_true rfl)⟩ ?_
          exact r_zret dX6_takesPlace_116 rfl ⟨(Nat.le_of_ble_eq_true rfl), (Nat.le_of_ble_eq_true rfl)⟩ tp_b_z ⟨rfl, hT.cdu (by rw [e92]; first | rfl | exact tp_1 D)⟩
        · have e92 : p_du (pa (5 * R)) D = 4 := by
            first | exact absurd c92 (by decide) | exact absurd rfl c92 | (unfold p_du; first | (rw [if_pos c15, if_pos e23]; done) | (rw [if_neg c15, if_pos c37, if_pos e45]; done) | (rw [if_neg c15, if_neg c37, if_pos e61]; done))
          refine r_iconst (v := 4) dX6_takesPlace_95 (by decide) ?_
          refine r_goto (tgt := 105) dX6_takesPlace_96 (by decide) ?_
          refine mm_put_du dX6_takesPlace_105 rfl hT (fun h1 hT => ?_)
          refine r_iload1 dX6_takesPlace_108 ?_
          refine r_bipush (v := 48) dX6_takesPlace_109 (by decide) ?_
          refine r_bipush (v := 51) dX6_takesPlace_111 (by decide) ?_
          refine r_pS dX6_takesPlace_113 v_X6_29 (M_within hl) rfl rfl rfl (Nat.le_of_ble_eq_true rfl) ⟨(Nat.le_of_ble_eq_true rfl), (Nat.le_of_ble_eq_true rfl)⟩ ⟨(Nat.le_of_ble_eq_true rfl), (Nat.le_of_ble_eq_true rfl)⟩ ?_
          exact r_zret dX6_takesPlace_116 rfl ⟨(Nat.le_of_ble_eq_true rfl), (Nat.le_of_ble_eq_true rfl)⟩ tp_b_z ⟨rfl, hT.cdu (by rw [e92]; first | rfl | exact tp_1 D)⟩
      · have e45 : D = 2 := by
          have q := tp_eq (show D < 2 ^ 31 by omega) (show 2 < 2 ^ 31 by omega)
          first | exact q.mp c45 | exact fun z => c45 (q.mpr z)
        refine r_iconst (v := 1) dX6_takesPlace_48 (by decide) ?_
        refine r_goto (tgt := 69) dX6_takesPlace_49 (by decide) ?_
        refine r_istore3 dX6_takesPlace_69 (Nat.le_of_ble_eq_true rfl) rfl ?_
        refine r_aload0 dX6_takesPlace_70 ?_
        refine r_getf dX6_takesPlace_71 f_X6_19 (hT.ob) rfl ?_
        refine r_iconst (v := 5) dX6_takesPlace_74 (by decide) ?_
        refine r_aload0 dX6_takesPlace_75 ?_
        refine r_getf dX6_takesPlace_76 f_X6_167 (hT.ob) rfl ?_
        refine r_imul dX6_takesPlace_79 ?_
        refine r_aload0 dX6_takesPlace_80 ?_
        refine r_getf dX6_takesPlace_81 f_X6_170 (hT.ob) rfl ?_
        refine r_iadd dX6_takesPlace_84 ?_
        refine r_iload1 dX6_takesPlace_85 ?_
        refine r_bipush (v := 48) dX6_takesPlace_86 (by decide) ?_
        refine r_isub dX6_takesPlace_88 ?_
        refine mm_st_pa dX6_takesPlace_89 hT (i := 5 * R + D) (by rw [show (5 : Int32) = nI 5 from rfl, tp_mul, tp_add]) (by omega) (fun h1 hT => ?_)
        refine r_aload0 dX6_takesPlace_90 ?_
        refine r_iload3 dX6_takesPlace_91 ?_
        refine r_if_eq (tgt := 99) dX6_takesPlace_92 (by decide) (fun c92 => ?_) (fun c92 => ?_)
        · have e92 : p_du (pa (5 * R)) D = D + 1 := by
            first | exact absurd c92 (by decide) | exact absurd rfl c92 | (unfold p_du; first | (rw [if_pos c15, if_neg e23]; done) | (rw [if_neg c15, if_pos c37, if_neg e45]; done) | (rw [if_neg c15, if_neg c37, if_neg e61]; done))
          refine r_aload0 dX6_takesPlace_99 ?_
          refine r_getf dX6_takesPlace_100 f_X6_170 (hT.ob) rfl ?_
          refine r_iconst (v := 1) dX6_takesPlace_103 (by decide) ?_
          refine r_iadd dX6_takesPlace_104 ?_
          refine mm_put_du dX6_takesPlace_105 rfl hT (fun h1 hT => ?_)
          refine r_iload1 dX6_takesPlace_108 ?_
          refine r_bipush (v := 48) dX6_takesPlace_109 (by decide) ?_
          refine r_bipush (v := 51) dX6_takesPlace_111 (by decide) ?_
          refine r_pS dX6_takesPlace_113 v_X6_29 (M_within hl) rfl rfl rfl (Nat.le_of_ble_eq_true rfl) ⟨(Nat.le_of_ble_eq_true rfl), (Nat.le_of_ble_eq_true rfl)⟩ ⟨(Nat.le_of_ble_eq_true rfl), (Nat.le_of_ble_eq_true rfl)⟩ ?_
          exact r_zret dX6_takesPlace_116 rfl ⟨(Nat.le_of_ble_eq_true rfl), (Nat.le_of_ble_eq_true rfl)⟩ tp_b_z ⟨rfl, hT.cdu (by rw [e92]; first | rfl | exact tp_1 D)⟩
        · have e92 : p_du (pa (5 * R)) D = 4 := by
            first | exact absurd c92 (by decide) | exact absurd rfl c92 | (unfold p_du; first | (rw [if_pos c15, if_pos e23]; done) | (rw [if_neg c15, if_pos c37, if_pos e45]; done) | (rw [if_neg c15, if_neg c37, if_pos e61]; done))
          refine r_iconst (v := 4) dX6_takesPlace_95 (by decide) ?_
          refine r_goto (tgt := 105) dX6_takesPlace_96 (by decide) ?_
          refine mm_put_du dX6_takesPlace_105 rfl hT (fun h1 hT => ?_)
          refine r_iload1 dX6_takesPlace_108 ?_
          refine r_bipush (v := 48) dX6_takesPlace_109 (by decide) ?_
          refine r_bipush (v := 51) dX6_takesPlace_111 (by decide) ?_
          refine r_pS dX6_takesPlace_113 v_X6_29 (M_within hl) rfl rfl rfl (Nat.le_of_ble_eq_true rfl) ⟨(Nat.le_of_ble_eq_true rfl), (Nat.le_of_ble_eq_true rfl)⟩ ⟨(Nat.le_of_ble_eq_true rfl), (Nat.le_of_ble_eq_true rfl)⟩ ?_
          exact r_zret dX6_takesPlace_116 rfl ⟨(Nat.le_of_ble_eq_true rfl), (Nat.le_of_ble_eq_true rfl)⟩ tp_b_z ⟨rfl, hT.cdu (by rw [e92]; first | rfl | exact tp_1 D)⟩
  · refine r_aload0 dX6_takesPlace_18 ?_
    refine r_getf dX6_takesPlace_19 f_X6_170 (hT.ob) rfl ?_
    refine r_iconst (v := 1) dX6_takesPlace_22 (by decide) ?_
    refine r_icmp_ne (tgt := 30) dX6_takesPlace_23 (by decide) (fun c23 => ?_) (fun c23 => ?_)
    · have e23 : ¬ D = 1 := by
        have q := tp_eq (show D < 2 ^ 31 by omega) (show 1 < 2 ^ 31 by omega)
        first | exact q.mp c23 | exact fun z => c23 (q.mpr z)
      refine r_iconst (v := 0) dX6_takesPlace_30 (by decide) ?_
      refine r_goto (tgt := 69) dX6_takesPlace_31 (by decide) ?_
      refine r_istore3 dX6_takesPlace_69 (Nat.le_of_ble_eq_true rfl) rfl ?_
      refine r_aload0 dX6_takesPlace_70 ?_
      refine r_getf dX6_takesPlace_71 f_X6_19 (hT.ob) rfl ?_
      refine r_iconst (v := 5) dX6_takesPlace_74 (by decide) ?_
      refine r_aload0 dX6_takesPlace_75 ?_
      refine r_getf dX6_takesPlace_76 f_X6_167 (hT.ob) rfl ?_
      refine r_imul dX6_takesPlace_79 ?_
      refine r_aload0 dX6_takesPlace_80 ?_
      refine r_getf dX6_takesPlace_81 f_X6_170 (hT.ob) rfl ?_
      refine r_iadd dX6_takesPlace_84 ?_
      refine r_iload1 dX6_takesPlace_85 ?_
      refine r_bipush (v := 48) dX6_takesPlace_86 (by decide) ?_
      refine r_isub dX6_takesPlace_88 ?_
      refine mm_st_pa dX6_takesPlace_89 hT (i := 5 * R + D) (by rw [show (5 : Int32) = nI 5 from rfl, tp_mul, tp_add]) (by omega) (fun h1 hT => ?_)
      refine r_aload0 dX6_takesPlace_90 ?_
      refine r_iload3 dX6_takesPlace_91 ?_
      refine r_if_eq (tgt := 99) dX6_takesPlace_92 (by decide) (fun c92 => ?_) (fun c92 => ?_)
      · have e92 : p_du (pa (5 * R)) D = D + 1 := by
          first | exact absurd c92 (by decide) | exact absurd rfl c92 | (unfold p_du; first | (rw [if_pos c15, if_neg e23]; done) | (rw [if_neg c15, if_pos c37, if_neg e45]; done) | (rw [if_neg c15, if_neg c37, if_neg e61]; done))
        refine r_aload0 dX6_takesPlace_99 ?_
        refine r_getf dX6_takesPlace_100 f_X6_170 (hT.ob) rfl ?_
        refine r_iconst (v := 1) dX6_takesPlace_103 (by decide) ?_
        refine r_iadd dX6_takesPlace_104 ?_
        refine mm_put_du dX6_takesPlace_105 rfl hT (fun h1 hT => ?_)
        refine r_iload1 dX6_takesPlace_108 ?_
        refine r_bipush (v := 48) dX6_takesPlace_109 (by decide) ?_
        refine r_bipush (v := 51) dX6_takesPlace_111 (by decide) ?_
        refine r_pS dX6_takesPlace_113 v_X6_29 (M_within hl) rfl rfl rfl (Nat.le_of_ble_eq_true rfl) ⟨(Nat.le_of_ble_eq_true rfl), (Nat.le_of_ble_eq_true rfl)⟩ ⟨(Nat.le_of_ble_eq_true rfl), (Nat.le_of_ble_eq_true rfl)⟩ ?_
        exact r_zret dX6_takesPlace_116 rfl ⟨(Nat.le_of_ble_eq_true rfl), (Nat.le_of_ble_eq_true rfl)⟩ tp_b_z ⟨rfl, hT.cdu (by rw [e92]; first | rfl | exact tp_1 D)⟩
      · have e92 : p_du (pa (5 * R)) D = 4 := by
          first | exact absurd c92 (by decide) | exact absurd rfl c92 | (unfold p_du; first | (rw [if_pos c15, if_pos e23]; done) | (rw [if_neg c15, if_pos c37, if_pos e45]; done) | (rw [if_neg c15, if_neg c37, if_pos e61]; done))
        refine r_iconst (v := 4) dX6_takesPlace_95 (by decide) ?_
        refine r_goto (tgt := 105) dX6_takesPlace_96 (by decide) ?_
        refine mm_put_du dX6_takesPlace_105 rfl hT (fun h1 hT => ?_)
        refine r_iload1 dX6_takesPlace_108 ?_
        refine r_bipush (v := 48) dX6_takesPlace_109 (by decide) ?_
        refine r_bipush (v := 51) dX6_takesPlace_111 (by decide) ?_
        refine r_pS dX6_takesPlace_113 v_X6_29 (M_within hl) rfl rfl rfl (Nat.le_of_ble_eq_true rfl) ⟨(Nat.le_of_ble_eq_true rfl), (Nat.le_of_ble_eq_true rfl)⟩ ⟨(Nat.le_of_ble_eq_true rfl), (Nat.le_of_ble_eq_true rfl)⟩ ?_
        exact r_zret dX6_takesPlace_116 rfl ⟨(Nat.le_of_ble_eq_true rfl), (Nat.le_of_ble_eq_true rfl)⟩ tp_b_z ⟨rfl, hT.cdu (by rw [e92]; first | rfl | exact tp_1 D)⟩
    · have e23 : D = 1 := by
        have q := tp_eq (show D < 2 ^ 31 by omega) (show 1 < 2 ^ 31 by omega)
        first | exact q.mp c23 | exact fun z => c23 (q.mpr z)
      refine r_iconst (v := 1) dX6_takesPlace_26 (by decide) ?_
      refine r_goto (tgt := 69) dX6_takesPlace_27 (by decide) ?_
      refine r_istore3 dX6_takesPlace_69 (Nat.le_of_ble_eq_true rfl) rfl ?_
      refine r_aload0 dX6_takesPlace_70 ?_
      refine r_getf dX6_takesPlace_71 f_X6_19 (hT.ob) rfl ?_
      refine r_iconst (v := 5) dX6_takesPlace_74 (by decide) ?_
      refine r_aload0 dX6_takesPlace_75 ?_
      refine r_getf dX6_takesPlace_76 f_X6_167 (hT.ob) rfl ?_
      refine r_imul dX6_takesPlace_79 ?_
      refine r_aload0 dX6_takesPlace_80 ?_
      refine r_getf dX6_takesPlace_81 f_X6_170 (hT.ob) rfl ?_
      refine r_iadd dX6_takesPlace_84 ?_
      refine r_iload1 dX6_takesPlace_85 ?_
      refine r_bipush (v := 48) dX6_takesPlace_86 (by decide) ?_
      refine r_isub dX6_takesPlace_88 ?_
      refine mm_st_pa dX6_takesPlace_89 hT (i := 5 * R + D) (by rw [show (5 : Int32) = nI 5 from rfl, tp_mul, tp_add]) (by omega) (fun h1 hT => ?_)
      refine r_aload0 dX6_takesPlace_90 ?_
      refine r_iload3 dX6_takesPlace_91 ?_
      refine r_if_eq (tgt := 99) dX6_takesPlace_92 (by decide) (fun c92 => ?_) (fun c92 => ?_)
      · have e92 : p_du (pa (5 * R)) D = D + 1 := by
          first | exact absurd c92 (by decide) | exact absurd rfl c92 | (unfold p_du; first | (rw [if_pos c15, if_neg e23]; done) | (rw [if_neg c15, if_pos c37, if_neg e45]; done) | (rw [if_neg c15, if_neg c37, if_neg e61]; done))
        refine r_aload0 dX6_takesPlace_99 ?_
        refine r_getf dX6_takesPlace_100 f_X6_170 (hT.ob) rfl ?_
        refine r_iconst (v := 1) dX6_takesPlace_103 (by decide) ?_
        refine r_iadd dX6_takesPlace_104 ?_
        refine mm_put_du dX6_takesPlace_105 rfl hT (fun h1 hT => ?_)
        refine r_iload1 dX6_takesPlace_108 ?_
        refine r_bipush (v := 48) dX6_takesPlace_109 (by decide) ?_
        refine r_bipush (v := 51) dX6_takesPlace_111 (by decide) ?_
        refine r_pS dX6_takesPlace_113 v_X6_29 (M_within hl) rfl rfl rfl (Nat.le_of_ble_eq_true rfl) ⟨(Nat.le_of_ble_eq_true rfl), (Nat.le_of_ble_eq_true rfl)⟩ ⟨(Nat.le_of_ble_eq_true rfl), (Nat.le_of_ble_eq_true rfl)⟩ ?_
        exact r_zret dX6_takesPlace_116 rfl ⟨(Nat.le_of_ble_eq_true rfl), (Nat.le_of_ble_eq_true rfl)⟩ tp_b_z ⟨rfl, hT.cdu (by rw [e92]; first | rfl | exact tp_1 D)⟩
      · have e92 : p_du (pa (5 * R)) D = 4 := by
          first | exact absurd c92 (by decide) | exact absurd rfl c92 | (unfold p_du; first | (rw [if_pos c15, if_pos e23]; done) | (rw [if_neg c15, if_pos c37, if_pos e45]; done) | (rw [if_neg c15, if_neg c37, if_pos e61]; done))
        refine r_iconst (v := 4) dX6_takesPlace_95 (by decide) ?_
        refine r_goto (tgt := 105) dX6_takesPlace_96 (by decide) ?_
        refine mm_put_du dX6_takesPlace_105 rfl hT (fun h1 hT => ?_)
        refine r_iload1 dX6_takesPlace_108 ?_
        refine r_bipush (v := 48) dX6_takesPlace_109 (by decide) ?_
        refine r_bipush (v := 51) dX6_takesPlace_111 (by decide) ?_
        refine r_pS dX6_takesPlace_113 v_X6_29 (M_within hl) rfl rfl rfl (Nat.le_of_ble_eq_true rfl) ⟨(Nat.le_of_ble_eq_true rfl), (Nat.le_of_ble_eq_true rfl)⟩ ⟨(Nat.le_of_ble_eq_true rfl), (Nat.le_of_ble_eq_true rfl)⟩ ?_
        exact r_zret dX6_takesPlace_116 rfl ⟨(Nat.le_of_ble_eq_true rfl), (Nat.le_of_ble_eq_true rfl)⟩ tp_b_z ⟨rfl, hT.cdu (by rw [e92]; first | rfl | exact tp_1 D)⟩

def p_nu (nu g : Int32) : Int32 := if (0 ≤ g ∧ g ≤ 9) ∧ (1 ≤ p_v nu g ∧ p_v nu g ≤ 99999) then p_v nu g else nu
set_option maxRecDepth 100000 in
set_option maxHeartbeats 4000000 in
theorem M_takesDigit {l : Launch} {G : tp_G} {y : Nat} {h0 h : tp_H} {z hi tx pa : Nat → Int32} {st len thr nu : Int32} {R D : Nat} {hs : Int64} (hl : l.stackTraces = false) (hT0 : mm_S G y h0 z hi tx pa st len thr (nI R) nu (nI D) hs h) (hR : R ≤ 11) {g : Int32} : tp_Met l G mX6_takesDigit 0 0 [.ref y, .int g] h (tp_PS (some (.int (tp_b ((0 ≤ g ∧ g ≤ 9) ∧ (1 ≤ p_v nu g ∧ p_v nu g ≤ 99999))))) (fun h1 => mm_S G y h z hi tx (va_up pa (5 * R + 4) (p_nu nu g)) st len thr (nI R) (p_nu nu g) (nI D) hs h1)) tp_NX := by
  have hT := hT0.self
  refine tp_start (L0 := [some (.ref y), some (.int g), none, none]) (by decide) rfl hl (Nat.le_of_ble_eq_true rfl) rfl ?_
  refine r_aload0 dX6_takesDigit_0 ?_
  refine r_getf dX6_takesDigit_1 f_X6_173 (hT.ob) rfl ?_
  refine r_iconst (v := (-1)) dX6_takesDigit_4 (by decide) ?_
  refine r_icmp_ne (tgt := 12) dX6_takesDigit_5 (by decide) (fun c5 => ?_) (fun c5 => ?_)
  · have e5 : 10 * nu + g = p_v nu g := (if_neg c5).symm
    refine r_bipush (v := 10) dX6_takesDigit_12 (by decide) ?_
    refine r_aload0 dX6_takesDigit_14 ?_
    refine r_getf dX6_takesDigit_15 f_X6_173 (hT.ob) rfl ?_
    refine r_imul dX6_takesDigit_18 ?_
    refine r_iload1 dX6_takesDigit_19 ?_
    refine r_iadd dX6_takesDigit_20 ?_
    refine r_istore2 dX6_takesDigit_21 (Nat.le_of_ble_eq_true rfl) rfl ?_
    refine r_iload1 dX6_takesDigit_22 ?_
    refine r_iconst (v := 0) dX6_takesDigit_23 (by decide) ?_
    refine r_bipush (v := 9) dX6_takesDigit_24 (by decide) ?_
    refine r_pS dX6_takesDigit_26 v_X6_29 (M_within hl) rfl rfl rfl (Nat.le_of_ble_eq_true rfl) ⟨(Nat.le_of_ble_eq_true rfl), (Nat.le_of_ble_eq_true rfl)⟩ ⟨(Nat.le_of_ble_eq_true rfl), (Nat.le_of_ble_eq_true rfl)⟩ ?_
    refine r_if_eq (tgt := 43) dX6_takesDigit_29 (by decide) (fun c29 => ?_) (fun c29 => ?_)
    · refine r_iconst (v := 0) dX6_takesDigit_43 (by decide) ?_
      refine r_istore3 dX6_takesDigit_44 (Nat.le_of_ble_eq_true rfl) rfl ?_
      refine r_aload0 dX6_takesDigit_45 ?_
      refine r_iload3 dX6_takesDigit_46 ?_
      refine r_if_eq (tgt := 54) dX6_takesDigit_47 (by decide) (fun c47 => ?_) (fun c47 => ?_)
      · have e47 : ¬ ((0 ≤ g ∧ g ≤ 9) ∧ (1 ≤ p_v nu g ∧ p_v nu g ≤ 99999)) := by
          first | exact absurd c47 (by decide) | exact absurd rfl c47 | exact fun q => tp_b_0.mp c29 q.1 | exact fun q => tp_b_0.mp c36 (by rw [e5]; exact q.2)
        refine r_aload0 dX6_takesDigit_54 ?_
        refine r_getf dX6_takesDigit_55 f_X6_173 (hT.ob) rfl ?_
        refine mm_put_nu dX6_takesDigit_58 rfl hT (fun h1 hT => ?_)
        have hT := hT.cnu (x := p_nu nu g) (by unfold p_nu; first | (rw [if_pos e47]; exact e5) | exact (if_neg e47).symm)
        refine r_aload0 dX6_takesDigit_61 ?_
        refine r_getf dX6_takesDigit_62 f_X6_19 (hT.ob) rfl ?_
        refine r_iconst (v := 5) dX6_takesDigit_65 (by decide) ?_
        refine r_aload0 dX6_takesDigit_66 ?_
        refine r_getf dX6_takesDigit_67 f_X6_167 (hT.ob) rfl ?_
        refine r_imul dX6_takesDigit_70 ?_
        refine r_iconst (v := 4) dX6_takesDigit_71 (by decide) ?_
        refine r_iadd dX6_takesDigit_72 ?_
        refine r_aload0 dX6_takesDigit_73 ?_
        refine r_getf dX6_takesDigit_74 f_X6_173 (hT.ob) rfl ?_
        refine mm_st_pa dX6_takesDigit_77 hT (i := 5 * R + 4) (by rw [show (5 : Int32) = nI 5 from rfl, tp_mul]; exact tp_add (5 * R) 4) (by omega) (fun h1 hT => ?_)
        refine r_iload3 dX6_takesDigit_78 ?_
        exact r_zret dX6_takesDigit_79 rfl ⟨(Nat.le_of_ble_eq_true rfl), (Nat.le_of_ble_eq_true rfl)⟩ (by first | rfl | decide) (by first | exact absurd c47 (by decide) | exact absurd rfl c47 | exact ⟨by rw [tp_b_t e47], hT⟩ | exact ⟨by rw [tp_b_f e47], hT⟩)
      · have e47 : ((0 ≤ g ∧ g ≤ 9) ∧ (1 ≤ p_v nu g ∧ p_v nu g ≤ 99999)) := by
          first | exact absurd c47 (by decide) | exact absurd rfl c47 | exact ⟨tp_b_n c29, by rw [← e5]; exact tp_b_n c36⟩
        refine r_iload2 dX6_takesDigit_50 ?_
        refine r_goto (tgt := 58) dX6_takesDigit_51 (by decide) ?_
        refine mm_put_nu dX6_takesDigit_58 rfl hT (fun h1 hT => ?_)
        have hT := hT.cnu (x := p_nu nu g) (by unfold p_nu; first | (rw [if_pos e47]; exact e5) | exact (if_neg e47).symm)
        refine r_aload0 dX6_takesDigit_61 ?_
        refine r_getf dX6_takesDigit_62 f_X6_19 (hT.ob) rfl ?_
        refine r_iconst (v := 5) dX6_takesDigit_65 (by decide) ?_
        refine r_aload0 dX6_takesDigit_66 ?_
        refine r_getf dX6_takesDigit_67 f_X6_167 (hT.ob) rfl ?_
        refine r_imul dX6_takesDigit_70 ?_
        refine r_iconst (v := 4) dX6_takesDigit_71 (by decide) ?_
        refine r_iadd dX6_takesDigit_72 ?_
        refine r_aload0 dX6_takesDigit_73 ?_
        refine r_getf dX6_takesDigit_74 f_X6_173 (hT.ob) rfl ?_
        refine mm_st_pa dX6_takesDigit_77 hT (i := 5 * R + 4) (by rw [show (5 : Int32) = nI 5 from rfl, tp_mul]; exact tp_add (5 * R) 4) (by omega) (fun h1 hT => ?_)
        refine r_iload3 dX6_takesDigit_78 ?_
        exact r_zret dX6_takesDigit_79 rfl ⟨(Nat.le_of_ble_eq_true rfl), (Nat.le_of_ble_eq_true rfl)⟩ (by first | rfl | decide) (by first | exact absurd c47 (by decide) | exact absurd rfl c47 | exact ⟨by rw [tp_b_t e47], hT⟩ | exact ⟨by rw [tp_b_f e47], hT⟩)
    · refine r_iload2 dX6_takesDigit_32 ?_
      refine r_pS dX6_takesDigit_33 v_X6_62 (M_isMoney hl) rfl rfl rfl (Nat.le_of_ble_eq_true rfl) ⟨(Nat.le_of_ble_eq_true rfl), (Nat.le_of_ble_eq_true rfl)⟩ ⟨(Nat.le_of_ble_eq_true rfl), (Nat.le_of_ble_eq_true rfl)⟩ ?_
      refine r_if_eq (tgt := 43) dX6_takesDigit_36 (by decide) (fun c36 => ?_) (fun c36 => ?_)
      · refine r_iconst (v := 0) dX6_takesDigit_43 (by decide) ?_
        refine r_istore3 dX6_takesDigit_44 (Nat.le_of_ble_eq_true rfl) rfl ?_
        refine r_aload0 dX6_takesDigit_45 ?_
        refine r_iload3 dX6_takesDigit_46 ?_
        refine r_if_eq (tgt := 54) dX6_takesDigit_47 (by decide) (fun c47 => ?_) (fun c47 => ?_)
        · have e47 : ¬ ((0 ≤ g ∧ g ≤ 9) ∧ (1 ≤ p_v nu g ∧ p_v nu g ≤ 99999)) := by
            first | exact absurd c47 (by decide) | exact absurd rfl c47 | exact fun q => tp_b_0.mp c29 q.1 | exact fun q => tp_b_0.mp c36 (by rw [e5]; exact q.2)
          refine r_aload0 dX6_takesDigit_54 ?_
          refine r_getf dX6_takesDigit_55 f_X6_173 (hT.ob) rfl ?_
          refine mm_put_nu dX6_takesDigit_58 rfl hT (fun h1 hT => ?_)
          have hT := hT.cnu (x := p_nu nu g) (by unfold p_nu; first | (rw [if_pos e47]; exact e5) | exact (if_neg e47).symm)
          refine r_aload0 dX6_takesDigit_61 ?_
          refine r_getf dX6_takesDigit_62 f_X6_19 (hT.ob) rfl ?_
          refine r_iconst (v := 5) dX6_takesDigit_65 (by decide) ?_
          refine r_aload0 dX6_takesDigit_66 ?_
          refine r_getf dX6_takesDigit_67 f_X6_167 (hT.ob) rfl ?_
          refine r_imul dX6_takesDigit_70 ?_
          refine r_iconst (v := 4) dX6_takesDigit_71 (by decide) ?_
          refine r_iadd dX6_takesDigit_72 ?_
          refine r_aload0 dX6_takesDigit_73 ?_
          refine r_getf dX6_takesDigit_74 f_X6_173 (hT.ob) rfl ?_
          refine mm_st_pa dX6_takesDigit_77 hT (i := 5 * R + 4) (by rw [show (5 : Int32) = nI 5 from rfl, tp_mul]; exact tp_add (5 * R) 4) (by omega) (fun h1 hT => ?_)
          refine r_iload3 dX6_takesDigit_78 ?_
          exact r_zret dX6_takesDigit_79 rfl ⟨(Nat.le_of_ble_eq_true rfl), (Nat.le_of_ble_eq_true rfl)⟩ (by first | rfl | decide) (by first | exact absurd c47 (by decide) | exact absurd rfl c47 | exact ⟨by rw [tp_b_t e47], hT⟩ | exact ⟨by rw [tp_b_f e47], hT⟩)
        · have e47 : ((0 ≤ g ∧ g ≤ 9) ∧ (1 ≤ p_v nu g ∧ p_v nu g ≤ 99999)) := by
            first | exact absurd c47 (by decide) | exact absurd rfl c47 | exact ⟨tp_b_n c29, by rw [← e5]; exact tp_b_n c36⟩
          refine r_iload2 dX6_takesDigit_50 ?_
          refine r_goto (tgt := 58) dX6_takesDigit_51 (by decide) ?_
          refine mm_put_nu dX6_takesDigit_58 rfl hT (fun h1 hT => ?_)
          have hT := hT.cnu (x := p_nu nu g) (by unfold p_nu; first | (rw [if_pos e47]; exact e5) | exact (if_neg e47).symm)
          refine r_aload0 dX6_takesDigit_61 ?_
          refine r_getf dX6_takesDigit_62 f_X6_19 (hT.ob) rfl ?_
          refine r_iconst (v := 5) dX6_takesDigit_65 (by decide) ?_
          refine r_aload0 dX6_takesDigit_66 ?_
          refine r_getf dX6_takesDigit_67 f_X6_167 (hT.ob) rfl ?_
          refine r_imul dX6_takesDigit_70 ?_
          refine r_iconst (v := 4) dX6_takesDigit_71 (by decide) ?_
          refine r_iadd dX6_takesDigit_72 ?_
          refine r_aload0 dX6_takesDigit_73 ?_
          refine r_getf dX6_takesDigit_74 f_X6_173 (hT.ob) rfl ?_
          refine mm_st_pa dX6_takesDigit_77 hT (i := 5 * R + 4) (by rw [show (5 : Int32) = nI 5 from rfl, tp_mul]; exact tp_add (5 * R) 4) (by omega) (fun h1 hT => ?_)
          refine r_iload3 dX6_takesDigit_78 ?_
          exact r_zret dX6_takesDigit_79 rfl ⟨(Nat.le_of_ble_eq_true rfl), (Nat.le_of_ble_eq_true rfl)⟩ (by first | rfl | decide) (by first | exact absurd c47 (by decide) | exact absurd rfl c47 | exact ⟨by rw [tp_b_t e47], hT⟩ | exact ⟨by rw [tp_b_f e47], hT⟩)
      · refine r_iconst (v := 1) dX6_takesDigit_39 (by decide) ?_
        refine r_goto (tgt := 44) dX6_takesDigit_40 (by decide) ?_
        refine r_istore3 dX6_takesDigit_44 (Nat.le_of_ble_eq_true rfl) rfl ?_
        refine r_aload0 dX6_takesDigit_45 ?_
        refine r_iload3 dX6_takesDigit_46 ?_
        refine r_if_eq (tgt := 54) dX6_takesDigit_47 (by decide) (fun c47 => ?_) (fun c47 => ?_)
        · have e47 : ¬ ((0 ≤ g ∧ g ≤ 9) ∧ (1 ≤ p_v nu g ∧ p_v nu g ≤ 99999)) := by
            first | exact absurd c47 (by decide) | exact absurd rfl c47 | exact fun q => tp_b_0.mp c29 q.1 | exact fun q => tp_b_0.mp c36 (by rw [e5]; exact q.2)
          refine r_aload0 dX6_takesDigit_54 ?_
          refine r_getf dX6_takesDigit_55 f_X6_173 (hT.ob) rfl ?_
          refine mm_put_nu dX6_takesDigit_58 rfl hT (fun h1 hT => ?_)
          have hT := hT.cnu (x := p_nu nu g) (by unfold p_nu; first | (rw [if_pos e47]; exact e5) | exact (if_neg e47).symm)
          refine r_aload0 dX6_takesDigit_61 ?_
          refine r_getf dX6_takesDigit_62 f_X6_19 (hT.ob) rfl ?_
          refine r_iconst (v := 5) dX6_takesDigit_65 (by decide) ?_
          refine r_aload0 dX6_takesDigit_66 ?_
          refine r_getf dX6_takesDigit_67 f_X6_167 (hT.ob) rfl ?_
          refine r_imul dX6_takesDigit_70 ?_
          refine r_iconst (v := 4) dX6_takesDigit_71 (by decide) ?_
          refine r_iadd dX6_takesDigit_72 ?_
          refine r_aload0 dX6_takesDigit_73 ?_
          refine r_getf dX6_takesDigit_74 f_X6_173 (hT.ob) rfl ?_
          refine mm_st_pa dX6_takesDigit_77 hT (i := 5 * R + 4) (by rw [show (5 : Int32) = nI 5 from rfl, tp_mul]; exact tp_add (5 * R) 4) (by omega) (fun h1 hT => ?_)
          refine r_iload3 dX6_takesDigit_78 ?_
          exact r_zret dX6_takesDigit_79 rfl ⟨(Nat.le_of_ble_eq_true rfl), (Nat.le_of_ble_eq_true rfl)⟩ (by first | rfl | decide) (by first | exact absurd c47 (by decide) | exact absurd rfl c47 | exact ⟨by rw [tp_b_t e47], hT⟩ | exact ⟨by rw [tp_b_f e47], hT⟩)
        · have e47 : ((0 ≤ g ∧ g ≤ 9) ∧ (1 ≤ p_v nu g ∧ p_v nu g ≤ 99999)) := by
            first | exact absurd c47 (by decide) | exact absurd rfl c47 | exact ⟨tp_b_n c29, by rw [← e5]; exact tp_b_n c36⟩
          refine r_iload2 dX6_takesDigit_50 ?_
          refine r_goto (tgt := 58) dX6_takesDigit_51 (by decide) ?_
          refine mm_put_nu dX6_takesDigit_58 rfl hT (fun h1 hT => ?_)
          have hT := hT.cnu (x := p_nu nu g) (by unfold p_nu; first | (rw [if_pos e47]; exact e5) | exact (if_neg e47).symm)
          refine r_aload0 dX6_takesDigit_61 ?_
          refine r_getf dX6_takesDigit_62 f_X6_19 (hT.ob) rfl ?_
          refine r_iconst (v := 5) dX6_takesDigit_65 (by decide) ?_
          refine r_aload0 dX6_takesDigit_66 ?_
          refine r_getf dX6_takesDigit_67 f_X6_167 (hT.ob) rfl ?_
          refine r_imul dX6_takesDigit_70 ?_
          refine r_iconst (v := 4) dX6_takesDigit_71 (by decide) ?_
          refine r_iadd dX6_takesDigit_72 ?_
          refine r_aload0 dX6_takesDigit_73 ?_
          refine r_getf dX6_takesDigit_74 f_X6_173 (hT.ob) rfl ?_
          refine mm_st_pa dX6_takesDigit_77 hT (i := 5 * R + 4) (by rw [show (5 : Int32) = nI 5 from rfl, tp_mul]; exact tp_add (5 * R) 4) (by omega) (fun h1 hT => ?_)
          refine r_iload3 dX6_takesDigit_78 ?_
          exact r_zret dX6_takesDigit_79 rfl ⟨(Nat.le_of_ble_eq_true rfl), (Nat.le_of_ble_eq_true rfl)⟩ (by first | rfl | decide) (by first | exact absurd c47 (by decide) | exact absurd rfl c47 | exact ⟨by rw [tp_b_t e47], hT⟩ | exact ⟨by rw [tp_b_f e47], hT⟩)
  · have e5 : g = p_v nu g := (if_pos c5).symm
    refine r_iload1 dX6_takesDigit_8 ?_
    refine r_goto (tgt := 21) dX6_takesDigit_9 (by decide) ?_
    refine r_istore2 dX6_takesDigit_21 (Nat.le_of_ble_eq_true rfl) rfl ?_
    refine r_iload1 dX6_takesDigit_22 ?_
    refine r_iconst (v := 0) dX6_takesDigit_23 (by decide) ?_
    refine r_bipush (v := 9) dX6_takesDigit_24 (by decide) ?_
    refine r_pS dX6_takesDigit_26 v_X6_29 (M_within hl) rfl rfl rfl (Nat.le_of_ble_eq_true rfl) ⟨(Nat.le_of_ble_eq_true rfl), (Nat.le_of_ble_eq_true rfl)⟩ ⟨(Nat.le_of_ble_eq_true rfl), (Nat.le_of_ble_eq_true rfl)⟩ ?_
    refine r_if_eq (tgt := 43) dX6_takesDigit_29 (by decide) (fun c29 => ?_) (fun c29 => ?_)
    · refine r_iconst (v := 0) dX6_takesDigit_43 (by decide) ?_
      refine r_istore3 dX6_takesDigit_44 (Nat.le_of_ble_eq_true rfl) rfl ?_
      refine r_aload0 dX6_takesDigit_45 ?_
      refine r_iload3 dX6_takesDigit_46 ?_
      refine r_if_eq (tgt := 54) dX6_takesDigit_47 (by decide) (fun c47 => ?_) (fun c47 => ?_)
      · have e47 : ¬ ((0 ≤ g ∧ g ≤ 9) ∧ (1 ≤ p_v nu g ∧ p_v nu g ≤ 99999)) := by
          first | exact absurd c47 (by decide) | exact absurd rfl c47 | exact fun q => tp_b_0.mp c29 q.1 | exact fun q => tp_b_0.mp c36 (by rw [e5]; exact q.2)
        refine r_aload0 dX6_takesDigit_54 ?_
        refine r_getf dX6_takesDigit_55 f_X6_173 (hT.ob) rfl ?_
        refine mm_put_nu dX6_takesDigit_58 rfl hT (fun h1 hT => ?_)
        have hT := hT.cnu (x := p_nu nu g) (by unfold p_nu; first | (rw [if_pos e47]; exact e5) | exact (if_neg e47).symm)
        refine r_aload0 dX6_takesDigit_61 ?_
        refine r_getf dX6_takesDigit_62 f_X6_19 (hT.ob) rfl ?_
        refine r_iconst (v := 5) dX6_takesDigit_65 (by decide) ?_
        refine r_aload0 dX6_takesDigit_66 ?_
        refine r_getf dX6_takesDigit_67 f_X6_167 (hT.ob) rfl ?_
        refine r_imul dX6_takesDigit_70 ?_
        refine r_iconst (v := 4) dX6_takesDigit_71 (by decide) ?_
        refine r_iadd dX6_takesDigit_72 ?_
        refine r_aload0 dX6_takesDigit_73 ?_
        refine r_getf dX6_takesDigit_74 f_X6_173 (hT.ob) rfl ?_
        refine mm_st_pa dX6_takesDigit_77 hT (i := 5 * R + 4) (by rw [show (5 : Int32) = nI 5 from rfl, tp_mul]; exact tp_add (5 * R) 4) (by omega) (fun h1 hT => ?_)
        refine r_iload3 dX6_takesDigit_78 ?_
        exact r_zret dX6_takesDigit_79 rfl ⟨(Nat.le_of_ble_eq_true rfl), (Nat.le_of_ble_eq_true rfl)⟩ (by first | rfl | decide) (by first | exact absurd c47 (by decide) | exact absurd rfl c47 | exact ⟨by rw [tp_b_t e47], hT⟩ | exact ⟨by rw [tp_b_f e47], hT⟩)
      · have e47 : ((0 ≤ g ∧ g ≤ 9) ∧ (1 ≤ p_v nu g ∧ p_v nu g ≤ 99999)) := by
          first | exact absurd c47 (by decide) | exact absurd rfl c47 | exact ⟨tp_b_n c29, by rw [← e5]; exact tp_b_n c36⟩
        refine r_iload2 dX6_takesDigit_50 ?_
        refine r_goto (tgt := 58) dX6_takesDigit_51 (by decide) ?_
        refine mm_put_nu dX6_takesDigit_58 rfl hT (fun h1 hT => ?_)
        have hT := hT.cnu (x := p_nu nu g) (by unfold p_nu; first | (rw [if_pos e47]; exact e5) | exact (if_neg e47).symm)
        refine r_aload0 dX6_takesDigit_61 ?_
        refine r_getf dX6_takesDigit_62 f_X6_19 (hT.ob) rfl ?_
        refine r_iconst (v := 5) dX6_takesDigit_65 (by decide) ?_
        refine r_aload0 dX6_takesDigit_66 ?_
        refine r_getf dX6_takesDigit_67 f_X6_167 (hT.ob) rfl ?_
        refine r_imul dX6_takesDigit_70 ?_
        refine r_iconst (v := 4) dX6_takesDigit_71 (by decide) ?_
        refine r_iadd dX6_takesDigit_72 ?_
        refine r_aload0 dX6_takesDigit_73 ?_
        refine r_getf dX6_takesDigit_74 f_X6_173 (hT.ob) rfl ?_
        refine mm_st_pa dX6_takesDigit_77 hT (i := 5 * R + 4) (by rw [show (5 : Int32) = nI 5 from rfl, tp_mul]; exact tp_add (5 * R) 4) (by omega) (fun h1 hT => ?_)
        refine r_iload3 dX6_takesDigit_78 ?_
        exact r_zret dX6_takesDigit_79 rfl ⟨(Nat.le_of_ble_eq_true rfl), (Nat.le_of_ble_eq_true rfl)⟩ (by first | rfl | decide) (by first | exact absurd c47 (by decide) | exact absurd rfl c47 | exact ⟨by rw [tp_b_t e47], hT⟩ | exact ⟨by rw [tp_b_f e47], hT⟩)
    · refine r_iload2 dX6_takesDigit_32 ?_
      refine r_pS dX6_takesDigit_33 v_X6_62 (M_isMoney hl) rfl rfl rfl (Nat.le_of_ble_eq_true rfl) ⟨(Nat.le_of_ble_eq_true rfl), (Nat.le_of_ble_eq_true rfl)⟩ ⟨(Nat.le_of_ble_eq_true rfl), (Nat.le_of_ble_eq_true rfl)⟩ ?_
      refine r_if_eq (tgt := 43) dX6_takesDigit_36 (by decide) (fun c36 => ?_) (fun c36 => ?_)
      · refine r_iconst (v := 0) dX6_takesDigit_43 (by decide) ?_
        refine r_istore3 dX6_takesDigit_44 (Nat.le_of_ble_eq_true rfl) rfl ?_
        refine r_aload0 dX6_takesDigit_45 ?_
        refine r_iload3 dX6_takesDigit_46 ?_
        refine r_if_eq (tgt := 54) dX6_takesDigit_47 (by decide) (fun c47 => ?_) (fun c47 => ?_)
        · have e47 : ¬ ((0 ≤ g ∧ g ≤ 9) ∧ (1 ≤ p_v nu g ∧ p_v nu g ≤ 99999)) := by
            first | exact absurd c47 (by decide) | exact absurd rfl c47 | exact fun q => tp_b_0.mp c29 q.1 | exact fun q => tp_b_0.mp c36 (by rw [e5]; exact q.2)
          refine r_aload0 dX6_takesDigit_54 ?_
          refine r_getf dX6_takesDigit_55 f_X6_173 (hT.ob) rfl ?_
          refine mm_put_nu dX6_takesDigit_58 rfl hT (fun h1 hT => ?_)
          have hT := hT.cnu (x := p_nu nu g) (by unfold p_nu; first | (rw [if_pos e47]; exact e5) | exact (if_neg e47).symm)
          refine r_aload0 dX6_takesDigit_61 ?_
          refine r_getf dX6_takesDigit_62 f_X6_19 (hT.ob) rfl ?_
          refine r_iconst (v := 5) dX6_takesDigit_65 (by decide) ?_
          refine r_aload0 dX6_takesDigit_66 ?_
          refine r_getf dX6_takesDigit_67 f_X6_167 (hT.ob) rfl ?_
          refine r_imul dX6_takesDigit_70 ?_
          refine r_iconst (v := 4) dX6_takesDigit_71 (by decide) ?_
          refine r_iadd dX6_takesDigit_72 ?_
          refine r_aload0 dX6_takesDigit_73 ?_
          refine r_getf dX6_takesDigit_74 f_X6_173 (hT.ob) rfl ?_
          refine mm_st_pa dX6_takesDigit_77 hT (i := 5 * R + 4) (by rw [show (5 : Int32) = nI 5 from rfl, tp_mul]; exact tp_add (5 * R) 4) (by omega) (fun h1 hT => ?_)
          refine r_iload3 dX6_takesDigit_78 ?_
          exact r_zret dX6_takesDigit_79 rfl ⟨(Nat.le_of_ble_eq_true rfl), (Nat.le_of_ble_eq_true rfl)⟩ (by first | rfl | decide) (by first | exact absurd c47 (by decide) | exact absurd rfl c47 | exact ⟨by rw [tp_b_t e47], hT⟩ | exact ⟨by rw [tp_b_f e47], hT⟩)
        · have e47 : ((0 ≤ g ∧ g ≤ 9) ∧ (1 ≤ p_v nu g ∧ p_v nu g ≤ 99999)) := by
            first | exact absurd c47 (by decide) | exact absurd rfl c47 | exact ⟨tp_b_n c29, by rw [← e5]; exact tp_b_n c36⟩
          refine r_iload2 dX6_takesDigit_50 ?_
          refine r_goto (tgt := 58) dX6_takesDigit_51 (by decide) ?_
          refine mm_put_nu dX6_takesDigit_58 rfl hT (fun h1 hT => ?_)
          have hT := hT.cnu (x := p_nu nu g) (by unfold p_nu; first | (rw [if_pos e47]; exact e5) | exact (if_neg e47).symm)
          refine r_aload0 dX6_takesDigit_61 ?_
          refine r_getf dX6_takesDigit_62 f_X6_19 (hT.ob) rfl ?_
          refine r_iconst (v := 5) dX6_takesDigit_65 (by decide) ?_
          refine r_aload0 dX6_takesDigit_66 ?_
          refine r_getf dX6_takesDigit_67 f_X6_167 (hT.ob) rfl ?_
          refine r_imul dX6_takesDigit_70 ?_
          refine r_iconst (v := 4) dX6_takesDigit_71 (by decide) ?_
          refine r_iadd dX6_takesDigit_72 ?_
          refine r_aload0 dX6_takesDigit_73 ?_
          refine r_getf dX6_takesDigit_74 f_X6_173 (hT.ob) rfl ?_
          refine mm_st_pa dX6_takesDigit_77 hT (i := 5 * R + 4) (by rw [show (5 : Int32) = nI 5 from rfl, tp_mul]; exact tp_add (5 * R) 4) (by omega) (fun h1 hT => ?_)
          refine r_iload3 dX6_takesDigit_78 ?_
          exact r_zret dX6_takesDigit_79 rfl ⟨(Nat.le_of_ble_eq_true rfl), (Nat.le_of_ble_eq_true rfl)⟩ (by first | rfl | decide) (by first | exact absurd c47 (by decide) | exact absurd rfl c47 | exact ⟨by rw [tp_b_t e47], hT⟩ | exact ⟨by rw [tp_b_f e47], hT⟩)
      · refine r_iconst (v := 1) dX6_takesDigit_39 (by decide) ?_
        refine r_goto (tgt := 44) dX6_takesDigit_40 (by decide) ?_
        refine r_istore3 dX6_takesDigit_44 (Nat.le_of_ble_eq_true rfl) rfl ?_
        refine r_aload0 dX6_takesDigit_45 ?_
        refine r_iload3 dX6_takesDigit_46 ?_
        refine r_if_eq (tgt := 54) dX6_takesDigit_47 (by decide) (fun c47 => ?_) (fun c47 => ?_)
        · have e47 : ¬ ((0 ≤ g ∧ g ≤ 9) ∧ (1 ≤ p_v nu g ∧ p_v nu g ≤ 99999)) := by
            first | exact absurd c47 (by decide) | exact absurd rfl c47 | exact fun q => tp_b_0.mp c29 q.1 | exact fun q => tp_b_0.mp c36 (by rw [e5]; exact q.2)
          refine r_aload0 dX6_takesDigit_54 ?_
          refine r_getf dX6_takesDigit_55 f_X6_173 (hT.ob) rfl ?_
          refine mm_put_nu dX6_takesDigit_58 rfl hT (fun h1 hT => ?_)
          have hT := hT.cnu (x := p_nu nu g) (by unfold p_nu; first | (rw [if_pos e47]; exact e5) | exact (if_neg e47).symm)
          refine r_aload0 dX6_takesDigit_61 ?_
          refine r_getf dX6_takesDigit_62 f_X6_19 (hT.ob) rfl ?_
          refine r_iconst (v := 5) dX6_takesDigit_65 (by decide) ?_
          refine r_aload0 dX6_takesDigit_66 ?_
          refine r_getf dX6_takesDigit_67 f_X6_167 (hT.ob) rfl ?_
          refine r_imul dX6_takesDigit_70 ?_
          refine r_iconst (v := 4) dX6_takesDigit_71 (by decide) ?_
          refine r_iadd dX6_takesDigit_72 ?_
          refine r_aload0 dX6_takesDigit_73 ?_
          refine r_getf dX6_takesDigit_74 f_X6_173 (hT.ob) rfl ?_
          refine mm_st_pa dX6_takesDigit_77 hT (i := 5 * R + 4) (by rw [show (5 : Int32) = nI 5 from rfl, tp_mul]; exact tp_add (5 * R) 4) (by omega) (fun h1 hT => ?_)
          refine r_iload3 dX6_takesDigit_78 ?_
          exact r_zret dX6_takesDigit_79 rfl ⟨(Nat.le_of_ble_eq_true rfl), (Nat.le_of_ble_eq_true rfl)⟩ (by first | rfl | decide) (by first | exact absurd c47 (by decide) | exact absurd rfl c47 | exact ⟨by rw [tp_b_t e47], hT⟩ | exact ⟨by rw [tp_b_f e47], hT⟩)
        · have e47 : ((0 ≤ g ∧ g ≤ 9) ∧ (1 ≤ p_v nu g ∧ p_v nu g ≤ 99999)) := by
            first | exact absurd c47 (by decide) | exact absurd rfl c47 | exact ⟨tp_b_n c29, by rw [← e5]; exact tp_b_n c36⟩
          refine r_iload2 dX6_takesDigit_50 ?_
          refine r_goto (tgt := 58) dX6_takesDigit_51 (by decide) ?_
          refine mm_put_nu dX6_takesDigit_58 rfl hT (fun h1 hT => ?_)
          have hT := hT.cnu (x := p_nu nu g) (by unfold p_nu; first | (rw [if_pos e47]; exact e5) | exact (if_neg e47).symm)
          refine r_aload0 dX6_takesDigit_61 ?_
          refine r_getf dX6_takesDigit_62 f_X6_19 (hT.ob) rfl ?_
          refine r_iconst (v := 5) dX6_takesDigit_65 (by decide) ?_
          refine r_aload0 dX6_takesDigit_66 ?_
          refine r_getf dX6_takesDigit_67 f_X6_167 (hT.ob) rfl ?_
          refine r_imul dX6_takesDigit_70 ?_
          refine r_iconst (v := 4) dX6_takesDigit_71 (by decide) ?_
          refine r_iadd dX6_takesDigit_72 ?_
          refine r_aload0 dX6_takesDigit_73 ?_
          refine r_getf dX6_takesDigit_74 f_X6_173 (hT.ob) rfl ?_
          refine mm_st_pa dX6_takesDigit_77 hT (i := 5 * R + 4) (by rw [show (5 : Int32) = nI 5 from rfl, tp_mul]; exact tp_add (5 * R) 4) (by omega) (fun h1 hT => ?_)
          refine r_iload3 dX6_takesDigit_78 ?_
          exact r_zret dX6_takesDigit_79 rfl ⟨(Nat.le_of_ble_eq_true rfl), (Nat.le_of_ble_eq_true rfl)⟩ (by first | rfl | decide) (by first | exact absurd c47 (by decide) | exact absurd rfl c47 | exact ⟨by rw [tp_b_t e47], hT⟩ | exact ⟨by rw [tp_b_f e47], hT⟩)

set_option maxRecDepth 100000 in
set_option maxHeartbeats 4000000 in
theorem M_takes0 {l : Launch} {G : tp_G} {y : Nat} {h0 h : tp_H} {z hi tx pa : Nat → Int32} {st len thr nu : Int32} {R : Nat} {hs : Int64} (hl : l.stackTraces = false) (hT0 : mm_S G y h0 z hi tx pa st len thr (nI R) nu (nI 0) hs h) (hR : R ≤ 11) {c : Int32}  : tp_Met l G mX6_takes 0 0 [.ref y, .int c] h (tp_PS (some (.int (tp_b (c = 108 ∨ c = 120 ∨ c = 104)))) (fun h1 => mm_S G y h z hi tx (va_up pa (5 * R) c) st len thr (nI R) (-1) (nI 1) hs h1)) tp_NX := by
  have hT := hT0.self
  refine tp_start (L0 := [some (.ref y), some (.int c)]) (by decide) rfl hl (Nat.le_of_ble_eq_true rfl) rfl ?_
  refine r_aload0 dX6_takes_0 ?_
  refine r_getf dX6_takes_1 f_X6_170 (hT.ob) rfl ?_
  refine r_lookup (off := 36) (tgt := 40) dX6_takes_4 (by decide) (by decide) (by decide) ?_
  refine r_aload0 dX6_takes_40 ?_
  refine r_getf dX6_takes_41 f_X6_19 (hT.ob) rfl ?_
  refine r_iconst (v := 5) dX6_takes_44 (by decide) ?_
  refine r_aload0 dX6_takes_45 ?_
  refine r_getf dX6_takes_46 f_X6_167 (hT.ob) rfl ?_
  refine r_imul dX6_takes_49 ?_
  refine r_iload1 dX6_takes_50 ?_
  refine mm_st_pa dX6_takes_51 hT (i := 5 * R) (by rw [show (5 : Int32) = nI 5 from rfl, tp_mul]) (by omega) (fun h1 hT => ?_)
  refine r_aload0 dX6_takes_52 ?_
  refine r_iconst (v := (-1)) dX6_takes_53 (by decide) ?_
  refine mm_put_nu dX6_takes_54 rfl hT (fun h1 hT => ?_)
  refine r_aload0 dX6_takes_57 ?_
  refine r_iconst (v := 1) dX6_takes_58 (by decide) ?_
  refine mm_put_du dX6_takes_59 rfl hT (fun h1 hT => ?_)
  refine r_iload1 dX6_takes_62 ?_
  refine r_bipush (v := 108) dX6_takes_63 (by decide) ?_
  refine r_icmp_eq (tgt := 80) dX6_takes_65 (by decide) (fun c65 => ?_) (fun c65 => ?_)
  · refine r_iconst (v := 1) dX6_takes_80 (by decide) ?_
    refine r_goto (tgt := 85) dX6_takes_81 (by decide) ?_
    exact r_zret dX6_takes_85 rfl ⟨(Nat.le_of_ble_eq_true rfl), (Nat.le_of_ble_eq_true rfl)⟩ (by first | rfl | decide) ⟨by first | (rw [tp_b_t (Or.inl c65)]; done) | (rw [tp_b_t (Or.inr (Or.inl c71))]; done) | (rw [tp_b_t (Or.inr (Or.inr c77))]; done) | (rw [tp_b_f (fun q => q.elim c65 (fun q => q.elim c71 c77))]; done), hT⟩
  · refine r_iload1 dX6_takes_68 ?_
    refine r_bipush (v := 120) dX6_takes_69 (by decide) ?_
    refine r_icmp_eq (tgt := 80) dX6_takes_71 (by decide) (fun c71 => ?_) (fun c71 => ?_)
    · refine r_iconst (v := 1) dX6_takes_80 (by decide) ?_
      refine r_goto (tgt := 85) dX6_takes_81 (by decide) ?_
      exact r_zret dX6_takes_85 rfl ⟨(Nat.le_of_ble_eq_true rfl), (Nat.le_of_ble_eq_true rfl)⟩ (by first | rfl | decide) ⟨by first | (rw [tp_b_t (Or.inl c65)]; done) | (rw [tp_b_t (Or.inr (Or.inl c71))]; done) | (rw [tp_b_t (Or.inr (Or.inr c77))]; done) | (rw [tp_b_f (fun q => q.elim c65 (fun q => q.elim c71 c77))]; done), hT⟩
    · refine r_iload1 dX6_takes_74 ?_
      refine r_bipush (v := 104) dX6_takes_75 (by decide) ?_
      refine r_icmp_ne (tgt := 84) dX6_takes_77 (by decide) (fun c77 => ?_) (fun c77 => ?_)
      · refine r_iconst (v := 0) dX6_takes_84 (by decide) ?_
        exact r_zret dX6_takes_85 rfl ⟨(Nat.le_of_ble_eq_true rfl), (Nat.le_of_ble_eq_true rfl)⟩ (by first | rfl | decide) ⟨by first | (rw [tp_b_t (Or.inl c65)]; done) | (rw [tp_b_t (Or.inr (Or.inl c71))]; done) | (rw [tp_b_t (Or.inr (Or.inr c77))]; done) | (rw [tp_b_f (fun q => q.elim c65 (fun q => q.elim c71 c77))]; done), hT⟩
      · refine r_iconst (v := 1) dX6_takes_80 (by decide) ?_
        refine r_goto (tgt := 85) dX6_takes_81 (by decide) ?_
        exact r_zret dX6_takes_85 rfl ⟨(Nat.le_of_ble_eq_true rfl), (Nat.le_of_ble_eq_true rfl)⟩ (by first | rfl | decide) ⟨by first | (rw [tp_b_t (Or.inl c65)]; done) | (rw [tp_b_t (Or.inr (Or.inl c71))]; done) | (rw [tp_b_t (Or.inr (Or.inr c77))]; done) | (rw [tp_b_f (fun q => q.elim c65 (fun q => q.elim c71 c77))]; done), hT⟩

set_option maxRecDepth 100000 in
set_option maxHeartbeats 4000000 in
theorem M_takes4 {l : Launch} {G : tp_G} {y : Nat} {h0 h : tp_H} {z hi tx pa : Nat → Int32} {st len thr nu : Int32} {R : Nat} {hs : Int64} (hl : l.stackTraces = false) (hT0 : mm_S G y h0 z hi tx pa st len thr (nI R) nu (nI 4) hs h) (hR : R ≤ 11) {c : Int32}  : tp_Met l G mX6_takes 0 0 [.ref y, .int c] h (tp_PS (some (.int (tp_b (c = if pa (5 * R) = 108 then 43 else 58)))) (fun h1 => mm_S G y h z hi tx pa st len thr (nI R) nu (nI 5) hs h1)) tp_NX := by
  have hT := hT0.self
  refine tp_start (L0 := [some (.ref y), some (.int c)]) (by decide) rfl hl (Nat.le_of_ble_eq_true rfl) rfl ?_
  refine r_aload0 dX6_takes_0 ?_
  refine r_getf dX6_takes_1 f_X6_170 (hT.ob) rfl ?_
  refine r_lookup (off := 82) (tgt := 86) dX6_takes_4 (by decide) (by decide) (by decide) ?_
  refine r_aload0 dX6_takes_86 ?_
  refine r_iconst (v := 5) dX6_takes_87 (by decide) ?_
  refine mm_put_du dX6_takes_88 rfl hT (fun h1 hT => ?_)
  refine r_iload1 dX6_takes_91 ?_
  refine r_aload0 dX6_takes_92 ?_
  refine r_getf dX6_takes_93 f_X6_19 (hT.ob) rfl ?_
  refine r_iconst (v := 5) dX6_takes_96 (by decide) ?_
  refine r_aload0 dX6_takes_97 ?_
  refine r_getf dX6_takes_98 f_X6_167 (hT.ob) rfl ?_
  refine r_imul dX6_takes_101 ?_
  refine r_iald dX6_takes_102 hT.rpa (i := 5 * R) (by rw [show (5 : Int32) = nI 5 from rfl, tp_mul]) (by omega) (by decide) ?_
  refine r_bipush (v := 108) dX6_takes_103 (by decide) ?_
  refine r_icmp_ne (tgt := 113) dX6_takes_105 (by decide) (fun c105 => ?_) (fun c105 => ?_)
  · refine r_bipush (v := 58) dX6_takes_113 (by decide) ?_
    refine r_icmp_ne (tgt := 122) dX6_takes_115 (by decide) (fun c115 => ?_) (fun c115 => ?_)
    · refine r_iconst (v := 0) dX6_takes_122 (by decide) ?_
      exact r_zret dX6_takes_123 rfl ⟨(Nat.le_of_ble_eq_true rfl), (Nat.le_of_ble_eq_true rfl)⟩ (by first | rfl | decide) ⟨by first | (rw [if_pos c105, tp_b_t c115]; done) | (rw [if_pos c105, tp_b_f c115]; done) | (rw [if_neg c105, tp_b_t c115]; done) | (rw [if_neg c105, tp_b_f c115]; done), hT⟩
    · refine r_iconst (v := 1) dX6_takes_118 (by decide) ?_
      refine r_goto (tgt := 123) dX6_takes_119 (by decide) ?_
      exact r_zret dX6_takes_123 rfl ⟨(Nat.le_of_ble_eq_true rfl), (Nat.le_of_ble_eq_true rfl)⟩ (by first | rfl | decide) ⟨by first | (rw [if_pos c105, tp_b_t c115]; done) | (rw [if_pos c105, tp_b_f c115]; done) | (rw [if_neg c105, tp_b_t c115]; done) | (rw [if_neg c105, tp_b_f c115]; done), hT⟩
  · refine r_bipush (v := 43) dX6_takes_108 (by decide) ?_
    refine r_goto (tgt := 115) dX6_takes_110 (by decide) ?_
    refine r_icmp_ne (tgt := 122) dX6_takes_115 (by decide) (fun c115 => ?_) (fun c115 => ?_)
    · refine r_iconst (v := 0) dX6_takes_122 (by decide) ?_
      exact r_zret dX6_takes_123 rfl ⟨(Nat.le_of_ble_eq_true rfl), (Nat.le_of_ble_eq_true rfl)⟩ (by first | rfl | decide) ⟨by first | (rw [if_pos c105, tp_b_t c115]; done) | (rw [if_pos c105, tp_b_f c115]; done) | (rw [if_neg c105, tp_b_t c115]; done) | (rw [if_neg c105, tp_b_f c115]; done), hT⟩
    · refine r_iconst (v := 1) dX6_takes_118 (by decide) ?_
      refine r_goto (tgt := 123) dX6_takes_119 (by decide) ?_
      exact r_zret dX6_takes_123 rfl ⟨(Nat.le_of_ble_eq_true rfl), (Nat.le_of_ble_eq_true rfl)⟩ (by first | rfl | decide) ⟨by first | (rw [if_pos c105, tp_b_t c115]; done) | (rw [if_pos c105, tp_b_f c115]; done) | (rw [if_neg c105, tp_b_t c115]; done) | (rw [if_neg c105, tp_b_f c115]; done), hT⟩

set_option maxRecDepth 100000 in
set_option maxHeartbeats 4000000 in
theorem M_takesP {l : Launch} {G : tp_G} {y : Nat} {h0 h : tp_H} {z hi tx pa : Nat → Int32} {st len thr nu : Int32} {R D : Nat} {hs : Int64} (hl : l.stackTraces = false) (hT0 : mm_S G y h0 z hi tx pa st len thr (nI R) nu (nI D) hs h) (hR : R ≤ 11) {c : Int32} (hD : 1 ≤ D ∧ D ≤ 3) : tp_Met l G mX6_takes 0 0 [.ref y, .int c] h (tp_PS (some (.int (tp_b (48 ≤ c ∧ c ≤ 51)))) (fun h1 => mm_S G y h z hi tx (va_up pa (5 * R + D) (c - 48)) st len thr (nI R) nu (nI (p_du (pa (5 * R)) D)) hs h1)) tp_NX := by
  have hT := hT0.self
  refine tp_start (L0 := [some (.ref y), some (.int c)]) (by decide) rfl hl (Nat.le_of_ble_eq_true rfl) rfl ?_
  refine r_aload0 dX6_takes_0 ?_
  refine r_getf dX6_takes_1 f_X6_170 (hT.ob) rfl ?_
  refine r_lookup (off := 123) (tgt := 127) dX6_takes_4 (by decide) (by obtain ⟨d1, d3⟩ := hD; rcases (show D = 1 ∨ D = 2 ∨ D = 3 by omega) with rfl | rfl | rfl <;> decide) (by decide) ?_
  refine r_aload0 dX6_takes_127 ?_
  refine r_iload1 dX6_takes_128 ?_
  refine r_sV1 dX6_takes_129 v_X6_176 (M_takesPlace hl hT hR hD) rfl (hT.ob) rfl rfl rfl (Nat.le_of_ble_eq_true rfl) ⟨(Nat.le_of_ble_eq_true rfl), (Nat.le_of_ble_eq_true rfl)⟩ ⟨(Nat.le_of_ble_eq_true rfl), (Nat.le_of_ble_eq_true rfl)⟩ (fun h1 hP => ?_)
  have hT := hT.trans hP
  exact r_zret dX6_takes_132 rfl ⟨(Nat.le_of_ble_eq_true rfl), (Nat.le_of_ble_eq_true rfl)⟩ tp_b_z ⟨rfl, hT⟩

set_option maxRecDepth 100000 in
set_option maxHeartbeats 4000000 in
theorem M_takes5s {l : Launch} {G : tp_G} {y : Nat} {h0 h : tp_H} {z hi tx pa : Nat → Int32} {st len thr nu : Int32} {R : Nat} {hs : Int64} (hl : l.stackTraces = false) (hT0 : mm_S G y h0 z hi tx pa st len thr (nI R) nu (nI 5) hs h) (hR : R ≤ 11) {c : Int32} (hc : c = 59) (hnu : ¬ nu = -1) : tp_Met l G mX6_takes 0 0 [.ref y, .int c] h (tp_PS (some (.int 1)) (fun h1 => mm_S G y h z hi tx pa st len thr (nI (R + 1)) nu (nI 0) hs h1)) tp_NX := by
  have hT := hT0.self
  refine tp_start (L0 := [some (.ref y), some (.int c)]) (by decide) rfl hl (Nat.le_of_ble_eq_true rfl) rfl ?_
  refine r_aload0 dX6_takes_0 ?_
  refine r_getf dX6_takes_1 f_X6_170 (hT.ob) rfl ?_
  refine r_lookup (off := 120) (tgt := 124) dX6_takes_4 (by decide) (by decide) (by decide) ?_
  refine r_goto (tgt := 133) dX6_takes_124 (by decide) ?_
  refine r_iload1 dX6_takes_133 ?_
  refine r_bipush (v := 59) dX6_takes_134 (by decide) ?_
  refine r_icmp_ne (tgt := 164) dX6_takes_136 (by decide) (fun c136 => ?_) (fun c136 => ?_)
  · exact absurd hc c136
  · refine r_aload0 dX6_takes_139 ?_
    refine r_getf dX6_takes_140 f_X6_173 (hT.ob) rfl ?_
    refine r_iconst (v := (-1)) dX6_takes_143 (by decide) ?_
    refine r_icmp_eq (tgt := 164) dX6_takes_144 (by decide) (fun c144 => ?_) (fun c144 => ?_)
    · exact absurd c144 hnu
    · refine r_aload0 dX6_takes_147 ?_
      refine r_dup dX6_takes_148 rfl ?_
      refine r_getf dX6_takes_149 f_X6_167 (hT.ob) rfl ?_
      refine r_iconst (v := 1) dX6_takes_152 (by decide) ?_
      refine r_iadd dX6_takes_153 ?_
      rw [tp_1]
      refine mm_put_rd dX6_takes_154 rfl hT (fun h1 hT => ?_)
      refine r_aload0 dX6_takes_157 ?_
      refine r_iconst (v := 0) dX6_takes_158 (by decide) ?_
      refine mm_put_du dX6_takes_159 rfl hT (fun h1 hT => ?_)
      refine r_iconst (v := 1) dX6_takes_162 (by decide) ?_
      exact r_zret dX6_takes_163 rfl ⟨(Nat.le_of_ble_eq_true rfl), (Nat.le_of_ble_eq_true rfl)⟩ (by first | rfl | decide) ⟨rfl, hT⟩

set_option maxRecDepth 100000 in
set_option maxHeartbeats 4000000 in
theorem M_takes5d {l : Launch} {G : tp_G} {y : Nat} {h0 h : tp_H} {z hi tx pa : Nat → Int32} {st len thr nu : Int32} {R : Nat} {hs : Int64} (hl : l.stackTraces = false) (hT0 : mm_S G y h0 z hi tx pa st len thr (nI R) nu (nI 5) hs h) (hR : R ≤ 11) {c : Int32} (hc : ¬ (c = 59 ∧ ¬ nu = -1)) : tp_Met l G mX6_takes 0 0 [.ref y, .int c] h (tp_PS (some (.int (tp_b ((0 ≤ c - 48 ∧ c - 48 ≤ 9) ∧ (1 ≤ p_v nu (c - 48) ∧ p_v nu (c - 48) ≤ 99999))))) (fun h1 => mm_S G y h z hi tx (va_up pa (5 * R + 4) (p_nu nu (c - 48))) st len thr (nI R) (p_nu nu (c - 48)) (nI 5) hs h1)) tp_NX := by
  have hT := hT0.self
  refine tp_start (L0 := [some (.ref y), some (.int c)]) (by decide) rfl hl (Nat.le_of_ble_eq_true rfl) rfl ?_
  refine r_aload0 dX6_takes_0 ?_
  refine r_getf dX6_takes_1 f_X6_170 (hT.ob) rfl ?_
  refine r_lookup (off := 120) (tgt := 124) dX6_takes_4 (by decide) (by decide) (by decide) ?_
  refine r_goto (tgt := 133) dX6_takes_124 (by decide) ?_
  refine r_iload1 dX6_takes_133 ?_
  refine r_bipush (v := 59) dX6_takes_134 (by decide) ?_
  refine r_icmp_ne (tgt := 164) dX6_takes_136 (by decide) (fun c136 => ?_) (fun c136 => ?_)
  · refine r_aload0 dX6_takes_164 ?_
    refine r_iload1 dX6_takes_165 ?_
    refine r_bipush (v := 48) dX6_takes_166 (by decide) ?_
    refine r_isub dX6_takes_168 ?_
    refine r_sV1 dX6_takes_169 v_X6_179 (M_takesDigit hl hT hR) rfl (hT.ob) rfl rfl rfl (Nat.le_of_ble_eq_true rfl) ⟨(Nat.le_of_ble_eq_true rfl), (Nat.le_of_ble_eq_true rfl)⟩ ⟨(Nat.le_of_ble_eq_true rfl), (Nat.le_of_ble_eq_true rfl)⟩ (fun h1 hP => ?_)
    have hT := hT.trans hP
    exact r_zret dX6_takes_172 rfl ⟨(Nat.le_of_ble_eq_true rfl), (Nat.le_of_ble_eq_true rfl)⟩ tp_b_z ⟨rfl, hT⟩
  · refine r_aload0 dX6_takes_139 ?_
    refine r_getf dX6_takes_140 f_X6_173 (hT.ob) rfl ?_
    refine r_iconst (v := (-1)) dX6_takes_143 (by decide) ?_
    refine r_icmp_eq (tgt := 164) dX6_takes_144 (by decide) (fun c144 => ?_) (fun c144 => ?_)
    · refine r_aload0 dX6_takes_164 ?_
      refine r_iload1 dX6_takes_165 ?_
      refine r_bipush (v := 48) dX6_takes_166 (by decide) ?_
      refine r_isub dX6_takes_168 ?_
      refine r_sV1 dX6_takes_169 v_X6_179 (M_takesDigit hl hT hR) rfl (hT.ob) rfl rfl rfl (Nat.le_of_ble_eq_true rfl) ⟨(Nat.le_of_ble_eq_true rfl), (Nat.le_of_ble_eq_true rfl)⟩ ⟨(Nat.le_of_ble_eq_true rfl), (Nat.le_of_ble_eq_true rfl)⟩ (fun h1 hP => ?_)
      have hT := hT.trans hP
      exact r_zret dX6_takes_172 rfl ⟨(Nat.le_of_ble_eq_true rfl), (Nat.le_of_ble_eq_true rfl)⟩ tp_b_z ⟨rfl, hT⟩
    · exact absurd ⟨c136, c144⟩ hc

