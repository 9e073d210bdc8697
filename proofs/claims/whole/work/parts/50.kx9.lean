def k_purse (u : Nat → Int32) (w c : Nat) : Nat → Int32 := fun j => match j with
  | 0 => u (z_at w c)
  | 1 => z_kept u w c (z_n (u 8))
  | 2 => z_free u w c
  | 3 => u (z_at w c + 1)
  | 4 => k_rate u w c
  | 5 => if u 4 ≤ u (z_at w c + 3) then u (z_at w c + 3) else -1
  | 6 => z_credit u w c (z_n (u 9))
  | _ => k_paid u w c (z_n (u 9))
def k_payn (u : Nat → Int32) (p j : Nat) : Int32 := if j < 5 then u (136 + 5 * p + j) else tp_b (u (136 + 5 * p + 4) = 0 ∧ u 4 - u (136 + 5 * p + 3) ≤ 30)
theorem tp_out {v : Int32} {n : Nat} (hn : n < 2 ^ 31) (h : ¬ (0 ≤ v ∧ v ≤ nI n)) : v.toInt < 0 ∨ (n : Int) < v.toInt := by
  rw [Int32.le_iff_toInt_le, Int32.le_iff_toInt_le, nI_toInt hn] at h
  have e0 : (0 : Int32).toInt = 0 := rfl
  omega
theorem k_net_eq {u : Nat → Int32} {w c m r s : Nat} (h0c : 0 < c) (hr : k_rate u w c = nI r) (h0 : 0 < r) (hr2 : r < 2 ^ 31) (hs : u 1 = nI s) (hs2 : s ≤ 1000) (hg : 1000 * m / r < 2 ^ 31) (hm : m < 2 ^ 31) : k_net u w 0 c (nI m) = nI (z_net r s m) := by
  have hgr : k_gross u w 0 c (nI m) = lN (1000 * m / r) := by
    unfold k_gross
    rw [if_neg (by omega), hr, if_pos (by rw [show (0 : Int32) = nI 0 from rfl, tp_lt (by omega) hr2]; exact h0), z_lt m hm, z_lt r hr2, z_l1000, lN_mul, pk_lDiv (by omega) h0 (by omega), Nat.mul_comm]
  have hsp : k_spread u (lN (1000 * m / r)) = nI (1000 * m / r * s / 1000) := by
    unfold k_spread
    have h1 : 1000 * m / r * s ≤ 2147483647 * 2147483647 := Nat.mul_le_mul (by omega) (by omega)
    rw [hs, z_lt s (by omega), z_l1000, lN_mul, pk_lDiv (by omega) (by omega) (by omega), lN_i]
  unfold k_net
  rw [hgr, hsp, lN_i]
  unfold z_net
  have : 1000 * m / r * s ≤ 1000 * m / r * 1000 := Nat.mul_le_mul_left _ hs2
  exact tp_sub (by omega)
set_option maxRecDepth 100000 in
set_option maxHeartbeats 4000000 in
theorem X_purse {l : Launch} {G : tp_G} {x : Nat} {h0 h : tp_H} {u : Nat → Int32} {π ρ : Nat → Nat} {us : Nat → Nat → Int32} {σ : Nat → Nat} {st len : Int32} {tx rd : Nat → Int32} (hl : l.stackTraces = false) (hT0 : kx_S G x h0 u π ρ us σ st len tx rd h) {N P : Nat} (hu8 : u 8 = nI N) (hN : N ≤ 8) (hu9 : u 9 = nI P) (hP9 : P ≤ 12) {w c j : Nat} (hw : w < 4) (hc : c < 4) (hj : j < 8) : tp_Met l G mX5_purse 0 0 [.ref x, .int (nI w), .int (nI c), .int (nI j)] h (tp_PR (.int (k_purse u w c j)) h) tp_NX := by
  have hT := hT0.self
  have hB := hT.bk
  refine tp_start (L0 := [some (.ref x), some (.int (nI w)), some (.int (nI c)), some (.int (nI j)), none]) (by decide) rfl hl (Nat.le_of_ble_eq_true rfl) rfl ?_
  refine r_aload0 dX5_purse_0 ?_
  refine r_iload1 dX5_purse_1 ?_
  refine r_iload2 dX5_purse_2 ?_
  refine r_pV dX5_purse_3 v_X5_31 (X_purseAt hl hT hw hc) rfl (hT.ob) rfl rfl rfl (Nat.le_of_ble_eq_true rfl) ⟨(Nat.le_of_ble_eq_true rfl), (Nat.le_of_ble_eq_true rfl)⟩ ⟨(Nat.le_of_ble_eq_true rfl), (Nat.le_of_ble_eq_true rfl)⟩ ?_
  refine r_astore4 dX5_purse_6 (Nat.le_of_ble_eq_true rfl) rfl ?_
  refine r_iload3 dX5_purse_8 ?_
  rcases (show j = 0 ∨ j = 1 ∨ j = 2 ∨ j = 3 ∨ j = 4 ∨ j = 5 ∨ j = 6 ∨ j = 7 by omega) with rfl | rfl | rfl | rfl | rfl | rfl | rfl | rfl
  · refine r_tableIn (tgt := 56) dX5_purse_9 (by decide) (by decide) rfl (by decide) ?_
    refine r_aload4 dX5_purse_56 ?_
    refine r_getf dX5_purse_58 f_X5_57 (hB.pu hw hc) rfl ?_
    exact r_iret dX5_purse_61 rfl ⟨(Nat.le_of_ble_eq_true rfl), (Nat.le_of_ble_eq_true rfl)⟩ ⟨by first | rfl | (show _ = some (Value.int (z_kept u w c (z_n (u 8)))); rw [hu8, z_nI (by omega)]; done) | (show _ = some (Value.int (z_credit u w c (z_n (u 9)))); rw [hu9, z_nI (by omega)]; done) | (show _ = some (Value.int (k_paid u w c (z_n (u 9)))); rw [hu9, z_nI (by omega)]; done) | (show _ = some (Value.int (if _ then _ else _)); first | (rw [if_pos (tp_b_n c107)]; done) | (rw [if_neg (tp_b_0.mp c107)]; done)), rfl⟩
  · refine r_tableIn (tgt := 62) dX5_purse_9 (by decide) (by decide) rfl (by decide) ?_
    refine r_aload0 dX5_purse_62 ?_
    refine r_getf dX5_purse_63 f_X5_10 (hT.ob) rfl ?_
    refine r_aload4 dX5_purse_66 ?_
    refine r_pV dX5_purse_68 v_X5_226 (K_keptIn hl hB hw hc hu8 hN) rfl (hB.ob) rfl rfl rfl (Nat.le_of_ble_eq_true rfl) ⟨(Nat.le_of_ble_eq_true rfl), (Nat.le_of_ble_eq_true rfl)⟩ ⟨(Nat.le_of_ble_eq_true rfl), (Nat.le_of_ble_eq_true rfl)⟩ ?_
    exact r_iret dX5_purse_71 rfl ⟨(Nat.le_of_ble_eq_true rfl), (Nat.le_of_ble_eq_true rfl)⟩ ⟨by first | rfl | (show _ = some (Value.int (z_kept u w c (z_n (u 8)))); rw [hu8, z_nI (by omega)]; done) | (show _ = some (Value.int (z_credit u w c (z_n (u 9)))); rw [hu9, z_nI (by omega)]; done) | (show _ = some (Value.int (k_paid u w c (z_n (u 9)))); rw [hu9, z_nI (by omega)]; done) | (show _ = some (Value.int (if _ then _ else _)); first | (rw [if_pos (tp_b_n c107)]; done) | (rw [if_neg (tp_b_0.mp c107)]; done)), rfl⟩
  · refine r_tableIn (tgt := 72) dX5_purse_9 (by decide) (by decide) rfl (by decide) ?_
    refine r_aload0 dX5_purse_72 ?_
    refine r_getf dX5_purse_73 f_X5_10 (hT.ob) rfl ?_
    refine r_aload4 dX5_purse_76 ?_
    refine r_pV dX5_purse_78 v_X5_229 (K_freeOf hl hB hw hc hu8 hN) rfl (hB.ob) rfl rfl rfl (Nat.le_of_ble_eq_true rfl) ⟨(Nat.le_of_ble_eq_true rfl), (Nat.le_of_ble_eq_true rfl)⟩ ⟨(Nat.le_of_ble_eq_true rfl), (Nat.le_of_ble_eq_true rfl)⟩ ?_
    exact r_iret dX5_purse_81 rfl ⟨(Nat.le_of_ble_eq_true rfl), (Nat.le_of_ble_eq_true rfl)⟩ ⟨by first | rfl | (show _ = some (Value.int (z_kept u w c (z_n (u 8)))); rw [hu8, z_nI (by omega)]; done) | (show _ = some (Value.int (z_credit u w c (z_n (u 9)))); rw [hu9, z_nI (by omega)]; done) | (show _ = some (Value.int (k_paid u w c (z_n (u 9)))); rw [hu9, z_nI (by omega)]; done) | (show _ = some (Value.int (if _ then _ else _)); first | (rw [if_pos (tp_b_n c107)]; done) | (rw [if_neg (tp_b_0.mp c107)]; done)), rfl⟩
  · refine r_tableIn (tgt := 82) dX5_purse_9 (by decide) (by decide) rfl (by decide) ?_
    refine r_aload4 dX5_purse_82 ?_
    refine r_getf dX5_purse_84 f_X5_232 (hB.pu hw hc) rfl ?_
    exact r_iret dX5_purse_87 rfl ⟨(Nat.le_of_ble_eq_true rfl), (Nat.le_of_ble_eq_true rfl)⟩ ⟨by first | rfl | (show _ = some (Value.int (z_kept u w c (z_n (u 8)))); rw [hu8, z_nI (by omega)]; done) | (show _ = some (Value.int (z_credit u w c (z_n (u 9)))); rw [hu9, z_nI (by omega)]; done) | (show _ = some (Value.int (k_paid u w c (z_n (u 9)))); rw [hu9, z_nI (by omega)]; done) | (show _ = some (Value.int (if _ then _ else _)); first | (rw [if_pos (tp_b_n c107)]; done) | (rw [if_neg (tp_b_0.mp c107)]; done)), rfl⟩
  · refine r_tableIn (tgt := 88) dX5_purse_9 (by decide) (by decide) rfl (by decide) ?_
    refine r_aload0 dX5_purse_88 ?_
    refine r_getf dX5_purse_89 f_X5_10 (hT.ob) rfl ?_
    refine r_aload4 dX5_purse_92 ?_
    refine r_pV dX5_purse_94 v_X5_235 (K_rateOf hl hB hw hc) rfl (hB.ob) rfl rfl rfl (Nat.le_of_ble_eq_true rfl) ⟨(Nat.le_of_ble_eq_true rfl), (Nat.le_of_ble_eq_true rfl)⟩ ⟨(Nat.le_of_ble_eq_true rfl), (Nat.le_of_ble_eq_true rfl)⟩ ?_
    exact r_iret dX5_purse_97 rfl ⟨(Nat.le_of_ble_eq_true rfl), (Nat.le_of_ble_eq_true rfl)⟩ ⟨by first | rfl | (show _ = some (Value.int (z_kept u w c (z_n (u 8)))); rw [hu8, z_nI (by omega)]; done) | (show _ = some (Value.int (z_credit u w c (z_n (u 9)))); rw [hu9, z_nI (by omega)]; done) | (show _ = some (Value.int (k_paid u w c (z_n (u 9)))); rw [hu9, z_nI (by omega)]; done) | (show _ = some (Value.int (if _ then _ else _)); first | (rw [if_pos (tp_b_n c107)]; done) | (rw [if_neg (tp_b_0.mp c107)]; done)), rfl⟩
  · refine r_tableIn (tgt := 98) dX5_purse_9 (by decide) (by decide) rfl (by decide) ?_
    refine r_aload0 dX5_purse_98 ?_
    refine r_getf dX5_purse_99 f_X5_10 (hT.ob) rfl ?_
    refine r_aload4 dX5_purse_102 ?_
    refine r_pV dX5_purse_104 v_X5_238 (K_isLocked hl hB hw hc) rfl (hB.ob) rfl rfl rfl (Nat.le_of_ble_eq_true rfl) ⟨(Nat.le_of_ble_eq_true rfl), (Nat.le_of_ble_eq_true rfl)⟩ ⟨(Nat.le_of_ble_eq_true rfl), (Nat.le_of_ble_eq_true rfl)⟩ ?_
    refine r_if_eq (tgt := 118) dX5_purse_107 (by decide) (fun c107 => ?_) (fun c107 => ?_)
    · refine r_iconst (v := (-1)) dX5_purse_118 (by decide) ?_
      exact r_iret dX5_purse_119 rfl ⟨(Nat.le_of_ble_eq_true rfl), (Nat.le_of_ble_eq_true rfl)⟩ ⟨by first | rfl | (show _ = some (Value.int (z_kept u w c (z_n (u 8)))); rw [hu8, z_nI (by omega)]; done) | (show _ = some (Value.int (z_credit u w c (z_n (u 9)))); rw [hu9, z_nI (by omega)]; done) | (show _ = some (Value.int (k_paid u w c (z_n (u 9)))); rw [hu9, z_nI (by omega)]; done) | (show _ = some (Value.int (if _ then _ else _)); first | (rw [if_pos (tp_b_n c107)]; done) | (rw [if_neg (tp_b_0.mp c107)]; done)), rfl⟩
    · refine r_aload4 dX5_purse_110 ?_
      refine r_getf dX5_purse_112 f_X5_91 (hB.pu hw hc) rfl ?_
      refine r_goto (tgt := 119) dX5_purse_115 (by decide) ?_
      exact r_iret dX5_purse_119 rfl ⟨(Nat.le_of_ble_eq_true rfl), (Nat.le_of_ble_eq_true rfl)⟩ ⟨by first | rfl | (show _ = some (Value.int (z_kept u w c (z_n (u 8)))); rw [hu8, z_nI (by omega)]; done) | (show _ = some (Value.int (z_credit u w c (z_n (u 9)))); rw [hu9, z_nI (by omega)]; done) | (show _ = some (Value.int (k_paid u w c (z_n (u 9)))); rw [hu9, z_nI (by omega)]; done) | (show _ = some (Value.int (if _ then _ else _)); first | (rw [if_pos (tp_b_n c107)]; done) | (rw [if_neg (tp_b_0.mp c107)]; done)), rfl⟩
  · refine r_tableIn (tgt := 120) dX5_purse_9 (by decide) (by decide) rfl (by decide) ?_
    refine r_aload0 dX5_purse_120 ?_
    refine r_getf dX5_purse_121 f_X5_10 (hT.ob) rfl ?_
    refine r_aload4 dX5_purse_124 ?_
    refine r_pV dX5_purse_126 v_X5_242 (K_creditIn hl hB hw hc hu9 hP9) rfl (hB.ob) rfl rfl rfl (Nat.le_of_ble_eq_true rfl) ⟨(Nat.le_of_ble_eq_true rfl), (Nat.le_of_ble_eq_true rfl)⟩ ⟨(Nat.le_of_ble_eq_true rfl), (Nat.le_of_ble_eq_true rfl)⟩ ?_
    exact r_iret dX5_purse_129 rfl ⟨(Nat.le_of_ble_eq_true rfl), (Nat.le_of_ble_eq_true rfl)⟩ ⟨by first | rfl | (show _ = some (Value.int (z_kept u w c (z_n (u 8)))); rw [hu8, z_nI (by omega)]; done) | (show _ = some (Value.int (z_credit u w c (z_n (u 9)))); rw [hu9, z_nI (by omega)]; done) | (show _ = some (Value.int (k_paid u w c (z_n (u 9)))); rw [hu9, z_nI (by omega)]; done) | (show _ = some (Value.int (if _ then _ else _)); first | (rw [if_pos (tp_b_n c107)]; done) | (rw [if_neg (tp_b_0.mp c107)]; done)), rfl⟩
  · refine r_tableIn (tgt := 130) dX5_purse_9 (by decide) (by decide) rfl (by decide) ?_
    refine r_aload0 dX5_purse_130 ?_
    refine r_getf dX5_purse_131 f_X5_10 (hT.ob) rfl ?_
    refine r_aload4 dX5_purse_134 ?_
    refine r_pV dX5_purse_136 v_X5_245 (K_paidFrom hl hB hw hc hu9 hP9) rfl (hB.ob) rfl rfl rfl (Nat.le_of_ble_eq_true rfl) ⟨(Nat.le_of_ble_eq_true rfl), (Nat.le_of_ble_eq_true rfl)⟩ ⟨(Nat.le_of_ble_eq_true rfl), (Nat.le_of_ble_eq_true rfl)⟩ ?_
    exact r_iret dX5_purse_139 rfl ⟨(Nat.le_of_ble_eq_true rfl), (Nat.le_of_ble_eq_true rfl)⟩ ⟨by first | rfl | (show _ = some (Value.int (z_kept u w c (z_n (u 8)))); rw [hu8, z_nI (by omega)]; done) | (show _ = some (Value.int (z_credit u w c (z_n (u 9)))); rw [hu9, z_nI (by omega)]; done) | (show _ = some (Value.int (k_paid u w c (z_n (u 9)))); rw [hu9, z_nI (by omega)]; done) | (show _ = some (Value.int (if _ then _ else _)); first | (rw [if_pos (tp_b_n c107)]; done) | (rw [if_neg (tp_b_0.mp c107)]; done)), rfl⟩

set_option maxRecDepth 100000 in
set_option maxHeartbeats 4000000 in
theorem X_purse_1 {l : Launch} {G : tp_G} {x : Nat} {h0 h : tp_H} {u : Nat → Int32} {π ρ : Nat → Nat} {us : Nat → Nat → Int32} {σ : Nat → Nat} {st len : Int32} {tx rd : Nat → Int32} (hl : l.stackTraces = false) (hT0 : kx_S G x h0 u π ρ us σ st len tx rd h) {w c j : Int32} (hbad : ¬ ((0 ≤ w ∧ w ≤ 3) ∧ (0 ≤ c ∧ c ≤ 3))) : tp_Met l G mX5_purse 1 6 [.ref x, .int w, .int c, .int j] h ((fun _ _ => False)) (kx_X "java/lang/IndexOutOfBoundsException" h) := by
  have hT := hT0.self
  have hB := hT.bk
  refine tp_start (L0 := [some (.ref x), some (.int w), some (.int c), some (.int j), none]) (by decide) rfl hl (Nat.le_of_ble_eq_true rfl) rfl ?_
  refine r_aload0 dX5_purse_0 ?_
  refine r_iload1 dX5_purse_1 ?_
  refine r_iload2 dX5_purse_2 ?_
  exact r_xV dX5_purse_3 v_X5_31 (X_purseAt_x hl hT hbad) rfl (hT.ob) rfl rfl rfl (Nat.le_of_ble_eq_true rfl) ⟨(Nat.le_of_ble_eq_true rfl), (Nat.le_of_ble_eq_true rfl)⟩ ⟨(Nat.le_of_ble_eq_true rfl), (Nat.le_of_ble_eq_true rfl)⟩ rfl ⟨(Nat.le_of_ble_eq_true rfl), (Nat.le_of_ble_eq_true rfl)⟩ rfl

set_option maxRecDepth 100000 in
set_option maxHeartbeats 4000000 in
theorem X_purse_2 {l : Launch} {G : tp_G} {x : Nat} {h0 h : tp_H} {u : Nat → Int32} {π ρ : Nat → Nat} {us : Nat → Nat → Int32} {σ : Nat → Nat} {st len : Int32} {tx rd : Nat → Int32} (hl : l.stackTraces = false) (hT0 : kx_S G x h0 u π ρ us σ st len tx rd h) {w c : Nat} {v : Int32} (hw : w < 4) (hc : c < 4) (hbad : ¬ (0 ≤ v ∧ v ≤ 7)) : tp_Met l G mX5_purse 1 6 [.ref x, .int (nI w), .int (nI c), .int v] h ((fun _ _ => False)) (kx_X "java/lang/IllegalArgumentException" h) := by
  have hT := hT0.self
  have hB := hT.bk
  refine tp_start (L0 := [some (.ref x), some (.int (nI w)), some (.int (nI c)), some (.int v), none]) (by decide) rfl hl (Nat.le_of_ble_eq_true rfl) rfl ?_
  refine r_aload0 dX5_purse_0 ?_
  refine r_iload1 dX5_purse_1 ?_
  refine r_iload2 dX5_purse_2 ?_
  refine r_pV dX5_purse_3 v_X5_31 (X_purseAt hl hT hw hc) rfl (hT.ob) rfl rfl rfl (Nat.le_of_ble_eq_true rfl) ⟨(Nat.le_of_ble_eq_true rfl), (Nat.le_of_ble_eq_true rfl)⟩ ⟨(Nat.le_of_ble_eq_true rfl), (Nat.le_of_ble_eq_true rfl)⟩ ?_
  refine r_astore4 dX5_purse_6 (Nat.le_of_ble_eq_true rfl) rfl ?_
  refine r_iload3 dX5_purse_8 ?_
  refine r_tableOut (tgt := 140) dX5_purse_9 (tp_out (n := 7) (by decide) hbad) (by decide) ?_
  exact r_throwS (is := 248) (text := "no such property") xl_IllegalArgumentException rfl (by decide) rfl (Nat.le_of_ble_eq_true rfl) (Nat.le_of_ble_eq_true rfl) ⟨(Nat.le_of_ble_eq_true rfl), (Nat.le_of_ble_eq_true rfl)⟩ ⟨(Nat.le_of_ble_eq_true rfl), (Nat.le_of_ble_eq_true rfl)⟩ dX5_purse_140 dX5_purse_143 dX5_purse_144 dX5_purse_146 dX5_purse_149 (fun n' hn => ⟨rfl, rfl⟩)

set_option maxRecDepth 100000 in
set_option maxHeartbeats 4000000 in
theorem X_held {l : Launch} {G : tp_G} {x : Nat} {h0 h : tp_H} {u : Nat → Int32} {π ρ : Nat → Nat} {us : Nat → Nat → Int32} {σ : Nat → Nat} {st len : Int32} {tx rd : Nat → Int32} (hl : l.stackTraces = false) (hT0 : kx_S G x h0 u π ρ us σ st len tx rd h) {N j i : Nat} (hu8 : u 8 = nI N) (hN : N ≤ 8) (hj : j < N) (hi : i < 5) : tp_Met l G mX5_held 0 0 [.ref x, .int (nI j), .int (nI i)] h (tp_PR (.int (u (96 + 5 * j + i))) h) tp_NX := by
  have hT := hT0.self
  have hB := hT.bk
  refine tp_start (L0 := [some (.ref x), some (.int (nI j)), some (.int (nI i)), none]) (by decide) rfl hl (Nat.le_of_ble_eq_true rfl) rfl ?_
  refine r_aload0 dX5_held_0 ?_
  refine r_iload1 dX5_held_1 ?_
  refine r_pV dX5_held_2 v_X5_112 (X_holdAt hl hT hu8 hN hj) rfl (hT.ob) rfl rfl rfl (Nat.le_of_ble_eq_true rfl) ⟨(Nat.le_of_ble_eq_true rfl), (Nat.le_of_ble_eq_true rfl)⟩ ⟨(Nat.le_of_ble_eq_true rfl), (Nat.le_of_ble_eq_true rfl)⟩ ?_
  refine r_astore3 dX5_held_5 (Nat.le_of_ble_eq_true rfl) rfl ?_
  refine r_iload2 dX5_held_6 ?_
  rcases (show i = 0 ∨ i = 1 ∨ i = 2 ∨ i = 3 ∨ i = 4 by omega) with rfl | rfl | rfl | rfl | rfl
  · refine r_tableIn (tgt := 40) dX5_held_7 (by decide) (by decide) rfl (by decide) ?_
    refine r_aload3 dX5_held_40 ?_
    refine r_getf dX5_held_41 f_X5_128 (hB.ho (j := j) (by omega)) rfl ?_
    exact r_iret dX5_held_44 rfl ⟨(Nat.le_of_ble_eq_true rfl), (Nat.le_of_ble_eq_true rfl)⟩ ⟨rfl, rfl⟩
  · refine r_tableIn (tgt := 45) dX5_held_7 (by decide) (by decide) rfl (by decide) ?_
    refine r_aload3 dX5_held_45 ?_
    refine r_getf dX5_held_46 f_X5_131 (hB.ho (j := j) (by omega)) rfl ?_
    exact r_iret dX5_held_49 rfl ⟨(Nat.le_of_ble_eq_true rfl), (Nat.le_of_ble_eq_true rfl)⟩ ⟨rfl, rfl⟩
  · refine r_tableIn (tgt := 50) dX5_held_7 (by decide) (by decide) rfl (by decide) ?_
    refine r_aload3 dX5_held_50 ?_
    refine r_getf dX5_held_51 f_X5_250 (hB.ho (j := j) (by omega)) rfl ?_
    exact r_iret dX5_held_54 rfl ⟨(Nat.le_of_ble_eq_true rfl), (Nat.le_of_ble_eq_true rfl)⟩ ⟨rfl, rfl⟩
  · refine r_tableIn (tgt := 55) dX5_held_7 (by decide) (by decide) rfl (by decide) ?_
    refine r_aload3 dX5_held_55 ?_
    refine r_getf dX5_held_56 f_X5_118 (hB.ho (j := j) (by omega)) rfl ?_
    exact r_iret dX5_held_59 rfl ⟨(Nat.le_of_ble_eq_true rfl), (Nat.le_of_ble_eq_true rfl)⟩ ⟨rfl, rfl⟩
  · refine r_tableIn (tgt := 60) dX5_held_7 (by decide) (by decide) rfl (by decide) ?_
    refine r_aload3 dX5_held_60 ?_
    refine r_getf dX5_held_61 f_X5_251 (hB.ho (j := j) (by omega)) rfl ?_
    exact r_iret dX5_held_64 rfl ⟨(Nat.le_of_ble_eq_true rfl), (Nat.le_of_ble_eq_true rfl)⟩ ⟨rfl, rfl⟩

set_option maxRecDepth 100000 in
set_option maxHeartbeats 4000000 in
theorem X_held_1 {l : Launch} {G : tp_G} {x : Nat} {h0 h : tp_H} {u : Nat → Int32} {π ρ : Nat → Nat} {us : Nat → Nat → Int32} {σ : Nat → Nat} {st len : Int32} {tx rd : Nat → Int32} (hl : l.stackTraces = false) (hT0 : kx_S G x h0 u π ρ us σ st len tx rd h) {v i : Int32} {N : Nat} (hu8 : u 8 = nI N) (hN : N ≤ 8) (hbad : ¬ (0 ≤ v ∧ v ≤ u 8 - 1)) : tp_Met l G mX5_held 1 6 [.ref x, .int v, .int i] h ((fun _ _ => False)) (kx_X "java/lang/IndexOutOfBoundsException" h) := by
  have hT := hT0.self
  have hB := hT.bk
  refine tp_start (L0 := [some (.ref x), some (.int v), some (.int i), none]) (by decide) rfl hl (Nat.le_of_ble_eq_true rfl) rfl ?_
  refine r_aload0 dX5_held_0 ?_
  refine r_iload1 dX5_held_1 ?_
  exact r_xV dX5_held_2 v_X5_112 (X_holdAt_x hl hT hu8 hN hbad) rfl (hT.ob) rfl rfl rfl (Nat.le_of_ble_eq_true rfl) ⟨(Nat.le_of_ble_eq_true rfl), (Nat.le_of_ble_eq_true rfl)⟩ ⟨(Nat.le_of_ble_eq_true rfl), (Nat.le_of_ble_eq_true rfl)⟩ rfl ⟨(Nat.le_of_ble_eq_true rfl), (Nat.le_of_ble_eq_true rfl)⟩ rfl

set_option maxRecDepth 100000 in
set_option maxHeartbeats 4000000 in
theorem X_held_2 {l : Launch} {G : tp_G} {x : Nat} {h0 h : tp_H} {u : Nat → Int32} {π ρ : Nat → Nat} {us : Nat → Nat → Int32} {σ : Nat → Nat} {st len : Int32} {tx rd : Nat → Int32} (hl : l.stackTraces = false) (hT0 : kx_S G x h0 u π ρ us σ st len tx rd h) {N j : Nat} {v : Int32} (hu8 : u 8 = nI N) (hN : N ≤ 8) (hj : j < N) (hbad : ¬ (0 ≤ v ∧ v ≤ 4)) : tp_Met l G mX5_held 1 6 [.ref x, .int (nI j), .int v] h ((fun _ _ => False)) (kx_X "java/lang/IllegalArgumentException" h) := by
  have hT := hT0.self
  have hB := hT.bk
  refine tp_start (L0 := [some (.ref x), some (.int (nI j)), some (.int v), none]) (by decide) rfl hl (Nat.le_of_ble_eq_true rfl) rfl ?_
  refine r_aload0 dX5_held_0 ?_
  refine r_iload1 dX5_held_1 ?_
  refine r_pV dX5_held_2 v_X5_112 (X_holdAt hl hT hu8 hN hj) rfl (hT.ob) rfl rfl rfl (Nat.le_of_ble_eq_true rfl) ⟨(Nat.le_of_ble_eq_true rfl), (Nat.le_of_ble_eq_true rfl)⟩ ⟨(Nat.le_of_ble_eq_true rfl), (Nat.le_of_ble_eq_true rfl)⟩ ?_
  refine r_astore3 dX5_held_5 (Nat.le_of_ble_eq_true rfl) rfl ?_
  refine r_iload2 dX5_held_6 ?_
  refine r_tableOut (tgt := 65) dX5_held_7 (tp_out (n := 4) (by decide) hbad) (by decide) ?_
  exact r_throwS (is := 248) (text := "no such property") xl_IllegalArgumentException rfl (by decide) rfl (Nat.le_of_ble_eq_true rfl) (Nat.le_of_ble_eq_true rfl) ⟨(Nat.le_of_ble_eq_true rfl), (Nat.le_of_ble_eq_true rfl)⟩ ⟨(Nat.le_of_ble_eq_true rfl), (Nat.le_of_ble_eq_true rfl)⟩ dX5_held_65 dX5_held_68 dX5_held_69 dX5_held_71 dX5_held_74 (fun n' hn => ⟨rfl, rfl⟩)

set_option maxRecDepth 100000 in
set_option maxHeartbeats 4000000 in
theorem X_payment {l : Launch} {G : tp_G} {x : Nat} {h0 h : tp_H} {u : Nat → Int32} {π ρ : Nat → Nat} {us : Nat → Nat → Int32} {σ : Nat → Nat} {st len : Int32} {tx rd : Nat → Int32} (hl : l.stackTraces = false) (hT0 : kx_S G x h0 u π ρ us σ st len tx rd h) {P j i : Nat} (hu9 : u 9 = nI P) (hP9 : P ≤ 12) (hj : j < P) (hi : i < 6) : tp_Met l G mX5_payment 0 0 [.ref x, .int (nI j), .int (nI i)] h (tp_PR (.int (k_payn u j i)) h) tp_NX := by
  have hT := hT0.self
  have hB := hT.bk
  refine tp_start (L0 := [some (.ref x), some (.int (nI j)), some (.int (nI i)), none]) (by decide) rfl hl (Nat.le_of_ble_eq_true rfl) rfl ?_
  refine r_aload0 dX5_payment_0 ?_
  refine r_iload1 dX5_payment_1 ?_
  refine r_pV dX5_payment_2 v_X5_138 (X_paymentAt hl hT hu9 hP9 hj) rfl (hT.ob) rfl rfl rfl (Nat.le_of_ble_eq_true rfl) ⟨(Nat.le_of_ble_eq_true rfl), (Nat.le_of_ble_eq_true rfl)⟩ ⟨(Nat.le_of_ble_eq_true rfl), (Nat.le_of_ble_eq_true rfl)⟩ ?_
  refine r_astore3 dX5_payment_5 (Nat.le_of_ble_eq_true rfl) rfl ?_
  refine r_iload2 dX5_payment_6 ?_
  rcases (show i = 0 ∨ i = 1 ∨ i = 2 ∨ i = 3 ∨ i = 4 ∨ i = 5 by omega) with rfl | rfl | rfl | rfl | rfl | rfl
  · refine r_tableIn (tgt := 44) dX5_payment_7 (by decide) (by decide) rfl (by decide) ?_
    refine r_aload3 dX5_payment_44 ?_
    refine r_getf dX5_payment_45 f_X5_148 (hB.pa (j := j) (by omega)) rfl ?_
    exact r_iret dX5_payment_48 rfl ⟨(Nat.le_of_ble_eq_true rfl), (Nat.le_of_ble_eq_true rfl)⟩ ⟨by first | rfl | (show _ = some (Value.int (tp_b _)); first | (rw [tp_b_t (tp_b_n c77)]; done) | (rw [tp_b_f (tp_b_0.mp c77)]; done)), rfl⟩
  · refine r_tableIn (tgt := 49) dX5_payment_7 (by decide) (by decide) rfl (by decide) ?_
    refine r_aload3 dX5_payment_49 ?_
    refine r_getf dX5_payment_50 f_X5_151 (hB.pa (j := j) (by omega)) rfl ?_
    exact r_iret dX5_payment_53 rfl ⟨(Nat.le_of_ble_eq_true rfl), (Nat.le_of_ble_eq_true rfl)⟩ ⟨by first | rfl | (show _ = some (Value.int (tp_b _)); first | (rw [tp_b_t (tp_b_n c77)]; done) | (rw [tp_b_f (tp_b_0.mp c77)]; done)), rfl⟩
  · refine r_tableIn (tgt := 54) dX5_payment_7 (by decide) (by decide) rfl (by decide) ?_
    refine r_aload3 dX5_payment_54 ?_
    refine r_getf dX5_payment_55 f_X5_155 (hB.pa (j := j) (by omega)) rfl ?_
    exact r_iret dX5_payment_58 rfl ⟨(Nat.le_of_ble_eq_true rfl), (Nat.le_of_ble_eq_true rfl)⟩ ⟨by first | rfl | (show _ = some (Value.int (tp_b _)); first | (rw [tp_b_t (tp_b_n c77)]; done) | (rw [tp_b_f (tp_b_0.mp c77)]; done)), rfl⟩
  · refine r_tableIn (tgt := 59) dX5_payment_7 (by decide) (by decide) rfl (by decide) ?_
    refine r_aload3 dX5_payment_59 ?_
    refine r_getf dX5_payment_60 f_X5_252 (hB.pa (j := j) (by omega)) rfl ?_
    exact r_iret dX5_payment_63 rfl ⟨(Nat.le_of_ble_eq_true rfl), (Nat.le_of_ble_eq_true rfl)⟩ ⟨by first | rfl | (show _ = some (Value.int (tp_b _)); first | (rw [tp_b_t (tp_b_n c77)]; done) | (rw [tp_b_f (tp_b_0.mp c77)]; done)), rfl⟩
  · refine r_tableIn (tgt := 64) dX5_payment_7 (by decide) (by decide) rfl (by decide) ?_
    refine r_aload3 dX5_payment_64 ?_
    refine r_getf dX5_payment_65 f_X5_152 (hB.pa (j := j) (by omega)) rfl ?_
    exact r_iret dX5_payment_68 rfl ⟨(Nat.le_of_ble_eq_true rfl), (Nat.le_of_ble_eq_true rfl)⟩ ⟨by first | rfl | (show _ = some (Value.int (tp_b _)); first | (rw [tp_b_t (tp_b_n c77)]; done) | (rw [tp_b_f (tp_b_0.mp c77)]; done)), rfl⟩
  · refine r_tableIn (tgt := 69) dX5_payment_7 (by decide) (by decide) rfl (by decide) ?_
    refine r_aload0 dX5_payment_69 ?_
    refine r_getf dX5_payment_70 f_X5_10 (hT.ob) rfl ?_
    refine r_aload3 dX5_payment_73 ?_
    refine r_pV dX5_payment_74 v_X5_142 (K_mayDispute hl hB (j := j) (by omega)) rfl (hB.ob) rfl rfl rfl (Nat.le_of_ble_eq_true rfl) ⟨(Nat.le_of_ble_eq_true rfl), (Nat.le_of_ble_eq_true rfl)⟩ ⟨(Nat.le_of_ble_eq_true rfl), (Nat.le_of_ble_eq_true rfl)⟩ ?_
    refine r_if_eq (tgt := 84) dX5_payment_77 (by decide) (fun c77 => ?_) (fun c77 => ?_)
    · refine r_iconst (v := 0) dX5_payment_84 (by decide) ?_
      exact r_iret dX5_payment_85 rfl ⟨(Nat.le_of_ble_eq_true rfl), (Nat.le_of_ble_eq_true rfl)⟩ ⟨by first | rfl | (show _ = some (Value.int (tp_b _)); first | (rw [tp_b_t (tp_b_n c77)]; done) | (rw [tp_b_f (tp_b_0.mp c77)]; done)), rfl⟩
    · refine r_iconst (v := 1) dX5_payment_80 (by decide) ?_
      refine r_goto (tgt := 85) dX5_payment_81 (by decide) ?_
      exact r_iret dX5_payment_85 rfl ⟨(Nat.le_of_ble_eq_true rfl), (Nat.le_of_ble_eq_true rfl)⟩ ⟨by first | rfl | (show _ = some (Value.int (tp_b _)); first | (rw [tp_b_t (tp_b_n c77)]; done) | (rw [tp_b_f (tp_b_0.mp c77)]; done)), rfl⟩

set_option maxRecDepth 100000 in
set_option maxHeartbeats 4000000 in
theorem X_payment_1 {l : Launch} {G : tp_G} {x : Nat} {h0 h : tp_H} {u : Nat → Int32} {π ρ : Nat → Nat} {us : Nat → Nat → Int32} {σ : Nat → Nat} {st len : Int32} {tx rd : Nat → Int32} (hl : l.stackTraces = false) (hT0 : kx_S G x h0 u π ρ us σ st len tx rd h) {v i : Int32} {P : Nat} (hu9 : u 9 = nI P) (hP9 : P ≤ 12) (hbad : ¬ (0 ≤ v ∧ v ≤ u 9 - 1)) : tp_Met l G mX5_payment 1 6 [.ref x, .int v, .int i] h ((fun _ _ => False)) (kx_X "java/lang/IndexOutOfBoundsException" h) := by
  have hT := hT0.self
  have hB := hT.bk
  refine tp_start (L0 := [some (.ref x), some (.int v), some (.int i), none]) (by decide) rfl hl (Nat.le_of_ble_eq_true rfl) rfl ?_
  refine r_aload0 dX5_payment_0 ?_
  refine r_iload1 dX5_payment_1 ?_
  exact r_xV dX5_payment_2 v_X5_138 (X_paymentAt_x hl hT hu9 hP9 hbad) rfl (hT.ob) rfl rfl rfl (Nat.le_of_ble_eq_true rfl) ⟨(Nat.le_of_ble_eq_true rfl), (Nat.le_of_ble_eq_true rfl)⟩ ⟨(Nat.le_of_ble_eq_true rfl), (Nat.le_of_ble_eq_true rfl)⟩ rfl ⟨(Nat.le_of_ble_eq_true rfl), (Nat.le_of_ble_eq_true rfl)⟩ rfl

set_option maxRecDepth 100000 in
set_option maxHeartbeats 4000000 in
theorem X_payment_2 {l : Launch} {G : tp_G} {x : Nat} {h0 h : tp_H} {u : Nat → Int32} {π ρ : Nat → Nat} {us : Nat → Nat → Int32} {σ : Nat → Nat} {st len : Int32} {tx rd : Nat → Int32} (hl : l.stackTraces = false) (hT0 : kx_S G x h0 u π ρ us σ st len tx rd h) {P j : Nat} {v : Int32} (hu9 : u 9 = nI P) (hP9 : P ≤ 12) (hj : j < P) (hbad : ¬ (0 ≤ v ∧ v ≤ 5)) : tp_Met l G mX5_payment 1 6 [.ref x, .int (nI j), .int v] h ((fun _ _ => False)) (kx_X "java/lang/IllegalArgumentException" h) := by
  have hT := hT0.self
  have hB := hT.bk
  refine tp_start (L0 := [some (.ref x), some (.int (nI j)), some (.int v), none]) (by decide) rfl hl (Nat.le_of_ble_eq_true rfl) rfl ?_
  refine r_aload0 dX5_payment_0 ?_
  refine r_iload1 dX5_payment_1 ?_
  refine r_pV dX5_payment_2 v_X5_138 (X_paymentAt hl hT hu9 hP9 hj) rfl (hT.ob) rfl rfl rfl (Nat.le_of_ble_eq_true rfl) ⟨(Nat.le_of_ble_eq_true rfl), (Nat.le_of_ble_eq_true rfl)⟩ ⟨(Nat.le_of_ble_eq_true rfl), (Nat.le_of_ble_eq_true rfl)⟩ ?_
  refine r_astore3 dX5_payment_5 (Nat.le_of_ble_eq_true rfl) rfl ?_
  refine r_iload2 dX5_payment_6 ?_
  refine r_tableOut (tgt := 86) dX5_payment_7 (tp_out (n := 5) (by decide) hbad) (by decide) ?_
  exact r_throwS (is := 248) (text := "no such property") xl_IllegalArgumentException rfl (by decide) rfl (Nat.le_of_ble_eq_true rfl) (Nat.le_of_ble_eq_true rfl) ⟨(Nat.le_of_ble_eq_true rfl), (Nat.le_of_ble_eq_true rfl)⟩ ⟨(Nat.le_of_ble_eq_true rfl), (Nat.le_of_ble_eq_true rfl)⟩ dX5_payment_86 dX5_payment_89 dX5_payment_90 dX5_payment_92 dX5_payment_95 (fun n' hn => ⟨rfl, rfl⟩)

set_option maxRecDepth 100000 in
set_option maxHeartbeats 4000000 in
theorem X_count {l : Launch} {G : tp_G} {x : Nat} {h0 h : tp_H} {u : Nat → Int32} {π ρ : Nat → Nat} {us : Nat → Nat → Int32} {σ : Nat → Nat} {st len : Int32} {tx rd : Nat → Int32} (hl : l.stackTraces = false) (hT0 : kx_S G x h0 u π ρ us σ st len tx rd h) {P j : Nat} (hu9 : u 9 = nI P) (hP9 : P ≤ 12) (hj : j < 14) : tp_Met l G mX5_count 0 0 [.ref x, .int (nI j)] h (tp_PR (.int (z_count u st j)) h) tp_NX := by
  have hT := hT0.self
  have hB := hT.bk
  refine tp_start (L0 := [some (.ref x), some (.int (nI j))]) (by decide) rfl hl (Nat.le_of_ble_eq_true rfl) rfl ?_
  refine r_iload1 dX5_count_0 ?_
  rcases (show j = 0 ∨ j = 1 ∨ j = 2 ∨ j = 3 ∨ j = 4 ∨ j = 5 ∨ j = 6 ∨ j = 7 ∨ j = 8 ∨ j = 9 ∨ j = 10 ∨ j = 11 ∨ j = 12 ∨ j = 13 by omega) with rfl | rfl | rfl | rfl | rfl | rfl | rfl | rfl | rfl | rfl | rfl | rfl | rfl | rfl
  · refine r_tableIn (tgt := 72) dX5_count_1 (by decide) (by decide) rfl (by decide) ?_
    refine r_aload0 dX5_count_72 ?_
    refine r_getf dX5_count_73 f_X5_10 (hT.ob) rfl ?_
    refine r_getf dX5_count_76 f_X5_85 (hB.ob) rfl ?_
    exact r_iret dX5_count_79 rfl ⟨(Nat.le_of_ble_eq_true rfl), (Nat.le_of_ble_eq_true rfl)⟩ ⟨by first | rfl | (show _ = some (Value.int (z_disputed u (z_n (u 9)))); rw [hu9, z_nI (by omega)]; done), rfl⟩
  · refine r_tableIn (tgt := 80) dX5_count_1 (by decide) (by decide) rfl (by decide) ?_
    refine r_aload0 dX5_count_80 ?_
    refine r_getf dX5_count_81 f_X5_10 (hT.ob) rfl ?_
    refine r_getf dX5_count_84 f_X5_253 (hB.ob) rfl ?_
    exact r_iret dX5_count_87 rfl ⟨(Nat.le_of_ble_eq_true rfl), (Nat.le_of_ble_eq_true rfl)⟩ ⟨by first | rfl | (show _ = some (Value.int (z_disputed u (z_n (u 9)))); rw [hu9, z_nI (by omega)]; done), rfl⟩
  · refine r_tableIn (tgt := 88) dX5_count_1 (by decide) (by decide) rfl (by decide) ?_
    refine r_aload0 dX5_count_88 ?_
    refine r_getf dX5_count_89 f_X5_10 (hT.ob) rfl ?_
    refine r_getf dX5_count_92 f_X5_123 (hB.ob) rfl ?_
    exact r_iret dX5_count_95 rfl ⟨(Nat.le_of_ble_eq_true rfl), (Nat.le_of_ble_eq_true rfl)⟩ ⟨by first | rfl | (show _ = some (Value.int (z_disputed u (z_n (u 9)))); rw [hu9, z_nI (by omega)]; done), rfl⟩
  · refine r_tableIn (tgt := 96) dX5_count_1 (by decide) (by decide) rfl (by decide) ?_
    refine r_aload0 dX5_count_96 ?_
    refine r_getf dX5_count_97 f_X5_10 (hT.ob) rfl ?_
    refine r_pV dX5_count_100 v_X5_256 (K_disputedPayments hl hB hu9 hP9) rfl (hB.ob) rfl rfl rfl (Nat.le_of_ble_eq_true rfl) ⟨(Nat.le_of_ble_eq_true rfl), (Nat.le_of_ble_eq_true rfl)⟩ ⟨(Nat.le_of_ble_eq_true rfl), (Nat.le_of_ble_eq_true rfl)⟩ ?_
    exact r_iret dX5_count_103 rfl ⟨(Nat.le_of_ble_eq_true rfl), (Nat.le_of_ble_eq_true rfl)⟩ ⟨by first | rfl | (show _ = some (Value.int (z_disputed u (z_n (u 9)))); rw [hu9, z_nI (by omega)]; done), rfl⟩
  · refine r_tableIn (tgt := 104) dX5_count_1 (by decide) (by decide) rfl (by decide) ?_
    refine r_aload0 dX5_count_104 ?_
    refine r_getf dX5_count_105 f_X5_10 (hT.ob) rfl ?_
    refine r_getf dX5_count_108 f_X5_259 (hB.ob) rfl ?_
    exact r_iret dX5_count_111 rfl ⟨(Nat.le_of_ble_eq_true rfl), (Nat.le_of_ble_eq_true rfl)⟩ ⟨by first | rfl | (show _ = some (Value.int (z_disputed u (z_n (u 9)))); rw [hu9, z_nI (by omega)]; done), rfl⟩
  · refine r_tableIn (tgt := 112) dX5_count_1 (by decide) (by decide) rfl (by decide) ?_
    refine r_aload0 dX5_count_112 ?_
    refine r_getf dX5_count_113 f_X5_10 (hT.ob) rfl ?_
    refine r_getf dX5_count_116 f_X5_262 (hB.ob) rfl ?_
    exact r_iret dX5_count_119 rfl ⟨(Nat.le_of_ble_eq_true rfl), (Nat.le_of_ble_eq_true rfl)⟩ ⟨by first | rfl | (show _ = some (Value.int (z_disputed u (z_n (u 9)))); rw [hu9, z_nI (by omega)]; done), rfl⟩
  · refine r_tableIn (tgt := 120) dX5_count_1 (by decide) (by decide) rfl (by decide) ?_
    refine r_aload0 dX5_count_120 ?_
    refine r_getf dX5_count_121 f_X5_10 (hT.ob) rfl ?_
    refine r_getf dX5_count_124 f_X5_265 (hB.ob) rfl ?_
    exact r_iret dX5_count_127 rfl ⟨(Nat.le_of_ble_eq_true rfl), (Nat.le_of_ble_eq_true rfl)⟩ ⟨by first | rfl | (show _ = some (Value.int (z_disputed u (z_n (u 9)))); rw [hu9, z_nI (by omega)]; done), rfl⟩
  · refine r_tableIn (tgt := 128) dX5_count_1 (by decide) (by decide) rfl (by decide) ?_
    refine r_aload0 dX5_count_128 ?_
    refine r_getf dX5_count_129 f_X5_10 (hT.ob) rfl ?_
    refine r_getf dX5_count_132 f_X5_268 (hB.ob) rfl ?_
    exact r_iret dX5_count_135 rfl ⟨(Nat.le_of_ble_eq_true rfl), (Nat.le_of_ble_eq_true rfl)⟩ ⟨by first | rfl | (show _ = some (Value.int (z_disputed u (z_n (u 9)))); rw [hu9, z_nI (by omega)]; done), rfl⟩
  · refine r_tableIn (tgt := 136) dX5_count_1 (by decide) (by decide) rfl (by decide) ?_
    refine r_aload0 dX5_count_136 ?_
    refine r_getf dX5_count_137 f_X5_10 (hT.ob) rfl ?_
    refine r_getf dX5_count_140 f_X5_271 (hB.ob) rfl ?_
    exact r_iret dX5_count_143 rfl ⟨(Nat.le_of_ble_eq_true rfl), (Nat.le_of_ble_eq_true rfl)⟩ ⟨by first | rfl | (show _ = some (Value.int (z_disputed u (z_n (u 9)))); rw [hu9, z_nI (by omega)]; done), rfl⟩
  · refine r_tableIn (tgt := 144) dX5_count_1 (by decide) (by decide) rfl (by decide) ?_
    refine r_aload0 dX5_count_144 ?_
    refine r_getf dX5_count_145 f_X5_10 (hT.ob) rfl ?_
    refine r_getf dX5_count_148 f_X5_73 (hB.ob) rfl ?_
    refine r_iload1 dX5_count_151 ?_
    refine r_bipush (v := 8) dX5_count_152 (by decide) ?_
    refine r_isub dX5_count_154 ?_
    refine r_iald dX5_count_155 hB.ra (i := 1) rfl (by omega) (by decide) ?_
    exact r_iret dX5_count_156 rfl ⟨(Nat.le_of_ble_eq_true rfl), (Nat.le_of_ble_eq_true rfl)⟩ ⟨by first | rfl | (show _ = some (Value.int (z_disputed u (z_n (u 9)))); rw [hu9, z_nI (by omega)]; done), rfl⟩
  · refine r_tableIn (tgt := 144) dX5_count_1 (by decide) (by decide) rfl (by decide) ?_
    refine r_aload0 dX5_count_144 ?_
    refine r_getf dX5_count_145 f_X5_10 (hT.ob) rfl ?_
    refine r_getf dX5_count_148 f_X5_73 (hB.ob) rfl ?_
    refine r_iload1 dX5_count_151 ?_
    refine r_bipush (v := 8) dX5_count_152 (by decide) ?_
    refine r_isub dX5_count_154 ?_
    refine r_iald dX5_count_155 hB.ra (i := 2) rfl (by omega) (by decide) ?_
    exact r_iret dX5_count_156 rfl ⟨(Nat.le_of_ble_eq_true rfl), (Nat.le_of_ble_eq_true rfl)⟩ ⟨by first | rfl | (show _ = some (Value.int (z_disputed u (z_n (u 9)))); rw [hu9, z_nI (by omega)]; done), rfl⟩
  · refine r_tableIn (tgt := 144) dX5_count_1 (by decide) (by decide) rfl (by decide) ?_
    refine r_aload0 dX5_count_144 ?_
    refine r_getf dX5_count_145 f_X5_10 (hT.ob) rfl ?_
    refine r_getf dX5_count_148 f_X5_73 (hB.ob) rfl ?_
    refine r_iload1 dX5_count_151 ?_
    refine r_bipush (v := 8) dX5_count_152 (by decide) ?_
    refine r_isub dX5_count_154 ?_
    refine r_iald dX5_count_155 hB.ra (i := 3) rfl (by omega) (by decide) ?_
    exact r_iret dX5_count_156 rfl ⟨(Nat.le_of_ble_eq_true rfl), (Nat.le_of_ble_eq_true rfl)⟩ ⟨by first | rfl | (show _ = some (Value.int (z_disputed u (z_n (u 9)))); rw [hu9, z_nI (by omega)]; done), rfl⟩
  · refine r_tableIn (tgt := 157) dX5_count_1 (by decide) (by decide) rfl (by decide) ?_
    refine r_aload0 dX5_count_157 ?_
    refine r_getf dX5_count_158 f_X5_10 (hT.ob) rfl ?_
    refine r_getf dX5_count_161 f_X5_274 (hB.ob) rfl ?_
    exact r_iret dX5_count_164 rfl ⟨(Nat.le_of_ble_eq_true rfl), (Nat.le_of_ble_eq_true rfl)⟩ ⟨by first | rfl | (show _ = some (Value.int (z_disputed u (z_n (u 9)))); rw [hu9, z_nI (by omega)]; done), rfl⟩
  · refine r_tableIn (tgt := 165) dX5_count_1 (by decide) (by decide) rfl (by decide) ?_
    refine r_aload0 dX5_count_165 ?_
    refine r_getf dX5_count_166 f_X5_217 (hT.ob) rfl ?_
    exact r_iret dX5_count_169 rfl ⟨(Nat.le_of_ble_eq_true rfl), (Nat.le_of_ble_eq_true rfl)⟩ ⟨by first | rfl | (show _ = some (Value.int (z_disputed u (z_n (u 9)))); rw [hu9, z_nI (by omega)]; done), rfl⟩

set_option maxRecDepth 100000 in
set_option maxHeartbeats 4000000 in
theorem X_count_1 {l : Launch} {G : tp_G} {x : Nat} {h0 h : tp_H} {u : Nat → Int32} {π ρ : Nat → Nat} {us : Nat → Nat → Int32} {σ : Nat → Nat} {st len : Int32} {tx rd : Nat → Int32} (hl : l.stackTraces = false) (hT0 : kx_S G x h0 u π ρ us σ st len tx rd h) {v : Int32} (hbad : ¬ (0 ≤ v ∧ v ≤ 13)) : tp_Met l G mX5_count 1 6 [.ref x, .int v] h ((fun _ _ => False)) (kx_X "java/lang/IllegalArgumentException" h) := by
  have hT := hT0.self
  have hB := hT.bk
  refine tp_start (L0 := [some (.ref x), some (.int v)]) (by decide) rfl hl (Nat.le_of_ble_eq_true rfl) rfl ?_
  refine r_iload1 dX5_count_0 ?_
  refine r_tableOut (tgt := 170) dX5_count_1 (tp_out (n := 13) (by decide) hbad) (by decide) ?_
  exact r_throwSW (is := 277) (text := "no such number") xl_IllegalArgumentException rfl (by decide) rfl (Nat.le_of_ble_eq_true rfl) (Nat.le_of_ble_eq_true rfl) ⟨(Nat.le_of_ble_eq_true rfl), (Nat.le_of_ble_eq_true rfl)⟩ ⟨(Nat.le_of_ble_eq_true rfl), (Nat.le_of_ble_eq_true rfl)⟩ dX5_count_170 dX5_count_173 dX5_count_174 dX5_count_177 dX5_count_180 (fun n' hn => ⟨rfl, rfl⟩)

set_option maxRecDepth 100000 in
set_option maxHeartbeats 4000000 in
theorem X_setting {l : Launch} {G : tp_G} {x : Nat} {h0 h : tp_H} {u : Nat → Int32} {π ρ : Nat → Nat} {us : Nat → Nat → Int32} {σ : Nat → Nat} {st len : Int32} {tx rd : Nat → Int32} (hl : l.stackTraces = false) (hT0 : kx_S G x h0 u π ρ us σ st len tx rd h) {j : Nat} (hj : j < 4) : tp_Met l G mX5_setting 0 0 [.ref x, .int (nI j)] h (tp_PR (.int (u j)) h) tp_NX := by
  have hT := hT0.self
  have hB := hT.bk
  refine tp_start (L0 := [some (.ref x), some (.int (nI j))]) (by decide) rfl hl (Nat.le_of_ble_eq_true rfl) rfl ?_
  refine r_iload1 dX5_setting_0 ?_
  refine r_if_lt (tgt := 9) dX5_setting_1 (by decide) (fun c1 => ?_) (fun c1 => ?_)
  · exact absurd c1 (nI_pos (by omega))
  · refine r_iload1 dX5_setting_4 ?_
    refine r_iconst (v := 4) dX5_setting_5 (by decide) ?_
    refine r_icmp_lt (tgt := 19) dX5_setting_6 (by decide) (fun c6 => ?_) (fun c6 => ?_)
    · refine r_aload0 dX5_setting_19 ?_
      refine r_getf dX5_setting_20 f_X5_10 (hT.ob) rfl ?_
      refine r_getf dX5_setting_23 f_X5_88 (hB.ob) rfl ?_
      refine r_iload1 dX5_setting_26 ?_
      refine r_iald dX5_setting_27 hB.se (i := j) rfl (by omega) (by decide) ?_
      rw [kS_at (by omega)]
      exact r_iret dX5_setting_28 rfl ⟨(Nat.le_of_ble_eq_true rfl), (Nat.le_of_ble_eq_true rfl)⟩ ⟨rfl, rfl⟩
    · rw [show (4 : Int32) = nI 4 from rfl, tp_lt (by omega) (by omega)] at c6; omega

set_option maxRecDepth 100000 in
set_option maxHeartbeats 4000000 in
theorem X_setting_1 {l : Launch} {G : tp_G} {x : Nat} {h0 h : tp_H} {u : Nat → Int32} {π ρ : Nat → Nat} {us : Nat → Nat → Int32} {σ : Nat → Nat} {st len : Int32} {tx rd : Nat → Int32} (hl : l.stackTraces = false) (hT0 : kx_S G x h0 u π ρ us σ st len tx rd h) {s : Int32} (hbad : ¬ (0 ≤ s ∧ s ≤ 3)) : tp_Met l G mX5_setting 1 6 [.ref x, .int s] h ((fun _ _ => False)) (kx_X "java/lang/IndexOutOfBoundsException" h) := by
  have hT := hT0.self
  have hB := hT.bk
  refine tp_start (L0 := [some (.ref x), some (.int s)]) (by decide) rfl hl (Nat.le_of_ble_eq_true rfl) rfl ?_
  refine r_iload1 dX5_setting_0 ?_
  refine r_if_lt (tgt := 9) dX5_setting_1 (by decide) (fun c1 => ?_) (fun c1 => ?_)
  · exact r_throwS (is := 184) (text := "no such setting") xl_IndexOutOfBoundsException rfl (by decide) rfl (Nat.le_of_ble_eq_true rfl) (Nat.le_of_ble_eq_true rfl) ⟨(Nat.le_of_ble_eq_true rfl), (Nat.le_of_ble_eq_true rfl)⟩ ⟨(Nat.le_of_ble_eq_true rfl), (Nat.le_of_ble_eq_true rfl)⟩ dX5_setting_9 dX5_setting_12 dX5_setting_13 dX5_setting_15 dX5_setting_18 (fun n' hn => ⟨rfl, rfl⟩)
  · refine r_iload1 dX5_setting_4 ?_
    refine r_iconst (v := 4) dX5_setting_5 (by decide) ?_
    refine r_icmp_lt (tgt := 19) dX5_setting_6 (by decide) (fun c6 => ?_) (fun c6 => ?_)
    · exact absurd ⟨Int32.not_lt.mp c1, tp_lt4 c6⟩ hbad
    · exact r_throwS (is := 184) (text := "no such setting") xl_IndexOutOfBoundsException rfl (by decide) rfl (Nat.le_of_ble_eq_true rfl) (Nat.le_of_ble_eq_true rfl) ⟨(Nat.le_of_ble_eq_true rfl), (Nat.le_of_ble_eq_true rfl)⟩ ⟨(Nat.le_of_ble_eq_true rfl), (Nat.le_of_ble_eq_true rfl)⟩ dX5_setting_9 dX5_setting_12 dX5_setting_13 dX5_setting_15 dX5_setting_18 (fun n' hn => ⟨rfl, rfl⟩)

set_option maxRecDepth 100000 in
set_option maxHeartbeats 4000000 in
theorem X_ifExchanged {l : Launch} {G : tp_G} {x : Nat} {h0 h : tp_H} {u : Nat → Int32} {π ρ : Nat → Nat} {us : Nat → Nat → Int32} {σ : Nat → Nat} {st len : Int32} {tx rd : Nat → Int32} (hl : l.stackTraces = false) (hT0 : kx_S G x h0 u π ρ us σ st len tx rd h) {w f t : Nat} {a : Int32} (hw : w < 4) (hf : f < 4) (ht : t < 4) (ha : 1 ≤ a ∧ a ≤ 99999) : tp_Met l G mX5_ifExchanged 0 0 [.ref x, .int (nI w), .int (nI f), .int (nI t), .int a] h (tp_PR (.int (if f = t ∨ (0 < f ∧ 0 < t) then -1 else k_net u w f t a)) h) tp_NX := by
  have hT := hT0.self
  have hB := hT.bk
  refine tp_start (L0 := [some (.ref x), some (.int (nI w)), some (.int (nI f)), some (.int (nI t)), some (.int a), none, none]) (by decide) rfl hl (Nat.le_of_ble_eq_true rfl) rfl ?_
  refine r_aload0 dX5_ifExchanged_0 ?_
  refine r_iload1 dX5_ifExchanged_1 ?_
  refine r_iload2 dX5_ifExchanged_2 ?_
  refine r_pV dX5_ifExchanged_3 v_X5_31 (X_purseAt hl hT hw hf) rfl (hT.ob) rfl rfl rfl (Nat.le_of_ble_eq_true rfl) ⟨(Nat.le_of_ble_eq_true rfl), (Nat.le_of_ble_eq_true rfl)⟩ ⟨(Nat.le_of_ble_eq_true rfl), (Nat.le_of_ble_eq_true rfl)⟩ ?_
  refine r_astore5 dX5_ifExchanged_6 (Nat.le_of_ble_eq_true rfl) rfl ?_
  refine r_aload0 dX5_ifExchanged_8 ?_
  refine r_iload1 dX5_ifExchanged_9 ?_
  refine r_iload3 dX5_ifExchanged_10 ?_
  refine r_pV dX5_ifExchanged_11 v_X5_31 (X_purseAt hl hT hw ht) rfl (hT.ob) rfl rfl rfl (Nat.le_of_ble_eq_true rfl) ⟨(Nat.le_of_ble_eq_true rfl), (Nat.le_of_ble_eq_true rfl)⟩ ⟨(Nat.le_of_ble_eq_true rfl), (Nat.le_of_ble_eq_true rfl)⟩ ?_
  refine r_astore6 dX5_ifExchanged_14 (Nat.le_of_ble_eq_true rfl) rfl ?_
  refine r_aload0 dX5_ifExchanged_16 ?_
  refine r_iload4 dX5_ifExchanged_17 ?_
  refine r_sV0 dX5_ifExchanged_19 v_X5_35 (X_requireAmount hl hT ha) rfl (hT.ob) rfl rfl rfl (Nat.le_of_ble_eq_true rfl) ⟨(Nat.le_of_ble_eq_true rfl), (Nat.le_of_ble_eq_true rfl)⟩ ⟨(Nat.le_of_ble_eq_true rfl), (Nat.le_of_ble_eq_true rfl)⟩ (fun h1 hP => ?_)
  subst hP
  refine r_aload0 dX5_ifExchanged_22 ?_
  refine r_getf dX5_ifExchanged_23 f_X5_10 (hT.ob) rfl ?_
  refine r_aload5 dX5_ifExchanged_26 ?_
  refine r_aload6 dX5_ifExchanged_28 ?_
  refine r_pV dX5_ifExchanged_30 v_X5_279 (K_isPair hl hB hw hf ht) rfl (hB.ob) rfl rfl rfl (Nat.le_of_ble_eq_true rfl) ⟨(Nat.le_of_ble_eq_true rfl), (Nat.le_of_ble_eq_true rfl)⟩ ⟨(Nat.le_of_ble_eq_true rfl), (Nat.le_of_ble_eq_true rfl)⟩ ?_
  refine r_if_eq (tgt := 52) dX5_ifExchanged_33 (by decide) (fun c33 => ?_) (fun c33 => ?_)
  · refine r_iconst (v := (-1)) dX5_ifExchanged_52 (by decide) ?_
    exact r_iret dX5_ifExchanged_53 rfl ⟨(Nat.le_of_ble_eq_true rfl), (Nat.le_of_ble_eq_true rfl)⟩ ⟨by first | (rw [if_neg (tp_b_n c33)]; done) | (rw [if_pos (Classical.not_not.mp (tp_b_0.mp c33))]; done), rfl⟩
  · refine r_aload0 dX5_ifExchanged_36 ?_
    refine r_getf dX5_ifExchanged_37 f_X5_10 (hT.ob) rfl ?_
    refine r_aload5 dX5_ifExchanged_40 ?_
    refine r_aload6 dX5_ifExchanged_42 ?_
    refine r_iload4 dX5_ifExchanged_44 ?_
    refine r_pV dX5_ifExchanged_46 v_X5_283 (K_netOf hl hB hw hf ht) rfl (hB.ob) rfl rfl rfl (Nat.le_of_ble_eq_true rfl) ⟨(Nat.le_of_ble_eq_true rfl), (Nat.le_of_ble_eq_true rfl)⟩ ⟨(Nat.le_of_ble_eq_true rfl), (Nat.le_of_ble_eq_true rfl)⟩ ?_
    refine r_goto (tgt := 53) dX5_ifExchanged_49 (by decide) ?_
    exact r_iret dX5_ifExchanged_53 rfl ⟨(Nat.le_of_ble_eq_true rfl), (Nat.le_of_ble_eq_true rfl)⟩ ⟨by first | (rw [if_neg (tp_b_n c33)]; done) | (rw [if_pos (Classical.not_not.mp (tp_b_0.mp c33))]; done), rfl⟩

set_option maxRecDepth 100000 in
set_option maxHeartbeats 4000000 in
theorem X_ifExchanged_1 {l : Launch} {G : tp_G} {x : Nat} {h0 h : tp_H} {u : Nat → Int32} {π ρ : Nat → Nat} {us : Nat → Nat → Int32} {σ : Nat → Nat} {st len : Int32} {tx rd : Nat → Int32} (hl : l.stackTraces = false) (hT0 : kx_S G x h0 u π ρ us σ st len tx rd h) {w f t a : Int32} (hbad : ¬ ((0 ≤ w ∧ w ≤ 3) ∧ (0 ≤ f ∧ f ≤ 3))) : tp_Met l G mX5_ifExchanged 1 6 [.ref x, .int w, .int f, .int t, .int a] h ((fun _ _ => False)) (kx_X "java/lang/IndexOutOfBoundsException" h) := by
  have hT := hT0.self
  have hB := hT.bk
  refine tp_start (L0 := [some (.ref x), some (.int w), some (.int f), some (.int t), some (.int a), none, none]) (by decide) rfl hl (Nat.le_of_ble_eq_true rfl) rfl ?_
  refine r_aload0 dX5_ifExchanged_0 ?_
  refine r_iload1 dX5_ifExchanged_1 ?_
  refine r_iload2 dX5_ifExchanged_2 ?_
  exact r_xV dX5_ifExchanged_3 v_X5_31 (X_purseAt_x hl hT hbad) rfl (hT.ob) rfl rfl rfl (Nat.le_of_ble_eq_true rfl) ⟨(Nat.le_of_ble_eq_true rfl), (Nat.le_of_ble_eq_true rfl)⟩ ⟨(Nat.le_of_ble_eq_true rfl), (Nat.le_of_ble_eq_true rfl)⟩ rfl ⟨(Nat.le_of_ble_eq_true rfl), (Nat.le_of_ble_eq_true rfl)⟩ rfl

set_option maxRecDepth 100000 in
set_option maxHeartbeats 4000000 in
theorem X_ifExchanged_1b {l : Launch} {G : tp_G} {x : Nat} {h0 h : tp_H} {u : Nat → Int32} {π ρ : Nat → Nat} {us : Nat → Nat → Int32} {σ : Nat → Nat} {st len : Int32} {tx rd : Nat → Int32} (hl : l.stackTraces = false) (hT0 : kx_S G x h0 u π ρ us σ st len tx rd h) {w f : Nat} {t a : Int32} (hw : w < 4) (hf : f < 4) (hbad : ¬ (0 ≤ t ∧ t ≤ 3)) : tp_Met l G mX5_ifExchanged 1 6 [.ref x, .int (nI w), .int (nI f), .int t, .int a] h ((fun _ _ => False)) (kx_X "java/lang/IndexOutOfBoundsException" h) := by
  have hT := hT0.self
  have hB := hT.bk
  refine tp_start (L0 := [some (.ref x), some (.int (nI w)), some (.int (nI f)), some (.int t), some (.int a), none, none]) (by decide) rfl hl (Nat.le_of_ble_eq_true rfl) rfl ?_
  refine r_aload0 dX5_ifExchanged_0 ?_
  refine r_iload1 dX5_ifExchanged_1 ?_
  refine r_iload2 dX5_ifExchanged_2 ?_
  refine r_pV dX5_ifExchanged_3 v_X5_31 (X_purseAt hl hT hw hf) rfl (hT.ob) rfl rfl rfl (Nat.le_of_ble_eq_true rfl) ⟨(Nat.le_of_ble_eq_true rfl), (Nat.le_of_ble_eq_true rfl)⟩ ⟨(Nat.le_of_ble_eq_true rfl), (Nat.le_of_ble_eq_true rfl)⟩ ?_
  refine r_astore5 dX5_ifExchanged_6 (Nat.le_of_ble_eq_true rfl) rfl ?_
  refine r_aload0 dX5_ifExchanged_8 ?_
  refine r_iload1 dX5_ifExchanged_9 ?_
  refine r_iload3 dX5_ifExchanged_10 ?_
  exact r_xV dX5_ifExchanged_11 v_X5_31 (X_purseAt_x hl hT (fun q => hbad q.2)) rfl (hT.ob) rfl rfl rfl (Nat.le_of_ble_eq_true rfl) ⟨(Nat.le_of_ble_eq_true rfl), (Nat.le_of_ble_eq_true rfl)⟩ ⟨(Nat.le_of_ble_eq_true rfl), (Nat.le_of_ble_eq_true rfl)⟩ rfl ⟨(Nat.le_of_ble_eq_true rfl), (Nat.le_of_ble_eq_true rfl)⟩ rfl

set_option maxRecDepth 100000 in
set_option maxHeartbeats 4000000 in
theorem X_ifExchanged_2 {l : Launch} {G : tp_G} {x : Nat} {h0 h : tp_H} {u : Nat → Int32} {π ρ : Nat → Nat} {us : Nat → Nat → Int32} {σ : Nat → Nat} {st len : Int32} {tx rd : Nat → Int32} (hl : l.stackTraces = false) (hT0 : kx_S G x h0 u π ρ us σ st len tx rd h) {w f t : Nat} {a : Int32} (hw : w < 4) (hf : f < 4) (ht : t < 4) (hbad : ¬ (1 ≤ a ∧ a ≤ 99999)) : tp_Met l G mX5_ifExchanged 1 6 [.ref x, .int (nI w), .int (nI f), .int (nI t), .int a] h ((fun _ _ => False)) (kx_X "java/lang/IllegalArgumentException" h) := by
  have hT := hT0.self
  have hB := hT.bk
  refine tp_start (L0 := [some (.ref x), some (.int (nI w)), some (.int (nI f)), some (.int (nI t)), some (.int a), none, none]) (by decide) rfl hl (Nat.le_of_ble_eq_true rfl) rfl ?_
  refine r_aload0 dX5_ifExchanged_0 ?_
  refine r_iload1 dX5_ifExchanged_1 ?_
  refine r_iload2 dX5_ifExchanged_2 ?_
  refine r_pV dX5_ifExchanged_3 v_X5_31 (X_purseAt hl hT hw hf) rfl (hT.ob) rfl rfl rfl (Nat.le_of_ble_eq_true rfl) ⟨(Nat.le_of_ble_eq_true rfl), (Nat.le_of_ble_eq_true rfl)⟩ ⟨(Nat.le_of_ble_eq_true rfl), (Nat.le_of_ble_eq_true rfl)⟩ ?_
  refine r_astore5 dX5_ifExchanged_6 (Nat.le_of_ble_eq_true rfl) rfl ?_
  refine r_aload0 dX5_ifExchanged_8 ?_
  refine r_iload1 dX5_ifExchanged_9 ?_
  refine r_iload3 dX5_ifExchanged_10 ?_
  refine r_pV dX5_ifExchanged_11 v_X5_31 (X_purseAt hl hT hw ht) rfl (hT.ob) rfl rfl rfl (Nat.le_of_ble_eq_true rfl) ⟨(Nat.le_of_ble_eq_true rfl), (Nat.le_of_ble_eq_true rfl)⟩ ⟨(Nat.le_of_ble_eq_true rfl), (Nat.le_of_ble_eq_true rfl)⟩ ?_
  refine r_astore6 dX5_ifExchanged_14 (Nat.le_of_ble_eq_true rfl) rfl ?_
  refine r_aload0 dX5_ifExchanged_16 ?_
  refine r_iload4 dX5_ifExchanged_17 ?_
  exact r_xV dX5_ifExchanged_19 v_X5_35 (X_requireAmount_x hl hT hbad) rfl (hT.ob) rfl rfl rfl (Nat.le_of_ble_eq_true rfl) ⟨(Nat.le_of_ble_eq_true rfl), (Nat.le_of_ble_eq_true rfl)⟩ ⟨(Nat.le_of_ble_eq_true rfl), (Nat.le_of_ble_eq_true rfl)⟩ rfl ⟨(Nat.le_of_ble_eq_true rfl), (Nat.le_of_ble_eq_true rfl)⟩ rfl

set_option maxRecDepth 100000 in
set_option maxHeartbeats 4000000 in
theorem X_needed_lp {l : Launch} {G : tp_G} {x : Nat} {h9 h : tp_H} {u : Nat → Int32} {π ρ : Nat → Nat} {us : Nat → Nat → Int32} {σ : Nat → Nat} {st len : Int32} {tx rd : Nat → Int32} (hl : l.stackTraces = false) (hT0 : kx_S G x h9 u π ρ us σ st len tx rd h) {w c a r s : Nat} (hw : w < 4) (hc : c < 4) (h0c : 0 < c) (hr : k_rate u w c = nI r) (hr0 : 100 ≤ r ∧ r ≤ 2000) (hs : u 1 = nI s) (hs2 : s ≤ 100) (ha : 1 ≤ a ∧ a ≤ 9999) : ∀ d (lo : Nat), z_net r s lo < a → a ≤ z_net r s (lo + 2 ^ d) → lo + 2 ^ d ≤ 131072 → tp_Run l G mX5_needed (tp_rm mX5_needed 0 0) (tp_QM G 0 0 (tp_PR (.int (nI (z_need r s a))) h) tp_NX) 0 0 h 47 [some (.ref x), some (.int (nI w)), some (.int (nI c)), some (.int (nI a)), some (.ref (kp (x + 1) w c)), some (.ref (kp (x + 1) w 0)), some (.int (nI lo)), some (.int (nI (2 ^ d / 2)))] [] := by
  intro d
  have hT := hT0.self
  have hB := hT.bk
  induction d with
  | zero =>
    intro lo h1 h2 h3
    refine r_iload7 dX5_needed_47 ?_
    refine r_if_le (tgt := 88) dX5_needed_49 (by decide) (fun c49 => ?_) (fun c49 => ?_)
    · refine r_iload6 dX5_needed_88 ?_
      refine r_iconst (v := 1) dX5_needed_90 (by decide) ?_
      refine r_iadd dX5_needed_91 ?_
      rw [tp_1]
      exact r_iret dX5_needed_92 rfl ⟨(Nat.le_of_ble_eq_true rfl), (Nat.le_of_ble_eq_true rfl)⟩ ⟨by rw [z_need_eq (show lo + 1 ≤ 200000 by omega) h2 (fun j hj => Nat.lt_of_le_of_lt (z_net_mono (by omega) (show j ≤ lo by omega)) h1)], rfl⟩
    · exact absurd (show nI (2 ^ 0 / 2) ≤ 0 by decide) c49
  | succ d ih =>
    intro lo h1 h2 h3
    have hp : 2 ^ (d + 1) = 2 ^ d + 2 ^ d := by rw [Nat.pow_succ]; omega
    have hpp := Nat.two_pow_pos d
    rw [show 2 ^ (d + 1) / 2 = 2 ^ d by omega]
    refine r_iload7 dX5_needed_47 ?_
    refine r_if_le (tgt := 88) dX5_needed_49 (by decide) (fun c49 => ?_) (fun c49 => ?_)
    · rw [show (0 : Int32) = nI 0 from rfl, tp_le (by omega) (by omega)] at c49; have := Nat.two_pow_pos d; omega
    · refine r_aload0 dX5_needed_52 ?_
      refine r_getf dX5_needed_53 f_X5_10 (hT.ob) rfl ?_
      refine r_aload5 dX5_needed_56 ?_
      refine r_aload4 dX5_needed_58 ?_
      refine r_iload6 dX5_needed_60 ?_
      refine r_iload7 dX5_needed_62 ?_
      refine r_iadd dX5_needed_64 ?_
      rw [tp_add]
      refine r_pV dX5_needed_65 v_X5_283 (K_netOf hl hB hw (f := 0) (t := c) (by omega) hc) rfl (hB.ob) rfl rfl rfl (Nat.le_of_ble_eq_true rfl) ⟨(Nat.le_of_ble_eq_true rfl), (Nat.le_of_ble_eq_true rfl)⟩ ⟨(Nat.le_of_ble_eq_true rfl), (Nat.le_of_ble_eq_true rfl)⟩ ?_
      have em : 1000 * (lo + 2 ^ d) / r ≤ 2000000 := by
        have q := Nat.div_le_div_left (show 100 ≤ r from hr0.1) (show 0 < 100 by omega) (a := 1000 * (lo + 2 ^ d))
        omega
      have eb := k_net_eq (m := lo + 2 ^ d) h0c hr (by omega) (by omega) hs (by omega) (by omega) (by omega)
      have en : z_net r s (lo + 2 ^ d) ≤ 2000000 := by
        unfold z_net
        omega
      rw [eb]
      refine r_iload3 dX5_needed_68 ?_
      refine r_icmp_ge (tgt := 79) dX5_needed_69 (by decide) (fun c69 => ?_) (fun c69 => ?_)
      · rw [tp_le (by omega) (by omega)] at c69
        refine r_iload7 dX5_needed_79 ?_
        refine r_iconst (v := 2) dX5_needed_81 (by decide) ?_
        refine r_idiv dX5_needed_82 (by decide) ?_
        rw [show nI (2 ^ d) / 2 = nI (2 ^ d / 2) from pk_div (d := 2) (by omega) (by omega) (by omega)]
        refine r_istore7 dX5_needed_83 (Nat.le_of_ble_eq_true rfl) rfl ?_
        refine r_goto (tgt := 47) dX5_needed_85 (by decide) ?_
        first | exact ih lo h1 c69 (by omega) | exact ih (lo + 2 ^ d) (Nat.not_le.mp c69) (by rw [Nat.add_assoc, ← hp]; exact h2) (by omega)
      · rw [tp_le (by omega) (by omega)] at c69
        refine r_iload6 dX5_needed_72 ?_
        refine r_iload7 dX5_needed_74 ?_
        refine r_iadd dX5_needed_76 ?_
        rw [tp_add]
        refine r_istore6 dX5_needed_77 (Nat.le_of_ble_eq_true rfl) rfl ?_
        refine r_iload7 dX5_needed_79 ?_
        refine r_iconst (v := 2) dX5_needed_81 (by decide) ?_
        refine r_idiv dX5_needed_82 (by decide) ?_
        rw [show nI (2 ^ d) / 2 = nI (2 ^ d / 2) from pk_div (d := 2) (by omega) (by omega) (by omega)]
        refine r_istore7 dX5_needed_83 (Nat.le_of_ble_eq_true rfl) rfl ?_
        refine r_goto (tgt := 47) dX5_needed_85 (by decide) ?_
        first | exact ih lo h1 c69 (by omega) | exact ih (lo + 2 ^ d) (Nat.not_le.mp c69) (by rw [Nat.add_assoc, ← hp]; exact h2) (by omega)

set_option maxRecDepth 100000 in
set_option maxHeartbeats 4000000 in
theorem X_needed {l : Launch} {G : tp_G} {x : Nat} {h0 h : tp_H} {u : Nat → Int32} {π ρ : Nat → Nat} {us : Nat → Nat → Int32} {σ : Nat → Nat} {st len : Int32} {tx rd : Nat → Int32} (hl : l.stackTraces = false) (hT0 : kx_S G x h0 u π ρ us σ st len tx rd h) {w c a r s : Nat} (hw : w < 4) (hc : c < 4) (h0c : 0 < c) (hr : k_rate u w c = nI r) (hr0 : 100 ≤ r ∧ r ≤ 2000) (hs : u 1 = nI s) (hs2 : s ≤ 100) (ha : 1 ≤ a ∧ a ≤ 9999) : tp_Met l G mX5_needed 0 0 [.ref x, .int (nI w), .int (nI c), .int (nI a)] h (tp_PR (.int (nI (z_need r s a))) h) tp_NX := by
  have hT := hT0.self
  have hB := hT.bk
  refine tp_start (L0 := [some (.ref x), some (.int (nI w)), some (.int (nI c)), some (.int (nI a)), none, none, none, none]) (by decide) rfl hl (Nat.le_of_ble_eq_true rfl) rfl ?_
  refine r_aload0 dX5_needed_0 ?_
  refine r_iload1 dX5_needed_1 ?_
  refine r_iload2 dX5_needed_2 ?_
  refine r_pV dX5_needed_3 v_X5_76 (X_foreignPurseAt hl hT hw hc h0c) rfl (hT.ob) rfl rfl rfl (Nat.le_of_ble_eq_true rfl) ⟨(Nat.le_of_ble_eq_true rfl), (Nat.le_of_ble_eq_true rfl)⟩ ⟨(Nat.le_of_ble_eq_true rfl), (Nat.le_of_ble_eq_true rfl)⟩ ?_
  refine r_astore4 dX5_needed_6 (Nat.le_of_ble_eq_true rfl) rfl ?_
  refine r_iload3 dX5_needed_8 ?_
  refine r_iconst (v := 1) dX5_needed_9 (by decide) ?_
  refine r_icmp_lt (tgt := 20) dX5_needed_10 (by decide) (fun c10 => ?_) (fun c10 => ?_)
  · rw [show (1 : Int32) = nI 1 from rfl, tp_lt (by omega) (by omega)] at c10; omega
  · refine r_iload3 dX5_needed_13 ?_
    refine r_sipush (v := 9999) dX5_needed_14 (by decide) ?_
    refine r_icmp_le (tgt := 31) dX5_needed_17 (by decide) (fun c17 => ?_) (fun c17 => ?_)
    · refine r_aload0 dX5_needed_31 ?_
      refine r_iload1 dX5_needed_32 ?_
      refine r_iconst (v := 0) dX5_needed_33 (by decide) ?_
      refine r_pV dX5_needed_34 v_X5_31 (X_purseAt hl hT hw (c := 0) (by omega)) rfl (hT.ob) rfl rfl rfl (Nat.le_of_ble_eq_true rfl) ⟨(Nat.le_of_ble_eq_true rfl), (Nat.le_of_ble_eq_true rfl)⟩ ⟨(Nat.le_of_ble_eq_true rfl), (Nat.le_of_ble_eq_true rfl)⟩ ?_
      refine r_astore5 dX5_needed_37 (Nat.le_of_ble_eq_true rfl) rfl ?_
      refine r_iconst (v := 0) dX5_needed_39 (by decide) ?_
      refine r_istore6 dX5_needed_40 (Nat.le_of_ble_eq_true rfl) rfl ?_
      refine r_ldcw dX5_needed_42 c_X5_288 ?_
      refine r_istore7 dX5_needed_45 (Nat.le_of_ble_eq_true rfl) rfl ?_
      refine X_needed_lp hl hT hw hc h0c hr hr0 hs hs2 ha 17 0 (by rw [z_net0]; omega) (Nat.le_trans ?_ (z_net_mono (m := 131072) (by omega) (by decide))) (by decide)
      have q1 : 65536 ≤ 1000 * 131072 / r := (Nat.le_div_iff_mul_le (by omega)).mpr (by omega)
      have q2 := z_netg (s := s) (by omega) q1
      have q3 : 65536 * s / 1000 ≤ 6554 := by omega
      unfold z_net
      omega
    · rw [show (9999 : Int32) = nI 9999 from rfl, tp_le (by omega) (by omega)] at c17; omega

set_option maxRecDepth 100000 in
set_option maxHeartbeats 4000000 in
theorem X_needed_1 {l : Launch} {G : tp_G} {x : Nat} {h0 h : tp_H} {u : Nat → Int32} {π ρ : Nat → Nat} {us : Nat → Nat → Int32} {σ : Nat → Nat} {st len : Int32} {tx rd : Nat → Int32} (hl : l.stackTraces = false) (hT0 : kx_S G x h0 u π ρ us σ st len tx rd h) {w c a : Int32} (hbad : ¬ (((0 ≤ w ∧ w ≤ 3) ∧ (0 ≤ c ∧ c ≤ 3)) ∧ 0 < c)) : tp_Met l G mX5_needed 1 6 [.ref x, .int w, .int c, .int a] h ((fun _ _ => False)) (kx_X "java/lang/IndexOutOfBoundsException" h) := by
  have hT := hT0.self
  have hB := hT.bk
  refine tp_start (L0 := [some (.ref x), some (.int w), some (.int c), some (.int a), none, none, none, none]) (by decide) rfl hl (Nat.le_of_ble_eq_true rfl) rfl ?_
  refine r_aload0 dX5_needed_0 ?_
  refine r_iload1 dX5_needed_1 ?_
  refine r_iload2 dX5_needed_2 ?_
  exact r_xV dX5_needed_3 v_X5_76 (X_foreignPurseAt_x hl hT hbad) rfl (hT.ob) rfl rfl rfl (Nat.le_of_ble_eq_true rfl) ⟨(Nat.le_of_ble_eq_true rfl), (Nat.le_of_ble_eq_true rfl)⟩ ⟨(Nat.le_of_ble_eq_true rfl), (Nat.le_of_ble_eq_true rfl)⟩ rfl ⟨(Nat.le_of_ble_eq_true rfl), (Nat.le_of_ble_eq_true rfl)⟩ rfl

set_option maxRecDepth 100000 in
set_option maxHeartbeats 4000000 in
theorem X_needed_2 {l : Launch} {G : tp_G} {x : Nat} {h0 h : tp_H} {u : Nat → Int32} {π ρ : Nat → Nat} {us : Nat → Nat → Int32} {σ : Nat → Nat} {st len : Int32} {tx rd : Nat → Int32} (hl : l.stackTraces = false) (hT0 : kx_S G x h0 u π ρ us σ st len tx rd h) {w c : Nat} {a : Int32} (hw : w < 4) (hc : c < 4) (h0c : 0 < c) (hbad : ¬ (1 ≤ a ∧ a ≤ 9999)) : tp_Met l G mX5_needed 1 6 [.ref x, .int (nI w), .int (nI c), .int a] h ((fun _ _ => False)) (kx_X "java/lang/IllegalArgumentException" h) := by
  have hT := hT0.self
  have hB := hT.bk
  refine tp_start (L0 := [some (.ref x), some (.int (nI w)), some (.int (nI c)), some (.int a), none, none, none, none]) (by decide) rfl hl (Nat.le_of_ble_eq_true rfl) rfl ?_
  refine r_aload0 dX5_needed_0 ?_
  refine r_iload1 dX5_needed_1 ?_
  refine r_iload2 dX5_needed_2 ?_
  refine r_pV dX5_needed_3 v_X5_76 (X_foreignPurseAt hl hT hw hc h0c) rfl (hT.ob) rfl rfl rfl (Nat.le_of_ble_eq_true rfl) ⟨(Nat.le_of_ble_eq_true rfl), (Nat.le_of_ble_eq_true rfl)⟩ ⟨(Nat.le_of_ble_eq_true rfl), (Nat.le_of_ble_eq_true rfl)⟩ ?_
  refine r_astore4 dX5_needed_6 (Nat.le_of_ble_eq_true rfl) rfl ?_
  refine r_iload3 dX5_needed_8 ?_
  refine r_iconst (v := 1) dX5_needed_9 (by decide) ?_
  refine r_icmp_lt (tgt := 20) dX5_needed_10 (by decide) (fun c10 => ?_) (fun c10 => ?_)
  · exact r_throwSW (is := 286) (text := "amount out of range") xl_IllegalArgumentException rfl (by decide) rfl (Nat.le_of_ble_eq_true rfl) (Nat.le_of_ble_eq_true rfl) ⟨(Nat.le_of_ble_eq_true rfl), (Nat.le_of_ble_eq_true rfl)⟩ ⟨(Nat.le_of_ble_eq_true rfl), (Nat.le_of_ble_eq_true rfl)⟩ dX5_needed_20 dX5_needed_23 dX5_needed_24 dX5_needed_27 dX5_needed_30 (fun n' hn => ⟨rfl, rfl⟩)
  · refine r_iload3 dX5_needed_13 ?_
    refine r_sipush (v := 9999) dX5_needed_14 (by decide) ?_
    refine r_icmp_le (tgt := 31) dX5_needed_17 (by decide) (fun c17 => ?_) (fun c17 => ?_)
    · exact absurd ⟨Int32.not_lt.mp c10, c17⟩ hbad
    · exact r_throwSW (is := 286) (text := "amount out of range") xl_IllegalArgumentException rfl (by decide) rfl (Nat.le_of_ble_eq_true rfl) (Nat.le_of_ble_eq_true rfl) ⟨(Nat.le_of_ble_eq_true rfl), (Nat.le_of_ble_eq_true rfl)⟩ ⟨(Nat.le_of_ble_eq_true rfl), (Nat.le_of_ble_eq_true rfl)⟩ dX5_needed_20 dX5_needed_23 dX5_needed_24 dX5_needed_27 dX5_needed_30 (fun n' hn => ⟨rfl, rfl⟩)

set_option maxRecDepth 100000 in
set_option maxHeartbeats 4000000 in
theorem X_room_lp {l : Launch} {G : tp_G} {x : Nat} {h9 h : tp_H} {u : Nat → Int32} {π ρ : Nat → Nat} {us : Nat → Nat → Int32} {σ : Nat → Nat} {st len : Int32} {tx rd : Nat → Int32} (hl : l.stackTraces = false) (hT0 : kx_S G x h9 u π ρ us σ st len tx rd h) {w c t f N : Nat} (hw : w < 4) (hc : c < 4) (hu8 : u 8 = nI N) (hN : N ≤ 8) (hf : z_free u w c = nI f) (hf2 : f < 2 ^ 30) (ht : u 2 = nI t) (ht2 : t ≤ 100) : ∀ d (lo : Nat) (a6 : Option Value), (lo ≤ 99999 ∧ z_tipN t lo ≤ f) → ¬ (lo + 2 ^ d ≤ 99999 ∧ z_tipN t (lo + 2 ^ d) ≤ f) → lo + 2 ^ d ≤ 131072 → tp_Run l G mX5_room (tp_rm mX5_room 0 0) (tp_QM G 0 0 (tp_PR (.int (nI (z_room t f))) h) tp_NX) 0 0 h 22 [some (.ref x), some (.int (nI w)), some (.int (nI c)), some (.int (nI f)), some (.int (nI lo)), some (.int (nI (2 ^ d / 2))), a6] [] := by
  intro d
  have hT := hT0.self
  have hB := hT.bk
  induction d with
  | zero =>
    intro lo a6 h1 h2 h3
    refine r_iload5 dX5_room_22 ?_
    refine r_if_le (tgt := 68) dX5_room_24 (by decide) (fun c24 => ?_) (fun c24 => ?_)
    · refine r_iload4 dX5_room_68 ?_
      exact r_iret dX5_room_70 rfl ⟨(Nat.le_of_ble_eq_true rfl), (Nat.le_of_ble_eq_true rfl)⟩ ⟨by rw [z_room_eq h1.1 h1.2 (by have h2b : ¬ (lo + 1 ≤ 99999 ∧ z_tipN t (lo + 1) ≤ f) := h2; omega)], rfl⟩
    · exact absurd (show nI (2 ^ 0 / 2) ≤ 0 by decide) c24
  | succ d ih =>
    intro lo a6 h1 h2 h3
    have hp : 2 ^ (d + 1) = 2 ^ d + 2 ^ d := by rw [Nat.pow_succ]; omega
    have hpp := Nat.two_pow_pos d
    rw [show 2 ^ (d + 1) / 2 = 2 ^ d by omega]
    refine r_iload5 dX5_room_22 ?_
    refine r_if_le (tgt := 68) dX5_room_24 (by decide) (fun c24 => ?_) (fun c24 => ?_)
    · rw [show (0 : Int32) = nI 0 from rfl, tp_le (by omega) (by omega)] at c24; have := Nat.two_pow_pos d; omega
    · refine r_iload4 dX5_room_27 ?_
      refine r_iload5 dX5_room_29 ?_
      refine r_iadd dX5_room_31 ?_
      rw [tp_add]
      refine r_istore6 dX5_room_32 (Nat.le_of_ble_eq_true rfl) rfl ?_
      refine r_iload6 dX5_room_34 ?_
      refine r_ldcw dX5_room_36 c_X5_289 ?_
      refine r_icmp_gt (tgt := 59) dX5_room_39 (by decide) (fun c39 => ?_) (fun c39 => ?_)
      · rw [show (99999 : Int32) = nI 99999 from rfl, tp_lt (by omega) (by omega)] at c39
        refine r_iload5 dX5_room_59 ?_
        refine r_iconst (v := 2) dX5_room_61 (by decide) ?_
        refine r_idiv dX5_room_62 (by decide) ?_
        rw [show nI (2 ^ d) / 2 = nI (2 ^ d / 2) from pk_div (d := 2) (by omega) (by omega) (by omega)]
        refine r_istore5 dX5_room_63 (Nat.le_of_ble_eq_true rfl) rfl ?_
        refine r_goto (tgt := 22) dX5_room_65 (by decide) ?_
        first | exact ih (lo + 2 ^ d) _ ⟨by omega, Nat.not_lt.mp c52⟩ (by rw [Nat.add_assoc, ← hp]; exact h2) (by omega) | exact ih lo _ h1 (fun q => by omega) (by omega)
      · rw [show (99999 : Int32) = nI 99999 from rfl, tp_lt (by omega) (by omega)] at c39
        refine r_aload0 dX5_room_42 ?_
        refine r_getf dX5_room_43 f_X5_10 (hT.ob) rfl ?_
        refine r_iload6 dX5_room_46 ?_
        refine r_pV dX5_room_48 v_X5_290 (K_withTip hl hB) rfl (hB.ob) rfl rfl rfl (Nat.le_of_ble_eq_true rfl) ⟨(Nat.le_of_ble_eq_true rfl), (Nat.le_of_ble_eq_true rfl)⟩ ⟨(Nat.le_of_ble_eq_true rfl), (Nat.le_of_ble_eq_true rfl)⟩ ?_
        have eb := z_tip_eq (m := lo + 2 ^ d) ht ht2 (by omega)
        have en : z_tipN t (lo + 2 ^ d) ≤ 400000 := by
          have q : (lo + 2 ^ d) * t ≤ (lo + 2 ^ d) * 100 := Nat.mul_le_mul_left _ ht2
          unfold z_tipN
          omega
        rw [eb]
        refine r_iload3 dX5_room_51 ?_
        refine r_icmp_gt (tgt := 59) dX5_room_52 (by decide) (fun c52 => ?_) (fun c52 => ?_)
        · rw [tp_lt (by omega) (by omega)] at c52
          refine r_iload5 dX5_room_59 ?_
          refine r_iconst (v := 2) dX5_room_61 (by decide) ?_
          refine r_idiv dX5_room_62 (by decide) ?_
          rw [show nI (2 ^ d) / 2 = nI (2 ^ d / 2) from pk_div (d := 2) (by omega) (by omega) (by omega)]
          refine r_istore5 dX5_room_63 (Nat.le_of_ble_eq_true rfl) rfl ?_
          refine r_goto (tgt := 22) dX5_room_65 (by decide) ?_
          first | exact ih (lo + 2 ^ d) _ ⟨by omega, Nat.not_lt.mp c52⟩ (by rw [Nat.add_assoc, ← hp]; exact h2) (by omega) | exact ih lo _ h1 (fun q => by omega) (by omega)
        · rw [tp_lt (by omega) (by omega)] at c52
          refine r_iload6 dX5_room_55 ?_
          refine r_istore4 dX5_room_57 (Nat.le_of_ble_eq_true rfl) rfl ?_
          refine r_iload5 dX5_room_59 ?_
          refine r_iconst (v := 2) dX5_room_61 (by decide) ?_
          refine r_idiv dX5_room_62 (by decide) ?_
          rw [show nI (2 ^ d) / 2 = nI (2 ^ d / 2) from pk_div (d := 2) (by omega) (by omega) (by omega)]
          refine r_istore5 dX5_room_63 (Nat.le_of_ble_eq_true rfl) rfl ?_
          refine r_goto (tgt := 22) dX5_room_65 (by decide) ?_
          first | exact ih (lo + 2 ^ d) _ ⟨by omega, Nat.not_lt.mp c52⟩ (by rw [Nat.add_assoc, ← hp]; exact h2) (by omega) | exact ih lo _ h1 (fun q => by omega) (by omega)

set_option maxRecDepth 100000 in
set_option maxHeartbeats 4000000 in
theorem X_room {l : Launch} {G : tp_G} {x : Nat} {h0 h : tp_H} {u : Nat → Int32} {π ρ : Nat → Nat} {us : Nat → Nat → Int32} {σ : Nat → Nat} {st len : Int32} {tx rd : Nat → Int32} (hl : l.stackTraces = false) (hT0 : kx_S G x h0 u π ρ us σ st len tx rd h) {w c t f N : Nat} (hw : w < 4) (hc : c < 4) (hu8 : u 8 = nI N) (hN : N ≤ 8) (hf : z_free u w c = nI f) (hf2 : f < 2 ^ 30) (ht : u 2 = nI t) (ht2 : t ≤ 100) : tp_Met l G mX5_room 0 0 [.ref x, .int (nI w), .int (nI c)] h (tp_PR (.int (nI (z_room t f))) h) tp_NX := by
  have hT := hT0.self
  have hB := hT.bk
  refine tp_start (L0 := [some (.ref x), some (.int (nI w)), some (.int (nI c)), none, none, none, none]) (by decide) rfl hl (Nat.le_of_ble_eq_true rfl) rfl ?_
  refine r_aload0 dX5_room_0 ?_
  refine r_getf dX5_room_1 f_X5_10 (hT.ob) rfl ?_
  refine r_aload0 dX5_room_4 ?_
  refine r_iload1 dX5_room_5 ?_
  refine r_iload2 dX5_room_6 ?_
  refine r_pV dX5_room_7 v_X5_31 (X_purseAt hl hT hw hc) rfl (hT.ob) rfl rfl rfl (Nat.le_of_ble_eq_true rfl) ⟨(Nat.le_of_ble_eq_true rfl), (Nat.le_of_ble_eq_true rfl)⟩ ⟨(Nat.le_of_ble_eq_true rfl), (Nat.le_of_ble_eq_true rfl)⟩ ?_
  refine r_pV dX5_room_10 v_X5_229 (K_freeOf hl hB hw hc hu8 hN) rfl (hB.ob) rfl rfl rfl (Nat.le_of_ble_eq_true rfl) ⟨(Nat.le_of_ble_eq_true rfl), (Nat.le_of_ble_eq_true rfl)⟩ ⟨(Nat.le_of_ble_eq_true rfl), (Nat.le_of_ble_eq_true rfl)⟩ ?_
  rw [hf]
  refine r_istore3 dX5_room_13 (Nat.le_of_ble_eq_true rfl) rfl ?_
  refine r_iconst (v := 0) dX5_room_14 (by decide) ?_
  refine r_istore4 dX5_room_15 (Nat.le_of_ble_eq_true rfl) rfl ?_
  refine r_ldcw dX5_room_17 c_X5_288 ?_
  refine r_istore5 dX5_room_20 (Nat.le_of_ble_eq_true rfl) rfl ?_
  exact X_room_lp hl hT hw hc hu8 hN hf hf2 ht ht2 17 0 none ⟨by omega, by rw [z_tipN0]; omega⟩ (fun q => absurd q.1 (by decide)) (by decide)

set_option maxRecDepth 100000 in
set_option maxHeartbeats 4000000 in
theorem X_room_1 {l : Launch} {G : tp_G} {x : Nat} {h0 h : tp_H} {u : Nat → Int32} {π ρ : Nat → Nat} {us : Nat → Nat → Int32} {σ : Nat → Nat} {st len : Int32} {tx rd : Nat → Int32} (hl : l.stackTraces = false) (hT0 : kx_S G x h0 u π ρ us σ st len tx rd h) {w c : Int32} (hbad : ¬ ((0 ≤ w ∧ w ≤ 3) ∧ (0 ≤ c ∧ c ≤ 3))) : tp_Met l G mX5_room 1 6 [.ref x, .int w, .int c] h ((fun _ _ => False)) (kx_X "java/lang/IndexOutOfBoundsException" h) := by
  have hT := hT0.self
  have hB := hT.bk
  refine tp_start (L0 := [some (.ref x), some (.int w), some (.int c), none, none, none, none]) (by decide) rfl hl (Nat.le_of_ble_eq_true rfl) rfl ?_
  refine r_aload0 dX5_room_0 ?_
  refine r_getf dX5_room_1 f_X5_10 (hT.ob) rfl ?_
  refine r_aload0 dX5_room_4 ?_
  refine r_iload1 dX5_room_5 ?_
  refine r_iload2 dX5_room_6 ?_
  exact r_xV dX5_room_7 v_X5_31 (X_purseAt_x hl hT hbad) rfl (hT.ob) rfl rfl rfl (Nat.le_of_ble_eq_true rfl) ⟨(Nat.le_of_ble_eq_true rfl), (Nat.le_of_ble_eq_true rfl)⟩ ⟨(Nat.le_of_ble_eq_true rfl), (Nat.le_of_ble_eq_true rfl)⟩ rfl ⟨(Nat.le_of_ble_eq_true rfl), (Nat.le_of_ble_eq_true rfl)⟩ rfl

def z_whyN (z : Nat → Int32) (w f t : Nat) (a : Int32) : Nat → Int32 := fun j => match j with
  | 0 => z_whyEx z w f t a
  | 1 => z_whyHold z w f a
  | _ => z_whyClose z w
set_option maxRecDepth 100000 in
set_option maxHeartbeats 4000000 in
theorem X_whyNot {l : Launch} {G : tp_G} {x : Nat} {h0 h : tp_H} {u : Nat → Int32} {π ρ : Nat → Nat} {us : Nat → Nat → Int32} {σ : Nat → Nat} {st len : Int32} {tx rd : Nat → Int32} (hl : l.stackTraces = false) (hT0 : kx_S G x h0 u π ρ us σ st len tx rd h) {N P : Nat} (hu8 : u 8 = nI N) (hN : N ≤ 8) (hu9 : u 9 = nI P) (hP9 : P ≤ 12) {j w f t : Nat} {a : Int32} (hw : w < 4) (hf : f < 4) (ht : t < 4) (ha : 1 ≤ a ∧ a ≤ 99999) (hj : j < 3) : tp_Met l G mX5_whyNot 0 0 [.ref x, .int (nI j), .int (nI w), .int (nI f), .int (nI t), .int a] h (tp_PR (.int (z_whyN u w f t a j)) h) tp_NX := by
  have hT := hT0.self
  have hB := hT.bk
  refine tp_start (L0 := [some (.ref x), some (.int (nI j)), some (.int (nI w)), some (.int (nI f)), some (.int (nI t)), some (.int a), none, none]) (by decide) rfl hl (Nat.le_of_ble_eq_true rfl) rfl ?_
  refine r_aload0 dX5_whyNot_0 ?_
  refine r_iload2 dX5_whyNot_1 ?_
  refine r_iload3 dX5_whyNot_2 ?_
  refine r_pV dX5_whyNot_3 v_X5_31 (X_purseAt hl hT hw hf) rfl (hT.ob) rfl rfl rfl (Nat.le_of_ble_eq_true rfl) ⟨(Nat.le_of_ble_eq_true rfl), (Nat.le_of_ble_eq_true rfl)⟩ ⟨(Nat.le_of_ble_eq_true rfl), (Nat.le_of_ble_eq_true rfl)⟩ ?_
  refine r_astore6 dX5_whyNot_6 (Nat.le_of_ble_eq_true rfl) rfl ?_
  refine r_aload0 dX5_whyNot_8 ?_
  refine r_iload2 dX5_whyNot_9 ?_
  refine r_iload4 dX5_whyNot_10 ?_
  refine r_pV dX5_whyNot_12 v_X5_31 (X_purseAt hl hT hw ht) rfl (hT.ob) rfl rfl rfl (Nat.le_of_ble_eq_true rfl) ⟨(Nat.le_of_ble_eq_true rfl), (Nat.le_of_ble_eq_true rfl)⟩ ⟨(Nat.le_of_ble_eq_true rfl), (Nat.le_of_ble_eq_true rfl)⟩ ?_
  refine r_astore7 dX5_whyNot_15 (Nat.le_of_ble_eq_true rfl) rfl ?_
  refine r_aload0 dX5_whyNot_17 ?_
  refine r_iload5 dX5_whyNot_18 ?_
  refine r_sV0 dX5_whyNot_20 v_X5_35 (X_requireAmount hl hT ha) rfl (hT.ob) rfl rfl rfl (Nat.le_of_ble_eq_true rfl) ⟨(Nat.le_of_ble_eq_true rfl), (Nat.le_of_ble_eq_true rfl)⟩ ⟨(Nat.le_of_ble_eq_true rfl), (Nat.le_of_ble_eq_true rfl)⟩ (fun h1 hP => ?_)
  subst hP
  refine r_iload1 dX5_whyNot_23 ?_
  rcases (show j = 0 ∨ j = 1 ∨ j = 2 by omega) with rfl | rfl | rfl
  · refine r_tableIn (tgt := 52) dX5_whyNot_24 (by decide) (by decide) rfl (by decide) ?_
    refine r_aload0 dX5_whyNot_52 ?_
    refine r_getf dX5_whyNot_53 f_X5_10 (hT.ob) rfl ?_
    refine r_aload6 dX5_whyNot_56 ?_
    refine r_aload7 dX5_whyNot_58 ?_
    refine r_iload5 dX5_whyNot_60 ?_
    refine r_pV dX5_whyNot_62 v_X5_94 (K_exchangeReason hl hB hw hf ht hu8 hN) rfl (hB.ob) rfl rfl rfl (Nat.le_of_ble_eq_true rfl) ⟨(Nat.le_of_ble_eq_true rfl), (Nat.le_of_ble_eq_true rfl)⟩ ⟨(Nat.le_of_ble_eq_true rfl), (Nat.le_of_ble_eq_true rfl)⟩ ?_
    exact r_iret dX5_whyNot_65 rfl ⟨(Nat.le_of_ble_eq_true rfl), (Nat.le_of_ble_eq_true rfl)⟩ ⟨rfl, rfl⟩
  · refine r_tableIn (tgt := 66) dX5_whyNot_24 (by decide) (by decide) rfl (by decide) ?_
    refine r_aload0 dX5_whyNot_66 ?_
    refine r_getf dX5_whyNot_67 f_X5_10 (hT.ob) rfl ?_
    refine r_aload6 dX5_whyNot_70 ?_
    refine r_iload5 dX5_whyNot_72 ?_
    refine r_pV dX5_whyNot_74 v_X5_103 (K_holdReason hl hB hw hf hu8 hN) rfl (hB.ob) rfl rfl rfl (Nat.le_of_ble_eq_true rfl) ⟨(Nat.le_of_ble_eq_true rfl), (Nat.le_of_ble_eq_true rfl)⟩ ⟨(Nat.le_of_ble_eq_true rfl), (Nat.le_of_ble_eq_true rfl)⟩ ?_
    exact r_iret dX5_whyNot_77 rfl ⟨(Nat.le_of_ble_eq_true rfl), (Nat.le_of_ble_eq_true rfl)⟩ ⟨rfl, rfl⟩
  · refine r_tableIn (tgt := 78) dX5_whyNot_24 (by decide) (by decide) rfl (by decide) ?_
    refine r_aload0 dX5_whyNot_78 ?_
    refine r_getf dX5_whyNot_79 f_X5_10 (hT.ob) rfl ?_
    refine r_iload2 dX5_whyNot_82 ?_
    refine r_pV dX5_whyNot_83 v_X5_166 (K_closingReason hl hB hw hu8 hN hu9 hP9) rfl (hB.ob) rfl rfl rfl (Nat.le_of_ble_eq_true rfl) ⟨(Nat.le_of_ble_eq_true rfl), (Nat.le_of_ble_eq_true rfl)⟩ ⟨(Nat.le_of_ble_eq_true rfl), (Nat.le_of_ble_eq_true rfl)⟩ ?_
    exact r_iret dX5_whyNot_86 rfl ⟨(Nat.le_of_ble_eq_true rfl), (Nat.le_of_ble_eq_true rfl)⟩ ⟨rfl, rfl⟩

set_option maxRecDepth 100000 in
set_option maxHeartbeats 4000000 in
theorem X_whyNot_1 {l : Launch} {G : tp_G} {x : Nat} {h0 h : tp_H} {u : Nat → Int32} {π ρ : Nat → Nat} {us : Nat → Nat → Int32} {σ : Nat → Nat} {st len : Int32} {tx rd : Nat → Int32} (hl : l.stackTraces = false) (hT0 : kx_S G x h0 u π ρ us σ st len tx rd h) {j w f t a : Int32} (hbad : ¬ ((0 ≤ w ∧ w ≤ 3) ∧ (0 ≤ f ∧ f ≤ 3))) : tp_Met l G mX5_whyNot 1 6 [.ref x, .int j, .int w, .int f, .int t, .int a] h ((fun _ _ => False)) (kx_X "java/lang/IndexOutOfBoundsException" h) := by
  have hT := hT0.self
  have hB := hT.bk
  refine tp_start (L0 := [some (.ref x), some (.int j), some (.int w), some (.int f), some (.int t), some (.int a), none, none]) (by decide) rfl hl (Nat.le_of_ble_eq_true rfl) rfl ?_
  refine r_aload0 dX5_whyNot_0 ?_
  refine r_iload2 dX5_whyNot_1 ?_
  refine r_iload3 dX5_whyNot_2 ?_
  exact r_xV dX5_whyNot_3 v_X5_31 (X_purseAt_x hl hT hbad) rfl (hT.ob) rfl rfl rfl (Nat.le_of_ble_eq_true rfl) ⟨(Nat.le_of_ble_eq_true rfl), (Nat.le_of_ble_eq_true rfl)⟩ ⟨(Nat.le_of_ble_eq_true rfl), (Nat.le_of_ble_eq_true rfl)⟩ rfl ⟨(Nat.le_of_ble_eq_true rfl), (Nat.le_of_ble_eq_true rfl)⟩ rfl

set_option maxRecDepth 100000 in
set_option maxHeartbeats 4000000 in
theorem X_whyNot_1b {l : Launch} {G : tp_G} {x : Nat} {h0 h : tp_H} {u : Nat → Int32} {π ρ : Nat → Nat} {us : Nat → Nat → Int32} {σ : Nat → Nat} {st len : Int32} {tx rd : Nat → Int32} (hl : l.stackTraces = false) (hT0 : kx_S G x h0 u π ρ us σ st len tx rd h) {w f : Nat} {j t a : Int32} (hw : w < 4) (hf : f < 4) (hbad : ¬ (0 ≤ t ∧ t ≤ 3)) : tp_Met l G mX5_whyNot 1 6 [.ref x, .int j, .int (nI w), .int (nI f), .int t, .int a] h ((fun _ _ => False)) (kx_X "java/lang/IndexOutOfBoundsException" h) := by
  have hT := hT0.self
  have hB := hT.bk
  refine tp_start (L0 := [some (.ref x), some (.int j), some (.int (nI w)), some (.int (nI f)), some (.int t), some (.int a), none, none]) (by decide) rfl hl (Nat.le_of_ble_eq_true rfl) rfl ?_
  refine r_aload0 dX5_whyNot_0 ?_
  refine r_iload2 dX5_whyNot_1 ?_
  refine r_iload3 dX5_whyNot_2 ?_
  refine r_pV dX5_whyNot_3 v_X5_31 (X_purseAt hl hT hw hf) rfl (hT.ob) rfl rfl rfl (Nat.le_of_ble_eq_true rfl) ⟨(Nat.le_of_ble_eq_true rfl), (Nat.le_of_ble_eq_true rfl)⟩ ⟨(Nat.le_of_ble_eq_true rfl), (Nat.le_of_ble_eq_true rfl)⟩ ?_
  refine r_astore6 dX5_whyNot_6 (Nat.le_of_ble_eq_true rfl) rfl ?_
  refine r_aload0 dX5_whyNot_8 ?_
  refine r_iload2 dX5_whyNot_9 ?_
  refine r_iload4 dX5_whyNot_10 ?_
  exact r_xV dX5_whyNot_12 v_X5_31 (X_purseAt_x hl hT (fun q => hbad q.2)) rfl (hT.ob) rfl rfl rfl (Nat.le_of_ble_eq_true rfl) ⟨(Nat.le_of_ble_eq_true rfl), (Nat.le_of_ble_eq_true rfl)⟩ ⟨(Nat.le_of_ble_eq_true rfl), (Nat.le_of_ble_eq_true rfl)⟩ rfl ⟨(Nat.le_of_ble_eq_true rfl), (Nat.le_of_ble_eq_true rfl)⟩ rfl

set_option maxRecDepth 100000 in
set_option maxHeartbeats 4000000 in
theorem X_whyNot_2 {l : Launch} {G : tp_G} {x : Nat} {h0 h : tp_H} {u : Nat → Int32} {π ρ : Nat → Nat} {us : Nat → Nat → Int32} {σ : Nat → Nat} {st len : Int32} {tx rd : Nat → Int32} (hl : l.stackTraces = false) (hT0 : kx_S G x h0 u π ρ us σ st len tx rd h) {w f t : Nat} {j a : Int32} (hw : w < 4) (hf : f < 4) (ht : t < 4) (hbad : ¬ (1 ≤ a ∧ a ≤ 99999)) : tp_Met l G mX5_whyNot 1 6 [.ref x, .int j, .int (nI w), .int (nI f), .int (nI t), .int a] h ((fun _ _ => False)) (kx_X "java/lang/IllegalArgumentException" h) := by
  have hT := hT0.self
  have hB := hT.bk
  refine tp_start (L0 := [some (.ref x), some (.int j), some (.int (nI w)), some (.int (nI f)), some (.int (nI t)), some (.int a), none, none]) (by decide) rfl hl (Nat.le_of_ble_eq_true rfl) rfl ?_
  refine r_aload0 dX5_whyNot_0 ?_
  refine r_iload2 dX5_whyNot_1 ?_
  refine r_iload3 dX5_whyNot_2 ?_
  refine r_pV dX5_whyNot_3 v_X5_31 (X_purseAt hl hT hw hf) rfl (hT.ob) rfl rfl rfl (Nat.le_of_ble_eq_true rfl) ⟨(Nat.le_of_ble_eq_true rfl), (Nat.le_of_ble_eq_true rfl)⟩ ⟨(Nat.le_of_ble_eq_true rfl), (Nat.le_of_ble_eq_true rfl)⟩ ?_
  refine r_astore6 dX5_whyNot_6 (Nat.le_of_ble_eq_true rfl) rfl ?_
  refine r_aload0 dX5_whyNot_8 ?_
  refine r_iload2 dX5_whyNot_9 ?_
  refine r_iload4 dX5_whyNot_10 ?_
  refine r_pV dX5_whyNot_12 v_X5_31 (X_purseAt hl hT hw ht) rfl (hT.ob) rfl rfl rfl (Nat.le_of_ble_eq_true rfl) ⟨(Nat.le_of_ble_eq_true rfl), (Nat.le_of_ble_eq_true rfl)⟩ ⟨(Nat.le_of_ble_eq_true rfl), (Nat.le_of_ble_eq_true rfl)⟩ ?_
  refine r_astore7 dX5_whyNot_15 (Nat.le_of_ble_eq_true rfl) rfl ?_
  refine r_aload0 dX5_whyNot_17 ?_
  refine r_iload5 dX5_whyNot_18 ?_
  exact r_xV dX5_whyNot_20 v_X5_35 (X_requireAmount_x hl hT hbad) rfl (hT.ob) rfl rfl rfl (Nat.le_of_ble_eq_true rfl) ⟨(Nat.le_of_ble_eq_true rfl), (Nat.le_of_ble_eq_true rfl)⟩ ⟨(Nat.le_of_ble_eq_true rfl), (Nat.le_of_ble_eq_true rfl)⟩ rfl ⟨(Nat.le_of_ble_eq_true rfl), (Nat.le_of_ble_eq_true rfl)⟩ rfl

set_option maxRecDepth 100000 in
set_option maxHeartbeats 4000000 in
theorem X_whyNot_2b {l : Launch} {G : tp_G} {x : Nat} {h0 h : tp_H} {u : Nat → Int32} {π ρ : Nat → Nat} {us : Nat → Nat → Int32} {σ : Nat → Nat} {st len : Int32} {tx rd : Nat → Int32} (hl : l.stackTraces = false) (hT0 : kx_S G x h0 u π ρ us σ st len tx rd h) {w f t : Nat} {v a : Int32} (hw : w < 4) (hf : f < 4) (ht : t < 4) (ha : 1 ≤ a ∧ a ≤ 99999) (hbad : ¬ (0 ≤ v ∧ v ≤ 2)) : tp_Met l G mX5_whyNot 1 6 [.ref x, .int v, .int (nI w), .int (nI f), .int (nI t), .int a] h ((fun _ _ => False)) (kx_X "java/lang/IllegalArgumentException" h) := by
  have hT := hT0.self
  have hB := hT.bk
  refine tp_start (L0 := [some (.ref x), some (.int v), some (.int (nI w)), some (.int (nI f)), some (.int (nI t)), some (.int a), none, none]) (by decide) rfl hl (Nat.le_of_ble_eq_true rfl) rfl ?_
  refine r_aload0 dX5_whyNot_0 ?_
  refine r_iload2 dX5_whyNot_1 ?_
  refine r_iload3 dX5_whyNot_2 ?_
  refine r_pV dX5_whyNot_3 v_X5_31 (X_purseAt hl hT hw hf) rfl (hT.ob) rfl rfl rfl (Nat.le_of_ble_eq_true rfl) ⟨(Nat.le_of_ble_eq_true rfl), (Nat.le_of_ble_eq_true rfl)⟩ ⟨(Nat.le_of_ble_eq_true rfl), (Nat.le_of_ble_eq_true rfl)⟩ ?_
  refine r_astore6 dX5_whyNot_6 (Nat.le_of_ble_eq_true rfl) rfl ?_
  refine r_aload0 dX5_whyNot_8 ?_
  refine r_iload2 dX5_whyNot_9 ?_
  refine r_iload4 dX5_whyNot_10 ?_
  refine r_pV dX5_whyNot_12 v_X5_31 (X_purseAt hl hT hw ht) rfl (hT.ob) rfl rfl rfl (Nat.le_of_ble_eq_true rfl) ⟨(Nat.le_of_ble_eq_true rfl), (Nat.le_of_ble_eq_true rfl)⟩ ⟨(Nat.le_of_ble_eq_true rfl), (Nat.le_of_ble_eq_true rfl)⟩ ?_
  refine r_astore7 dX5_whyNot_15 (Nat.le_of_ble_eq_true rfl) rfl ?_
  refine r_aload0 dX5_whyNot_17 ?_
  refine r_iload5 dX5_whyNot_18 ?_
  refine r_sV0 dX5_whyNot_20 v_X5_35 (X_requireAmount hl hT ha) rfl (hT.ob) rfl rfl rfl (Nat.le_of_ble_eq_true rfl) ⟨(Nat.le_of_ble_eq_true rfl), (Nat.le_of_ble_eq_true rfl)⟩ ⟨(Nat.le_of_ble_eq_true rfl), (Nat.le_of_ble_eq_true rfl)⟩ (fun h1 hP => ?_)
  subst hP
  refine r_iload1 dX5_whyNot_23 ?_
  refine r_tableOut (tgt := 87) dX5_whyNot_24 (tp_out (n := 2) (by decide) hbad) (by decide) ?_
  exact r_throwSW (is := 293) (text := "no such question") xl_IllegalArgumentException rfl (by decide) rfl (Nat.le_of_ble_eq_true rfl) (Nat.le_of_ble_eq_true rfl) ⟨(Nat.le_of_ble_eq_true rfl), (Nat.le_of_ble_eq_true rfl)⟩ ⟨(Nat.le_of_ble_eq_true rfl), (Nat.le_of_ble_eq_true rfl)⟩ dX5_whyNot_87 dX5_whyNot_90 dX5_whyNot_91 dX5_whyNot_94 dX5_whyNot_97 (fun n' hn => ⟨rfl, rfl⟩)

def k_clT (u : Nat → Int32) (w : Nat) : Nat → Int32
  | 0 => u (z_at w 0)
  | i + 1 => k_clT u w i + k_net u w (i + 1) 0 (u (z_at w (i + 1)))
def k_closed (u : Nat → Int32) (w : Nat) : Int32 := if ¬ z_whyClose u w = 0 then -1 else k_clT u w 3
set_option maxRecDepth 100000 in
set_option maxHeartbeats 4000000 in
theorem X_ifClosed_lp {l : Launch} {G : tp_G} {x : Nat} {h9 h : tp_H} {u : Nat → Int32} {π ρ : Nat → Nat} {us : Nat → Nat → Int32} {σ : Nat → Nat} {st len : Int32} {tx rd : Nat → Int32} (hl : l.stackTraces = false) (hT0 : kx_S G x h9 u π ρ us σ st len tx rd h) {w : Nat} (hw : w < 4) (c0 : z_whyClose u w = 0) : ∀ d (c : Nat) (a5 : Option Value), c + d = 3 → tp_Run l G mX5_ifClosed (tp_rm mX5_ifClosed 0 0) (tp_QM G 0 0 (tp_PR (.int (k_closed u w)) h) tp_NX) 0 0 h 28 [some (.ref x), some (.int (nI w)), some (.ref (kp (x + 1) w 0)), some (.int (k_clT u w c)), some (.int (nI (c + 1))), a5] [] := by
  intro d
  have hT := hT0.self
  have hB := hT.bk
  induction d with
  | zero =>
    intro c a5 hd
    refine r_iload4 dX5_ifClosed_28 ?_
    refine r_iconst (v := 4) dX5_ifClosed_30 (by decide) ?_
    refine r_icmp_ge (tgt := 67) dX5_ifClosed_31 (by decide) (fun c31 => ?_) (fun c31 => ?_)
    · refine r_iload3 dX5_ifClosed_67 ?_
      exact r_iret dX5_ifClosed_68 rfl ⟨(Nat.le_of_ble_eq_true rfl), (Nat.le_of_ble_eq_true rfl)⟩ ⟨by unfold k_closed; rw [if_neg (fun q => q c0), show c = 3 by omega], rfl⟩
    · rw [show (4 : Int32) = nI 4 from rfl, tp_le (by omega) (by omega)] at c31; omega
  | succ d ih =>
    intro c a5 hd
    refine r_iload4 dX5_ifClosed_28 ?_
    refine r_iconst (v := 4) dX5_ifClosed_30 (by decide) ?_
    refine r_icmp_ge (tgt := 67) dX5_ifClosed_31 (by decide) (fun c31 => ?_) (fun c31 => ?_)
    · rw [show (4 : Int32) = nI 4 from rfl, tp_le (by omega) (by omega)] at c31; omega
    · refine r_aload0 dX5_ifClosed_34 ?_
      refine r_iload1 dX5_ifClosed_35 ?_
      refine r_iload4 dX5_ifClosed_36 ?_
      refine r_pV dX5_ifClosed_38 v_X5_31 (X_purseAt hl hT hw (c := c + 1) (by omega)) rfl (hT.ob) rfl rfl rfl (Nat.le_of_ble_eq_true rfl) ⟨(Nat.le_of_ble_eq_true rfl), (Nat.le_of_ble_eq_true rfl)⟩ ⟨(Nat.le_of_ble_eq_true rfl), (Nat.le_of_ble_eq_true rfl)⟩ ?_
      refine r_astore5 dX5_ifClosed_41 (Nat.le_of_ble_eq_true rfl) rfl ?_
      refine r_iload3 dX5_ifClosed_43 ?_
      refine r_aload0 dX5_ifClosed_44 ?_
      refine r_getf dX5_ifClosed_45 f_X5_10 (hT.ob) rfl ?_
      refine r_aload5 dX5_ifClosed_48 ?_
      refine r_aload2 dX5_ifClosed_50 ?_
      refine r_aload5 dX5_ifClosed_51 ?_
      refine r_getf dX5_ifClosed_53 f_X5_57 (hB.pu (c := c + 1) hw (by omega)) rfl ?_
      refine r_pV dX5_ifClosed_56 v_X5_283 (K_netOf hl hB hw (f := c + 1) (t := 0) (by omega) (by omega)) rfl (hB.ob) rfl rfl rfl (Nat.le_of_ble_eq_true rfl) ⟨(Nat.le_of_ble_eq_true rfl), (Nat.le_of_ble_eq_true rfl)⟩ ⟨(Nat.le_of_ble_eq_true rfl), (Nat.le_of_ble_eq_true rfl)⟩ ?_
      refine r_iadd dX5_ifClosed_59 ?_
      refine r_istore3 dX5_ifClosed_60 (Nat.le_of_ble_eq_true rfl) rfl ?_
      refine r_iinc4 (v := nI ((c + 1) + 1)) dX5_ifClosed_61 (Nat.le_of_ble_eq_true rfl) rfl (tp_inc (c + 1)) ?_
      exact r_goto (tgt := 28) dX5_ifClosed_64 (by decide) (ih (c + 1) _ (by omega))

set_option maxRecDepth 100000 in
set_option maxHeartbeats 4000000 in
theorem X_ifClosed {l : Launch} {G : tp_G} {x : Nat} {h0 h : tp_H} {u : Nat → Int32} {π ρ : Nat → Nat} {us : Nat → Nat → Int32} {σ : Nat → Nat} {st len : Int32} {tx rd : Nat → Int32} (hl : l.stackTraces = false) (hT0 : kx_S G x h0 u π ρ us σ st len tx rd h) {N P : Nat} (hu8 : u 8 = nI N) (hN : N ≤ 8) (hu9 : u 9 = nI P) (hP9 : P ≤ 12) {w : Nat} (hw : w < 4) : tp_Met l G mX5_ifClosed 0 0 [.ref x, .int (nI w)] h (tp_PR (.int (k_closed u w)) h) tp_NX := by
  have hT := hT0.self
  have hB := hT.bk
  refine tp_start (L0 := [some (.ref x), some (.int (nI w)), none, none, none, none]) (by decide) rfl hl (Nat.le_of_ble_eq_true rfl) rfl ?_
  refine r_aload0 dX5_ifClosed_0 ?_
  refine r_iload1 dX5_ifClosed_1 ?_
  refine r_iconst (v := 0) dX5_ifClosed_2 (by decide) ?_
  refine r_pV dX5_ifClosed_3 v_X5_31 (X_purseAt hl hT hw (c := 0) (by omega)) rfl (hT.ob) rfl rfl rfl (Nat.le_of_ble_eq_true rfl) ⟨(Nat.le_of_ble_eq_true rfl), (Nat.le_of_ble_eq_true rfl)⟩ ⟨(Nat.le_of_ble_eq_true rfl), (Nat.le_of_ble_eq_true rfl)⟩ ?_
  refine r_astore2 dX5_ifClosed_6 (Nat.le_of_ble_eq_true rfl) rfl ?_
  refine r_aload0 dX5_ifClosed_7 ?_
  refine r_getf dX5_ifClosed_8 f_X5_10 (hT.ob) rfl ?_
  refine r_iload1 dX5_ifClosed_11 ?_
  refine r_pV dX5_ifClosed_12 v_X5_166 (K_closingReason hl hB hw hu8 hN hu9 hP9) rfl (hB.ob) rfl rfl rfl (Nat.le_of_ble_eq_true rfl) ⟨(Nat.le_of_ble_eq_true rfl), (Nat.le_of_ble_eq_true rfl)⟩ ⟨(Nat.le_of_ble_eq_true rfl), (Nat.le_of_ble_eq_true rfl)⟩ ?_
  refine r_if_eq (tgt := 20) dX5_ifClosed_15 (by decide) (fun c15 => ?_) (fun c15 => ?_)
  · refine r_aload2 dX5_ifClosed_20 ?_
    refine r_getf dX5_ifClosed_21 f_X5_57 (hB.pu hw (c := 0) (by omega)) rfl ?_
    refine r_istore3 dX5_ifClosed_24 (Nat.le_of_ble_eq_true rfl) rfl ?_
    refine r_iconst (v := 1) dX5_ifClosed_25 (by decide) ?_
    refine r_istore4 dX5_ifClosed_26 (Nat.le_of_ble_eq_true rfl) rfl ?_
    exact X_ifClosed_lp hl hT hw c15 3 0 none (by omega)
  · refine r_iconst (v := (-1)) dX5_ifClosed_18 (by decide) ?_
    exact r_iret dX5_ifClosed_19 rfl ⟨(Nat.le_of_ble_eq_true rfl), (Nat.le_of_ble_eq_true rfl)⟩ ⟨by unfold k_closed; rw [if_pos c15], rfl⟩

set_option maxRecDepth 100000 in
set_option maxHeartbeats 4000000 in
theorem X_ifClosed_1 {l : Launch} {G : tp_G} {x : Nat} {h0 h : tp_H} {u : Nat → Int32} {π ρ : Nat → Nat} {us : Nat → Nat → Int32} {σ : Nat → Nat} {st len : Int32} {tx rd : Nat → Int32} (hl : l.stackTraces = false) (hT0 : kx_S G x h0 u π ρ us σ st len tx rd h) {w : Int32} (hbad : ¬ (0 ≤ w ∧ w ≤ 3)) : tp_Met l G mX5_ifClosed 1 6 [.ref x, .int w] h ((fun _ _ => False)) (kx_X "java/lang/IndexOutOfBoundsException" h) := by
  have hT := hT0.self
  have hB := hT.bk
  refine tp_start (L0 := [some (.ref x), some (.int w), none, none, none, none]) (by decide) rfl hl (Nat.le_of_ble_eq_true rfl) rfl ?_
  refine r_aload0 dX5_ifClosed_0 ?_
  refine r_iload1 dX5_ifClosed_1 ?_
  refine r_iconst (v := 0) dX5_ifClosed_2 (by decide) ?_
  exact r_xV dX5_ifClosed_3 v_X5_31 (X_purseAt_x hl hT (fun q => hbad q.1)) rfl (hT.ob) rfl rfl rfl (Nat.le_of_ble_eq_true rfl) ⟨(Nat.le_of_ble_eq_true rfl), (Nat.le_of_ble_eq_true rfl)⟩ ⟨(Nat.le_of_ble_eq_true rfl), (Nat.le_of_ble_eq_true rfl)⟩ rfl ⟨(Nat.le_of_ble_eq_true rfl), (Nat.le_of_ble_eq_true rfl)⟩ rfl

set_option maxRecDepth 100000 in
set_option maxHeartbeats 4000000 in
theorem X_heldShare {l : Launch} {G : tp_G} {x : Nat} {h0 h : tp_H} {u : Nat → Int32} {π ρ : Nat → Nat} {us : Nat → Nat → Int32} {σ : Nat → Nat} {st len : Int32} {tx rd : Nat → Int32} (hl : l.stackTraces = false) (hT0 : kx_S G x h0 u π ρ us σ st len tx rd h) {w c N : Nat} (hw : w < 4) (hc : c < 4) (hu8 : u 8 = nI N) (hN : N ≤ 8) (hq : z_fin (z_share u w c)) : tp_Met l G mX5_heldShare 0 0 [.ref x, .int (nI w), .int (nI c)] h (tp_PR (.double (z_share u w c)) h) tp_NX := by
  have hT := hT0.self
  have hB := hT.bk
  refine tp_start (L0 := [some (.ref x), some (.int (nI w)), some (.int (nI c)), none]) (by decide) rfl hl (Nat.le_of_ble_eq_true rfl) rfl ?_
  refine r_aload0 dX5_heldShare_0 ?_
  refine r_iload1 dX5_heldShare_1 ?_
  refine r_iload2 dX5_heldShare_2 ?_
  refine r_pV dX5_heldShare_3 v_X5_31 (X_purseAt hl hT hw hc) rfl (hT.ob) rfl rfl rfl (Nat.le_of_ble_eq_true rfl) ⟨(Nat.le_of_ble_eq_true rfl), (Nat.le_of_ble_eq_true rfl)⟩ ⟨(Nat.le_of_ble_eq_true rfl), (Nat.le_of_ble_eq_true rfl)⟩ ?_
  refine r_astore3 dX5_heldShare_6 (Nat.le_of_ble_eq_true rfl) rfl ?_
  refine r_aload3 dX5_heldShare_7 ?_
  refine r_getf dX5_heldShare_8 f_X5_57 (hB.pu hw hc) rfl ?_
  refine r_if_ne (tgt := 16) dX5_heldShare_11 (by decide) (fun c11 => ?_) (fun c11 => ?_)
  · refine r_aload0 dX5_heldShare_16 ?_
    refine r_getf dX5_heldShare_17 f_X5_10 (hT.ob) rfl ?_
    refine r_aload3 dX5_heldShare_20 ?_
    refine r_pV dX5_heldShare_21 v_X5_226 (K_keptIn hl hB hw hc hu8 hN) rfl (hB.ob) rfl rfl rfl (Nat.le_of_ble_eq_true rfl) ⟨(Nat.le_of_ble_eq_true rfl), (Nat.le_of_ble_eq_true rfl)⟩ ⟨(Nat.le_of_ble_eq_true rfl), (Nat.le_of_ble_eq_true rfl)⟩ ?_
    refine r_i2d dX5_heldShare_24 ?_
    refine r_aload3 dX5_heldShare_25 ?_
    refine r_getf dX5_heldShare_26 f_X5_57 (hB.pu hw hc) rfl ?_
    refine r_i2d dX5_heldShare_29 ?_
    refine r_ddiv dX5_heldShare_30 (by have := hq.1; unfold z_share at this; rw [if_neg c11, hu8, z_nI (by omega)] at this; exact this) ?_
    exact r_dret dX5_heldShare_31 rfl ⟨(Nat.le_of_ble_eq_true rfl), (Nat.le_of_ble_eq_true rfl)⟩ ⟨by unfold z_share; rw [hu8, z_nI (by omega)]; first | (rw [if_pos c11]; done) | (rw [if_pos (Classical.not_not.mp c11)]; done) | (rw [if_neg c11]; done), rfl⟩
  · refine r_dconst0 dX5_heldShare_14 ?_
    exact r_dret dX5_heldShare_15 rfl ⟨(Nat.le_of_ble_eq_true rfl), (Nat.le_of_ble_eq_true rfl)⟩ ⟨by unfold z_share; rw [hu8, z_nI (by omega)]; first | (rw [if_pos c11]; done) | (rw [if_pos (Classical.not_not.mp c11)]; done) | (rw [if_neg c11]; done), rfl⟩

set_option maxRecDepth 100000 in
set_option maxHeartbeats 4000000 in
theorem X_heldShare_1 {l : Launch} {G : tp_G} {x : Nat} {h0 h : tp_H} {u : Nat → Int32} {π ρ : Nat → Nat} {us : Nat → Nat → Int32} {σ : Nat → Nat} {st len : Int32} {tx rd : Nat → Int32} (hl : l.stackTraces = false) (hT0 : kx_S G x h0 u π ρ us σ st len tx rd h) {w c : Int32} (hbad : ¬ ((0 ≤ w ∧ w ≤ 3) ∧ (0 ≤ c ∧ c ≤ 3))) : tp_Met l G mX5_heldShare 1 6 [.ref x, .int w, .int c] h ((fun _ _ => False)) (kx_X "java/lang/IndexOutOfBoundsException" h) := by
  have hT := hT0.self
  have hB := hT.bk
  refine tp_start (L0 := [some (.ref x), some (.int w), some (.int c), none]) (by decide) rfl hl (Nat.le_of_ble_eq_true rfl) rfl ?_
  refine r_aload0 dX5_heldShare_0 ?_
  refine r_iload1 dX5_heldShare_1 ?_
  refine r_iload2 dX5_heldShare_2 ?_
  exact r_xV dX5_heldShare_3 v_X5_31 (X_purseAt_x hl hT hbad) rfl (hT.ob) rfl rfl rfl (Nat.le_of_ble_eq_true rfl) ⟨(Nat.le_of_ble_eq_true rfl), (Nat.le_of_ble_eq_true rfl)⟩ ⟨(Nat.le_of_ble_eq_true rfl), (Nat.le_of_ble_eq_true rfl)⟩ rfl ⟨(Nat.le_of_ble_eq_true rfl), (Nat.le_of_ble_eq_true rfl)⟩ rfl

