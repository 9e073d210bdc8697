def kx_X (E : String) (h : tp_H) : String → tp_H → Prop := fun E' h1 => E' = E ∧ h1.2 = h.2
theorem r_xV {l : Launch} {G : tp_G} {M : tp_M} {R : Room} {k n mc ms : Nat} {h h9 : tp_H} {pc : Nat} {L : List (Option Value)} {st : List Value} {Post : Option Value → tp_H → Prop} {M' : tp_M} {ix nA b ci : Nat} {As rest : List Value} {fs : List Value} {E : String} (hd : decode M.2.1 pc = .ok (.invokevirtual ix, 3)) (hc : tp_CV M.1.cls ix M' nA) (hM : tp_Met l G M' 1 6 (.ref b :: As) h (fun _ _ => False) (kx_X E h)) (hh : M'.2.2.2.2.2.2 = []) (hb : h.2 b = some (.inr (ci, fs))) (hci : (vwCl[ci]?).map (·.1) = some M'.1.cls) (hn : As.length = nA) (hst : st = As.reverse ++ .ref b :: rest) (hcat : (rest.map fun v => v.category).sum ≤ 8) (hrm : tp_RM R M') (hk : k + 1 ≤ R.cells ∧ n + 6 ≤ R.slots) (hh0 : M.2.2.2.2.2.2 = []) (hk2 : k + 1 ≤ mc ∧ n + 6 ≤ ms) (e : h.2 = h9.2) : tp_Run l G M R (tp_QM G mc ms Post (kx_X E h9)) k n h pc L st :=
  r_callV hd hc hM hh hb hci hn hst hcat hrm hk (fun _ _ hp => hp.elim) (fun _ _ hp => r_outX hh0 hk2 ⟨hp.1, hp.2.trans e⟩)
set_option maxRecDepth 100000 in
set_option maxHeartbeats 4000000 in
theorem X_purseAt {l : Launch} {G : tp_G} {x : Nat} {h0 h : tp_H} {u : Nat → Int32} {π ρ : Nat → Nat} {us : Nat → Nat → Int32} {σ : Nat → Nat} {st len : Int32} {tx rd : Nat → Int32} (hl : l.stackTraces = false) (hT0 : kx_S G x h0 u π ρ us σ st len tx rd h) {w c : Nat} (hw : w < 4) (hc : c < 4) : tp_Met l G mX5_purseAt 0 0 [.ref x, .int (nI w), .int (nI c)] h (tp_PR (.ref (kp (x + 1) w c)) h) tp_NX := by
  have hT := hT0.self
  have hB := hT.bk
  refine tp_start (L0 := [some (.ref x), some (.int (nI w)), some (.int (nI c))]) (by decide) rfl hl (Nat.le_of_ble_eq_true rfl) rfl ?_
  refine r_iload1 dX5_purseAt_0 ?_
  refine r_if_lt (tgt := 18) dX5_purseAt_1 (by decide) (fun c1 => ?_) (fun c1 => ?_)
  · exact absurd c1 (nI_pos (by omega))
  · refine r_iload1 dX5_purseAt_4 ?_
    refine r_iconst (v := 4) dX5_purseAt_5 (by decide) ?_
    refine r_icmp_ge (tgt := 18) dX5_purseAt_6 (by decide) (fun c6 => ?_) (fun c6 => ?_)
    · rw [show (4 : Int32) = nI 4 from rfl, tp_le (by omega) (by omega)] at c6; omega
    · refine r_iload2 dX5_purseAt_9 ?_
      refine r_if_lt (tgt := 18) dX5_purseAt_10 (by decide) (fun c10 => ?_) (fun c10 => ?_)
      · exact absurd c10 (nI_pos (by omega))
      · refine r_iload2 dX5_purseAt_13 ?_
        refine r_iconst (v := 4) dX5_purseAt_14 (by decide) ?_
        refine r_icmp_lt (tgt := 29) dX5_purseAt_15 (by decide) (fun c15 => ?_) (fun c15 => ?_)
        · refine r_aload0 dX5_purseAt_29 ?_
          refine r_getf dX5_purseAt_30 f_X5_10 (hT.ob) rfl ?_
          refine r_getf dX5_purseAt_33 f_X5_323 (hB.ob) rfl ?_
          refine r_iload1 dX5_purseAt_36 ?_
          refine r_iconst (v := 4) dX5_purseAt_37 (by decide) ?_
          refine r_imul dX5_purseAt_38 ?_
          refine r_iload2 dX5_purseAt_39 ?_
          refine r_iadd dX5_purseAt_40 ?_
          rw [show nI w * 4 + nI c = nI (4 * w + c) from by rw [show (4 : Int32) = nI 4 from rfl, tp_mul, tp_add, Nat.mul_comm]]
          refine r_aald (t := 6) dX5_purseAt_41 (by decide) hB.pus (i := 4 * w + c) rfl (by omega) (by decide) (b := kp (x + 1) w c) (kF_at (by omega)) ?_
          exact r_aret dX5_purseAt_42 rfl ⟨(Nat.le_of_ble_eq_true rfl), (Nat.le_of_ble_eq_true rfl)⟩ ⟨rfl, rfl⟩
        · rw [show (4 : Int32) = nI 4 from rfl, tp_lt (by omega) (by omega)] at c15; omega

theorem tp_lt4 {v : Int32} (h : v < 4) : v ≤ 3 := by
  rw [Int32.lt_iff_toInt_lt] at h
  rw [Int32.le_iff_toInt_le]
  have e4 : (4 : Int32).toInt = 4 := rfl
  have e3 : (3 : Int32).toInt = 3 := rfl
  omega
set_option maxRecDepth 100000 in
set_option maxHeartbeats 4000000 in
theorem X_purseAt_x {l : Launch} {G : tp_G} {x : Nat} {h0 h : tp_H} {u : Nat → Int32} {π ρ : Nat → Nat} {us : Nat → Nat → Int32} {σ : Nat → Nat} {st len : Int32} {tx rd : Nat → Int32} (hl : l.stackTraces = false) (hT0 : kx_S G x h0 u π ρ us σ st len tx rd h) {w c : Int32} (hbad : ¬ ((0 ≤ w ∧ w ≤ 3) ∧ (0 ≤ c ∧ c ≤ 3))) : tp_Met l G mX5_purseAt 1 6 [.ref x, .int w, .int c] h ((fun _ _ => False)) (kx_X "java/lang/IndexOutOfBoundsException" h) := by
  have hT := hT0.self
  have hB := hT.bk
  refine tp_start (L0 := [some (.ref x), some (.int w), some (.int c)]) (by decide) rfl hl (Nat.le_of_ble_eq_true rfl) rfl ?_
  refine r_iload1 dX5_purseAt_0 ?_
  refine r_if_lt (tgt := 18) dX5_purseAt_1 (by decide) (fun c1 => ?_) (fun c1 => ?_)
  · exact r_throwSW (is := 321) (text := "no such wallet or currency") xl_IndexOutOfBoundsException rfl (by decide) rfl (Nat.le_of_ble_eq_true rfl) (Nat.le_of_ble_eq_true rfl) ⟨(Nat.le_of_ble_eq_true rfl), (Nat.le_of_ble_eq_true rfl)⟩ ⟨(Nat.le_of_ble_eq_true rfl), (Nat.le_of_ble_eq_true rfl)⟩ dX5_purseAt_18 dX5_purseAt_21 dX5_purseAt_22 dX5_purseAt_25 dX5_purseAt_28 (fun n' hn => ⟨rfl, rfl⟩)
  · refine r_iload1 dX5_purseAt_4 ?_
    refine r_iconst (v := 4) dX5_purseAt_5 (by decide) ?_
    refine r_icmp_ge (tgt := 18) dX5_purseAt_6 (by decide) (fun c6 => ?_) (fun c6 => ?_)
    · exact r_throwSW (is := 321) (text := "no such wallet or currency") xl_IndexOutOfBoundsException rfl (by decide) rfl (Nat.le_of_ble_eq_true rfl) (Nat.le_of_ble_eq_true rfl) ⟨(Nat.le_of_ble_eq_true rfl), (Nat.le_of_ble_eq_true rfl)⟩ ⟨(Nat.le_of_ble_eq_true rfl), (Nat.le_of_ble_eq_true rfl)⟩ dX5_purseAt_18 dX5_purseAt_21 dX5_purseAt_22 dX5_purseAt_25 dX5_purseAt_28 (fun n' hn => ⟨rfl, rfl⟩)
    · refine r_iload2 dX5_purseAt_9 ?_
      refine r_if_lt (tgt := 18) dX5_purseAt_10 (by decide) (fun c10 => ?_) (fun c10 => ?_)
      · exact r_throwSW (is := 321) (text := "no such wallet or currency") xl_IndexOutOfBoundsException rfl (by decide) rfl (Nat.le_of_ble_eq_true rfl) (Nat.le_of_ble_eq_true rfl) ⟨(Nat.le_of_ble_eq_true rfl), (Nat.le_of_ble_eq_true rfl)⟩ ⟨(Nat.le_of_ble_eq_true rfl), (Nat.le_of_ble_eq_true rfl)⟩ dX5_purseAt_18 dX5_purseAt_21 dX5_purseAt_22 dX5_purseAt_25 dX5_purseAt_28 (fun n' hn => ⟨rfl, rfl⟩)
      · refine r_iload2 dX5_purseAt_13 ?_
        refine r_iconst (v := 4) dX5_purseAt_14 (by decide) ?_
        refine r_icmp_lt (tgt := 29) dX5_purseAt_15 (by decide) (fun c15 => ?_) (fun c15 => ?_)
        · exact absurd ⟨⟨Int32.not_lt.mp c1, tp_lt4 (Int32.not_le.mp c6)⟩, Int32.not_lt.mp c10, tp_lt4 c15⟩ hbad
        · exact r_throwSW (is := 321) (text := "no such wallet or currency") xl_IndexOutOfBoundsException rfl (by decide) rfl (Nat.le_of_ble_eq_true rfl) (Nat.le_of_ble_eq_true rfl) ⟨(Nat.le_of_ble_eq_true rfl), (Nat.le_of_ble_eq_true rfl)⟩ ⟨(Nat.le_of_ble_eq_true rfl), (Nat.le_of_ble_eq_true rfl)⟩ dX5_purseAt_18 dX5_purseAt_21 dX5_purseAt_22 dX5_purseAt_25 dX5_purseAt_28 (fun n' hn => ⟨rfl, rfl⟩)

set_option maxRecDepth 100000 in
set_option maxHeartbeats 4000000 in
theorem X_foreignPurseAt {l : Launch} {G : tp_G} {x : Nat} {h0 h : tp_H} {u : Nat → Int32} {π ρ : Nat → Nat} {us : Nat → Nat → Int32} {σ : Nat → Nat} {st len : Int32} {tx rd : Nat → Int32} (hl : l.stackTraces = false) (hT0 : kx_S G x h0 u π ρ us σ st len tx rd h) {w c : Nat} (hw : w < 4) (hc : c < 4) (h0c : 0 < c) : tp_Met l G mX5_foreignPurseAt 0 0 [.ref x, .int (nI w), .int (nI c)] h (tp_PR (.ref (kp (x + 1) w c)) h) tp_NX := by
  have hT := hT0.self
  have hB := hT.bk
  refine tp_start (L0 := [some (.ref x), some (.int (nI w)), some (.int (nI c))]) (by decide) rfl hl (Nat.le_of_ble_eq_true rfl) rfl ?_
  refine r_iload2 dX5_foreignPurseAt_0 ?_
  refine r_if_ne (tgt := 15) dX5_foreignPurseAt_1 (by decide) (fun c1 => ?_) (fun c1 => ?_)
  · refine r_aload0 dX5_foreignPurseAt_15 ?_
    refine r_iload1 dX5_foreignPurseAt_16 ?_
    refine r_iload2 dX5_foreignPurseAt_17 ?_
    refine r_pV dX5_foreignPurseAt_18 v_X5_31 (X_purseAt hl hT hw hc) rfl (hT.ob) rfl rfl rfl (Nat.le_of_ble_eq_true rfl) ⟨(Nat.le_of_ble_eq_true rfl), (Nat.le_of_ble_eq_true rfl)⟩ ⟨(Nat.le_of_ble_eq_true rfl), (Nat.le_of_ble_eq_true rfl)⟩ ?_
    exact r_aret dX5_foreignPurseAt_21 rfl ⟨(Nat.le_of_ble_eq_true rfl), (Nat.le_of_ble_eq_true rfl)⟩ ⟨rfl, rfl⟩
  · exact absurd ((tp_eq (show c < 2 ^ 31 by omega) (show 0 < 2 ^ 31 by omega)).mp (by first | exact c1 | exact Classical.not_not.mp c1)) (by omega)

theorem tp_0lt {v : Int32} (h : 0 ≤ v) (h0 : ¬ v = 0) : 0 < v := by
  rw [Int32.le_iff_toInt_le] at h
  rw [Int32.lt_iff_toInt_lt]
  have e0 : (0 : Int32).toInt = 0 := rfl
  have : v.toInt ≠ 0 := fun q => h0 (Int32.toInt_inj.mp (q.trans e0.symm))
  omega
set_option maxRecDepth 100000 in
set_option maxHeartbeats 4000000 in
theorem X_foreignPurseAt_x {l : Launch} {G : tp_G} {x : Nat} {h0 h : tp_H} {u : Nat → Int32} {π ρ : Nat → Nat} {us : Nat → Nat → Int32} {σ : Nat → Nat} {st len : Int32} {tx rd : Nat → Int32} (hl : l.stackTraces = false) (hT0 : kx_S G x h0 u π ρ us σ st len tx rd h) {w c : Int32} (hbad : ¬ (((0 ≤ w ∧ w ≤ 3) ∧ (0 ≤ c ∧ c ≤ 3)) ∧ 0 < c)) : tp_Met l G mX5_foreignPurseAt 1 6 [.ref x, .int w, .int c] h ((fun _ _ => False)) (kx_X "java/lang/IndexOutOfBoundsException" h) := by
  have hT := hT0.self
  have hB := hT.bk
  refine tp_start (L0 := [some (.ref x), some (.int w), some (.int c)]) (by decide) rfl hl (Nat.le_of_ble_eq_true rfl) rfl ?_
  refine r_iload2 dX5_foreignPurseAt_0 ?_
  refine r_if_ne (tgt := 15) dX5_foreignPurseAt_1 (by decide) (fun c1 => ?_) (fun c1 => ?_)
  · refine r_aload0 dX5_foreignPurseAt_15 ?_
    refine r_iload1 dX5_foreignPurseAt_16 ?_
    refine r_iload2 dX5_foreignPurseAt_17 ?_
    exact r_xV dX5_foreignPurseAt_18 v_X5_31 (X_purseAt_x hl hT (fun q => hbad ⟨q, tp_0lt q.2.1 c1⟩)) rfl (hT.ob) rfl rfl rfl (Nat.le_of_ble_eq_true rfl) ⟨(Nat.le_of_ble_eq_true rfl), (Nat.le_of_ble_eq_true rfl)⟩ ⟨(Nat.le_of_ble_eq_true rfl), (Nat.le_of_ble_eq_true rfl)⟩ rfl ⟨(Nat.le_of_ble_eq_true rfl), (Nat.le_of_ble_eq_true rfl)⟩ rfl
  · exact r_throwSW (is := 327) (text := "home money has no rate") xl_IndexOutOfBoundsException rfl (by decide) rfl (Nat.le_of_ble_eq_true rfl) (Nat.le_of_ble_eq_true rfl) ⟨(Nat.le_of_ble_eq_true rfl), (Nat.le_of_ble_eq_true rfl)⟩ ⟨(Nat.le_of_ble_eq_true rfl), (Nat.le_of_ble_eq_true rfl)⟩ dX5_foreignPurseAt_4 dX5_foreignPurseAt_7 dX5_foreignPurseAt_8 dX5_foreignPurseAt_11 dX5_foreignPurseAt_14 (fun n' hn => ⟨rfl, rfl⟩)

set_option maxRecDepth 100000 in
set_option maxHeartbeats 4000000 in
theorem X_holdAt {l : Launch} {G : tp_G} {x : Nat} {h0 h : tp_H} {u : Nat → Int32} {π ρ : Nat → Nat} {us : Nat → Nat → Int32} {σ : Nat → Nat} {st len : Int32} {tx rd : Nat → Int32} (hl : l.stackTraces = false) (hT0 : kx_S G x h0 u π ρ us σ st len tx rd h) {j N : Nat} (hu8 : u 8 = nI N) (hN : N ≤ 8) (hj : j < N) : tp_Met l G mX5_holdAt 0 0 [.ref x, .int (nI j)] h (tp_PR (.ref ((x + 1) + 22 + π j)) h) tp_NX := by
  have hT := hT0.self
  have hB := hT.bk
  refine tp_start (L0 := [some (.ref x), some (.int (nI j))]) (by decide) rfl hl (Nat.le_of_ble_eq_true rfl) rfl ?_
  refine r_iload1 dX5_holdAt_0 ?_
  refine r_if_lt (tgt := 27) dX5_holdAt_1 (by decide) (fun c1 => ?_) (fun c1 => ?_)
  · exact absurd c1 (nI_pos (by omega))
  · refine r_iload1 dX5_holdAt_4 ?_
    refine r_aload0 dX5_holdAt_5 ?_
    refine r_getf dX5_holdAt_6 f_X5_10 (hT.ob) rfl ?_
    refine r_getf dX5_holdAt_9 f_X5_253 (hB.ob) rfl ?_
    refine r_icmp_ge (tgt := 27) dX5_holdAt_12 (by decide) (fun c12 => ?_) (fun c12 => ?_)
    · rw [hu8, tp_le (by omega) (by omega)] at c12; omega
    · refine r_iload1 dX5_holdAt_15 ?_
      refine r_aload0 dX5_holdAt_16 ?_
      refine r_getf dX5_holdAt_17 f_X5_10 (hT.ob) rfl ?_
      refine r_getf dX5_holdAt_20 f_X5_329 (hB.ob) rfl ?_
      refine r_alen dX5_holdAt_23 (t := 4) (by decide) hB.hos ?_
      refine r_icmp_lt (tgt := 38) dX5_holdAt_24 (by decide) (fun c24 => ?_) (fun c24 => ?_)
      · refine r_aload0 dX5_holdAt_38 ?_
        refine r_getf dX5_holdAt_39 f_X5_10 (hT.ob) rfl ?_
        refine r_getf dX5_holdAt_42 f_X5_329 (hB.ob) rfl ?_
        refine r_iload1 dX5_holdAt_45 ?_
        refine r_aald (t := 4) dX5_holdAt_46 (by decide) hB.hos (i := j) rfl (by omega) (by decide) (kFp_at (by omega)) ?_
        exact r_aret dX5_holdAt_47 rfl ⟨(Nat.le_of_ble_eq_true rfl), (Nat.le_of_ble_eq_true rfl)⟩ ⟨rfl, rfl⟩
      · rw [tp_lt (by omega) (show 8 < 2 ^ 31 by decide)] at c24; omega

theorem tp_ltm {v b : Int32} {N : Nat} (hb : b = nI N) (hN : N < 2 ^ 31) (h : v < b) : v ≤ b - 1 := by
  subst hb
  rw [Int32.lt_iff_toInt_lt, nI_toInt hN] at h
  rw [Int32.le_iff_toInt_le]
  have h1 : (1 : Int32).toInt = 1 := rfl
  have h2 : v.toInt ≥ -2147483648 := Int32.le_toInt v
  by_cases hz : N = 0
  · subst hz
    have : (nI 0 - 1).toInt = -1 := by decide
    omega
  · rw [tp_m1 (by omega), nI_toInt (by omega)]
    omega
set_option maxRecDepth 100000 in
set_option maxHeartbeats 4000000 in
theorem X_holdAt_x {l : Launch} {G : tp_G} {x : Nat} {h0 h : tp_H} {u : Nat → Int32} {π ρ : Nat → Nat} {us : Nat → Nat → Int32} {σ : Nat → Nat} {st len : Int32} {tx rd : Nat → Int32} (hl : l.stackTraces = false) (hT0 : kx_S G x h0 u π ρ us σ st len tx rd h) {v : Int32} {N : Nat} (hu8 : u 8 = nI N) (hN : N ≤ 8) (hbad : ¬ (0 ≤ v ∧ v ≤ u 8 - 1)) : tp_Met l G mX5_holdAt 1 6 [.ref x, .int v] h ((fun _ _ => False)) (kx_X "java/lang/IndexOutOfBoundsException" h) := by
  have hT := hT0.self
  have hB := hT.bk
  refine tp_start (L0 := [some (.ref x), some (.int v)]) (by decide) rfl hl (Nat.le_of_ble_eq_true rfl) rfl ?_
  refine r_iload1 dX5_holdAt_0 ?_
  refine r_if_lt (tgt := 27) dX5_holdAt_1 (by decide) (fun c1 => ?_) (fun c1 => ?_)
  · exact r_throwSW (is := 333) (text := "no such hold") xl_IndexOutOfBoundsException rfl (by decide) rfl (Nat.le_of_ble_eq_true rfl) (Nat.le_of_ble_eq_true rfl) ⟨(Nat.le_of_ble_eq_true rfl), (Nat.le_of_ble_eq_true rfl)⟩ ⟨(Nat.le_of_ble_eq_true rfl), (Nat.le_of_ble_eq_true rfl)⟩ dX5_holdAt_27 dX5_holdAt_30 dX5_holdAt_31 dX5_holdAt_34 dX5_holdAt_37 (fun n' hn => ⟨rfl, rfl⟩)
  · refine r_iload1 dX5_holdAt_4 ?_
    refine r_aload0 dX5_holdAt_5 ?_
    refine r_getf dX5_holdAt_6 f_X5_10 (hT.ob) rfl ?_
    refine r_getf dX5_holdAt_9 f_X5_253 (hB.ob) rfl ?_
    refine r_icmp_ge (tgt := 27) dX5_holdAt_12 (by decide) (fun c12 => ?_) (fun c12 => ?_)
    · exact r_throwSW (is := 333) (text := "no such hold") xl_IndexOutOfBoundsException rfl (by decide) rfl (Nat.le_of_ble_eq_true rfl) (Nat.le_of_ble_eq_true rfl) ⟨(Nat.le_of_ble_eq_true rfl), (Nat.le_of_ble_eq_true rfl)⟩ ⟨(Nat.le_of_ble_eq_true rfl), (Nat.le_of_ble_eq_true rfl)⟩ dX5_holdAt_27 dX5_holdAt_30 dX5_holdAt_31 dX5_holdAt_34 dX5_holdAt_37 (fun n' hn => ⟨rfl, rfl⟩)
    · refine r_iload1 dX5_holdAt_15 ?_
      refine r_aload0 dX5_holdAt_16 ?_
      refine r_getf dX5_holdAt_17 f_X5_10 (hT.ob) rfl ?_
      refine r_getf dX5_holdAt_20 f_X5_329 (hB.ob) rfl ?_
      refine r_alen dX5_holdAt_23 (t := 4) (by decide) hB.hos ?_
      refine r_icmp_lt (tgt := 38) dX5_holdAt_24 (by decide) (fun c24 => ?_) (fun c24 => ?_)
      · exact absurd ⟨Int32.not_lt.mp c1, tp_ltm hu8 (by omega) (Int32.not_le.mp c12)⟩ hbad
      · exact r_throwSW (is := 333) (text := "no such hold") xl_IndexOutOfBoundsException rfl (by decide) rfl (Nat.le_of_ble_eq_true rfl) (Nat.le_of_ble_eq_true rfl) ⟨(Nat.le_of_ble_eq_true rfl), (Nat.le_of_ble_eq_true rfl)⟩ ⟨(Nat.le_of_ble_eq_true rfl), (Nat.le_of_ble_eq_true rfl)⟩ dX5_holdAt_27 dX5_holdAt_30 dX5_holdAt_31 dX5_holdAt_34 dX5_holdAt_37 (fun n' hn => ⟨rfl, rfl⟩)

set_option maxRecDepth 100000 in
set_option maxHeartbeats 4000000 in
theorem X_paymentAt {l : Launch} {G : tp_G} {x : Nat} {h0 h : tp_H} {u : Nat → Int32} {π ρ : Nat → Nat} {us : Nat → Nat → Int32} {σ : Nat → Nat} {st len : Int32} {tx rd : Nat → Int32} (hl : l.stackTraces = false) (hT0 : kx_S G x h0 u π ρ us σ st len tx rd h) {j N : Nat} (hu8 : u 9 = nI N) (hN : N ≤ 12) (hj : j < N) : tp_Met l G mX5_paymentAt 0 0 [.ref x, .int (nI j)] h (tp_PR (.ref ((x + 1) + 30 + j)) h) tp_NX := by
  have hT := hT0.self
  have hB := hT.bk
  refine tp_start (L0 := [some (.ref x), some (.int (nI j))]) (by decide) rfl hl (Nat.le_of_ble_eq_true rfl) rfl ?_
  refine r_iload1 dX5_paymentAt_0 ?_
  refine r_if_lt (tgt := 27) dX5_paymentAt_1 (by decide) (fun c1 => ?_) (fun c1 => ?_)
  · exact absurd c1 (nI_pos (by omega))
  · refine r_iload1 dX5_paymentAt_4 ?_
    refine r_aload0 dX5_paymentAt_5 ?_
    refine r_getf dX5_paymentAt_6 f_X5_10 (hT.ob) rfl ?_
    refine r_getf dX5_paymentAt_9 f_X5_123 (hB.ob) rfl ?_
    refine r_icmp_ge (tgt := 27) dX5_paymentAt_12 (by decide) (fun c12 => ?_) (fun c12 => ?_)
    · rw [hu8, tp_le (by omega) (by omega)] at c12; omega
    · refine r_iload1 dX5_paymentAt_15 ?_
      refine r_aload0 dX5_paymentAt_16 ?_
      refine r_getf dX5_paymentAt_17 f_X5_10 (hT.ob) rfl ?_
      refine r_getf dX5_paymentAt_20 f_X5_335 (hB.ob) rfl ?_
      refine r_alen dX5_paymentAt_23 (t := 5) (by decide) hB.pas ?_
      refine r_icmp_lt (tgt := 38) dX5_paymentAt_24 (by decide) (fun c24 => ?_) (fun c24 => ?_)
      · refine r_aload0 dX5_paymentAt_38 ?_
        refine r_getf dX5_paymentAt_39 f_X5_10 (hT.ob) rfl ?_
        refine r_getf dX5_paymentAt_42 f_X5_335 (hB.ob) rfl ?_
        refine r_iload1 dX5_paymentAt_45 ?_
        refine r_aald (t := 5) dX5_paymentAt_46 (by decide) hB.pas (i := j) rfl (by omega) (by decide) (kF_at (by omega)) ?_
        exact r_aret dX5_paymentAt_47 rfl ⟨(Nat.le_of_ble_eq_true rfl), (Nat.le_of_ble_eq_true rfl)⟩ ⟨rfl, rfl⟩
      · rw [tp_lt (by omega) (show 12 < 2 ^ 31 by decide)] at c24; omega

set_option maxRecDepth 100000 in
set_option maxHeartbeats 4000000 in
theorem X_paymentAt_x {l : Launch} {G : tp_G} {x : Nat} {h0 h : tp_H} {u : Nat → Int32} {π ρ : Nat → Nat} {us : Nat → Nat → Int32} {σ : Nat → Nat} {st len : Int32} {tx rd : Nat → Int32} (hl : l.stackTraces = false) (hT0 : kx_S G x h0 u π ρ us σ st len tx rd h) {v : Int32} {N : Nat} (hu8 : u 9 = nI N) (hN : N ≤ 12) (hbad : ¬ (0 ≤ v ∧ v ≤ u 9 - 1)) : tp_Met l G mX5_paymentAt 1 6 [.ref x, .int v] h ((fun _ _ => False)) (kx_X "java/lang/IndexOutOfBoundsException" h) := by
  have hT := hT0.self
  have hB := hT.bk
  refine tp_start (L0 := [some (.ref x), some (.int v)]) (by decide) rfl hl (Nat.le_of_ble_eq_true rfl) rfl ?_
  refine r_iload1 dX5_paymentAt_0 ?_
  refine r_if_lt (tgt := 27) dX5_paymentAt_1 (by decide) (fun c1 => ?_) (fun c1 => ?_)
  · exact r_throwSW (is := 339) (text := "no such payment") xl_IndexOutOfBoundsException rfl (by decide) rfl (Nat.le_of_ble_eq_true rfl) (Nat.le_of_ble_eq_true rfl) ⟨(Nat.le_of_ble_eq_true rfl), (Nat.le_of_ble_eq_true rfl)⟩ ⟨(Nat.le_of_ble_eq_true rfl), (Nat.le_of_ble_eq_true rfl)⟩ dX5_paymentAt_27 dX5_paymentAt_30 dX5_paymentAt_31 dX5_paymentAt_34 dX5_paymentAt_37 (fun n' hn => ⟨rfl, rfl⟩)
  · refine r_iload1 dX5_paymentAt_4 ?_
    refine r_aload0 dX5_paymentAt_5 ?_
    refine r_getf dX5_paymentAt_6 f_X5_10 (hT.ob) rfl ?_
    refine r_getf dX5_paymentAt_9 f_X5_123 (hB.ob) rfl ?_
    refine r_icmp_ge (tgt := 27) dX5_paymentAt_12 (by decide) (fun c12 => ?_) (fun c12 => ?_)
    · exact r_throwSW (is := 339) (text := "no such payment") xl_IndexOutOfBoundsException rfl (by decide) rfl (Nat.le_of_ble_eq_true rfl) (Nat.le_of_ble_eq_true rfl) ⟨(Nat.le_of_ble_eq_true rfl), (Nat.le_of_ble_eq_true rfl)⟩ ⟨(Nat.le_of_ble_eq_true rfl), (Nat.le_of_ble_eq_true rfl)⟩ dX5_paymentAt_27 dX5_paymentAt_30 dX5_paymentAt_31 dX5_paymentAt_34 dX5_paymentAt_37 (fun n' hn => ⟨rfl, rfl⟩)
    · refine r_iload1 dX5_paymentAt_15 ?_
      refine r_aload0 dX5_paymentAt_16 ?_
      refine r_getf dX5_paymentAt_17 f_X5_10 (hT.ob) rfl ?_
      refine r_getf dX5_paymentAt_20 f_X5_335 (hB.ob) rfl ?_
      refine r_alen dX5_paymentAt_23 (t := 5) (by decide) hB.pas ?_
      refine r_icmp_lt (tgt := 38) dX5_paymentAt_24 (by decide) (fun c24 => ?_) (fun c24 => ?_)
      · exact absurd ⟨Int32.not_lt.mp c1, tp_ltm hu8 (by omega) (Int32.not_le.mp c12)⟩ hbad
      · exact r_throwSW (is := 339) (text := "no such payment") xl_IndexOutOfBoundsException rfl (by decide) rfl (Nat.le_of_ble_eq_true rfl) (Nat.le_of_ble_eq_true rfl) ⟨(Nat.le_of_ble_eq_true rfl), (Nat.le_of_ble_eq_true rfl)⟩ ⟨(Nat.le_of_ble_eq_true rfl), (Nat.le_of_ble_eq_true rfl)⟩ dX5_paymentAt_27 dX5_paymentAt_30 dX5_paymentAt_31 dX5_paymentAt_34 dX5_paymentAt_37 (fun n' hn => ⟨rfl, rfl⟩)

set_option maxRecDepth 100000 in
set_option maxHeartbeats 4000000 in
theorem X_requireAmount {l : Launch} {G : tp_G} {x : Nat} {h0 h : tp_H} {u : Nat → Int32} {π ρ : Nat → Nat} {us : Nat → Nat → Int32} {σ : Nat → Nat} {st len : Int32} {tx rd : Nat → Int32} (hl : l.stackTraces = false) (hT0 : kx_S G x h0 u π ρ us σ st len tx rd h) {a : Int32} (ha : 1 ≤ a ∧ a ≤ 99999) : tp_Met l G mX5_requireAmount 0 0 [.ref x, .int a] h (tp_PS none (fun h1 => h1 = h)) tp_NX := by
  have hT := hT0.self
  refine tp_start (L0 := [some (.ref x), some (.int a)]) (by decide) rfl hl (Nat.le_of_ble_eq_true rfl) rfl ?_
  refine r_iload1 dX5_requireAmount_0 ?_
  refine r_iconst (v := 1) dX5_requireAmount_1 (by decide) ?_
  refine r_icmp_lt (tgt := 12) dX5_requireAmount_2 (by decide) (fun c2 => ?_) (fun c2 => ?_)
  · exact absurd c2 (Int32.not_lt.mpr ha.1)
  · refine r_iload1 dX5_requireAmount_5 ?_
    refine r_ldcw dX5_requireAmount_6 c_X5_289 ?_
    refine r_icmp_le (tgt := 23) dX5_requireAmount_9 (by decide) (fun c9 => ?_) (fun c9 => ?_)
    · exact r_vret dX5_requireAmount_23 rfl ⟨(Nat.le_of_ble_eq_true rfl), (Nat.le_of_ble_eq_true rfl)⟩ ⟨rfl, rfl⟩
    · exact absurd ha.2 c9

set_option maxRecDepth 100000 in
set_option maxHeartbeats 4000000 in
theorem X_requireAmount_x {l : Launch} {G : tp_G} {x : Nat} {h0 h : tp_H} {u : Nat → Int32} {π ρ : Nat → Nat} {us : Nat → Nat → Int32} {σ : Nat → Nat} {st len : Int32} {tx rd : Nat → Int32} (hl : l.stackTraces = false) (hT0 : kx_S G x h0 u π ρ us σ st len tx rd h) {a : Int32} (hbad : ¬ (1 ≤ a ∧ a ≤ 99999)) : tp_Met l G mX5_requireAmount 1 6 [.ref x, .int a] h ((fun _ _ => False)) (kx_X "java/lang/IllegalArgumentException" h) := by
  have hT := hT0.self
  have hB := hT.bk
  refine tp_start (L0 := [some (.ref x), some (.int a)]) (by decide) rfl hl (Nat.le_of_ble_eq_true rfl) rfl ?_
  refine r_iload1 dX5_requireAmount_0 ?_
  refine r_iconst (v := 1) dX5_requireAmount_1 (by decide) ?_
  refine r_icmp_lt (tgt := 12) dX5_requireAmount_2 (by decide) (fun c2 => ?_) (fun c2 => ?_)
  · exact r_throwSW (is := 286) (text := "amount out of range") xl_IllegalArgumentException rfl (by decide) rfl (Nat.le_of_ble_eq_true rfl) (Nat.le_of_ble_eq_true rfl) ⟨(Nat.le_of_ble_eq_true rfl), (Nat.le_of_ble_eq_true rfl)⟩ ⟨(Nat.le_of_ble_eq_true rfl), (Nat.le_of_ble_eq_true rfl)⟩ dX5_requireAmount_12 dX5_requireAmount_15 dX5_requireAmount_16 dX5_requireAmount_19 dX5_requireAmount_22 (fun n' hn => ⟨rfl, rfl⟩)
  · refine r_iload1 dX5_requireAmount_5 ?_
    refine r_ldcw dX5_requireAmount_6 c_X5_289 ?_
    refine r_icmp_le (tgt := 23) dX5_requireAmount_9 (by decide) (fun c9 => ?_) (fun c9 => ?_)
    · exact absurd ⟨Int32.not_lt.mp c2, c9⟩ hbad
    · exact r_throwSW (is := 286) (text := "amount out of range") xl_IllegalArgumentException rfl (by decide) rfl (Nat.le_of_ble_eq_true rfl) (Nat.le_of_ble_eq_true rfl) ⟨(Nat.le_of_ble_eq_true rfl), (Nat.le_of_ble_eq_true rfl)⟩ ⟨(Nat.le_of_ble_eq_true rfl), (Nat.le_of_ble_eq_true rfl)⟩ dX5_requireAmount_12 dX5_requireAmount_15 dX5_requireAmount_16 dX5_requireAmount_19 dX5_requireAmount_22 (fun n' hn => ⟨rfl, rfl⟩)

