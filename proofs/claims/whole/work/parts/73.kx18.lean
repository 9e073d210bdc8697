theorem z_in_fr {z : Nat → Int32} {w c : Nat} {m : Int32} {q : Nat} (h1 : q ≠ z_at w c) (h2 : q ≠ z_at w c + 1) (h3 : q ≠ 15) : z_in z w c m q = z q := by
  unfold z_in
  rw [va_up_ne' _ _ h1, va_up_ne' _ _ h3, va_up_ne' _ _ h2]
def c_ok (u pa : Nat → Int32) (R : Nat) : Bool :=
  if pa (5 * R) = 108 then decide (u (z_at (z_n (pa (5 * R + 1))) 0) ≤ 1000000 - pa (5 * R + 4))
  else if pa (5 * R) = 120 then decide (z_whyEx u (z_n (pa (5 * R + 1))) (z_n (pa (5 * R + 2))) (z_n (pa (5 * R + 3))) (pa (5 * R + 4)) = 0)
  else decide (z_whyHold u (z_n (pa (5 * R + 1))) (z_n (pa (5 * R + 2))) (pa (5 * R + 4)) = 0)
def c_do (u pa : Nat → Int32) (R : Nat) : Nat → Int32 :=
  if pa (5 * R) = 108 then k_load u (z_n (pa (5 * R + 1))) (pa (5 * R + 4))
  else if pa (5 * R) = 120 then k_conv u (z_n (pa (5 * R + 1))) (z_n (pa (5 * R + 2))) (z_n (pa (5 * R + 3))) (pa (5 * R + 4))
  else k_hold u (z_n (u 8)) (z_n (pa (5 * R + 1))) (z_n (pa (5 * R + 2))) (pa (5 * R + 4))
def r_many (ok : (Nat → Int32) → Nat → Bool) (f : (Nat → Int32) → Nat → Nat → Int32) : Nat → Nat → (Nat → Int32) → Nat × (Nat → Int32)
  | 0, i, u => (i, u)
  | d + 1, i, u => if ok u i = true then r_many ok f d (i + 1) (f u i) else (i, u)
theorem k_load_8 {u : Nat → Int32} {w : Nat} {a : Int32} : k_load u w a 8 = u 8 := by
  unfold k_load
  rw [z_in_fr (by unfold z_at; omega) (by unfold z_at; omega) (by omega), va_up_ne' _ _ (by omega)]
theorem k_conv_8 {u : Nat → Int32} {w f t : Nat} {a : Int32} : k_conv u w f t a 8 = u 8 := by
  unfold k_conv
  rw [z_in_fr (by unfold z_at; omega) (by unfold z_at; omega) (by omega), va_up_ne' _ _ (by unfold z_at; omega)]
  unfold k_conv1
  rw [va_up_ne' _ _ (by split <;> omega), va_up_ne' _ _ (by omega)]
theorem z_whyHold_8 {z : Nat → Int32} {w c N : Nat} {a : Int32} (h : z_whyHold z w c a = 0) (h8 : z 8 = nI N) (hN : N ≤ 8) : N < 8 := by
  rcases Nat.lt_or_ge N 8 with q | q
  · exact q
  · have e : N = 8 := by omega
    subst e
    revert h
    unfold z_whyHold
    split
    · intro h; exact absurd h (by decide)
    · rw [if_pos (show z 8 = 8 from h8)]
      intro h; exact absurd h (by decide)
theorem c_do_8 {u pa : Nat → Int32} {R N : Nat} (h : c_ok u pa R = true) (h8 : u 8 = nI N) (hN : N ≤ 8) : ∃ N', c_do u pa R 8 = nI N' ∧ N' ≤ 8 := by
  unfold c_do
  unfold c_ok at h
  by_cases c1 : pa (5 * R) = 108
  · rw [if_pos c1, k_load_8]
    exact ⟨N, h8, hN⟩
  · rw [if_neg c1] at h ⊢
    by_cases c2 : pa (5 * R) = 120
    · rw [if_pos c2, k_conv_8]
      exact ⟨N, h8, hN⟩
    · rw [if_neg c2] at h ⊢
      have hN8 := z_whyHold_8 (of_decide_eq_true h) h8 hN
      unfold k_hold
      rw [va_up_eq, h8, tp_1]
      exact ⟨N + 1, rfl, hN8⟩
set_option maxHeartbeats 2000000 in
theorem r_carr {l : Launch} {G : tp_G} {M : tp_M} {R : Room} {Q : tp_Q} {k n : Nat} {h h0 : tp_H} {pc : Nat} {L : List (Option Value)} {x : Nat} {u : Nat → Int32} {π ρ : Nat → Nat} {us : Nat → Nat → Int32} {σ : Nat → Nat} {st len : Int32} {tx rd : Nat → Int32} {ix : Nat} {rest : List Value} {pa : Nat → Int32} {R9 N : Nat} (hl : l.stackTraces = false) (hd : decode M.2.1 pc = .ok (.invokevirtual ix, 3)) (hc : tp_CV M.1.cls ix mX5_carriesOutOrder 0) (hT : kx_S G x h0 u π ρ us σ st len tx rd h) (hw : c_wf pa R9 rd) (hu8 : u 8 = nI N) (hN : N ≤ 8) (hcat : (rest.map fun v => v.category).sum ≤ 8) (hrm : tp_RM R mX5_carriesOutOrder) (hk : k ≤ R.cells ∧ n ≤ R.slots)
    (kk1 : c_ok u pa R9 = true → ∀ h1, kx_S G x h0 (c_do u pa R9) π ρ us σ st len tx rd h1 → tp_Run l G M R Q k n h1 (pc + 3) L (.int 1 :: rest))
    (kk0 : c_ok u pa R9 = false → ∀ h1, kx_S G x h0 u π ρ us σ st len tx rd h1 → tp_Run l G M R Q k n h1 (pc + 3) L (.int 0 :: rest)) : tp_Run l G M R Q k n h pc L (.ref x :: rest) := by
  obtain ⟨⟨hs, hv, v, v1, v2, v4⟩, r0, rq, rz, r4⟩ := hw
  have r4 : rd 4 = nI v := r4.trans v4
  obtain ⟨w, hw4, ew⟩ := hv 1 (by omega) (k_due_le _).1
  have rw1 : rd 1 = nI w := (rq 1 (by omega) (k_due_le _).1).trans ew
  have ew' : z_n (pa (5 * R9 + 1)) = w := by rw [ew, z_nI (by omega)]
  rcases hs with hs | hs | hs
  · have ed : k_due (pa (5 * R9)) = 1 := by rw [hs]; rfl
    have r2 : rd 2 = nI 0 := rz 2 (by omega) (by omega)
    have r3 : rd 3 = nI 0 := rz 3 (by omega) (by omega)
    have eok : c_ok u pa R9 = decide (u (z_at w 0) ≤ 1000000 - nI v) := by
      unfold c_ok
      rw [if_pos hs, ew', v4]
    have edo : c_do u pa R9 = k_load u w (nI v) := by
      unfold c_do
      rw [if_pos hs, ew', v4]
    by_cases hm : u (z_at w 0) ≤ 1000000 - nI v
    · refine r_sV1 hd hc (X_carr_l1 hl hT hw4 (by omega) (by omega) (r0.trans hs) rw1 r2 r3 r4 rfl hm) rfl hT.ob rfl rfl rfl hcat hrm hk (fun h1 hP => ?_)
      exact kk1 (by rw [eok]; exact decide_eq_true hm) h1 (by rw [edo]; exact hT.trans hP)
    · refine r_sV1 hd hc (X_carr_l0 hl hT hw4 (f := 0) (t := 0) (by omega) (by omega) (r0.trans hs) rw1 r2 r3 r4 hm) rfl hT.ob rfl rfl rfl hcat hrm hk (fun h1 hP => ?_)
      exact kk0 (by rw [eok]; exact decide_eq_false hm) h1 (hT.trans hP)
  · have ed : k_due (pa (5 * R9)) = 3 := by rw [hs]; rfl
    obtain ⟨f, hf4, ef⟩ := hv 2 (by omega) (by omega)
    obtain ⟨t, ht4, et⟩ := hv 3 (by omega) (by omega)
    have r2 : rd 2 = nI f := (rq 2 (by omega) (by omega)).trans ef
    have r3 : rd 3 = nI t := (rq 3 (by omega) (by omega)).trans et
    have n1 : ¬ pa (5 * R9) = 108 := by rw [hs]; decide
    have eok : c_ok u pa R9 = decide (z_whyEx u w f t (nI v) = 0) := by
      unfold c_ok
      rw [if_neg n1, if_pos hs, ew', v4, ef, et, z_nI (by omega), z_nI (by omega)]
    have edo : c_do u pa R9 = k_conv u w f t (nI v) := by
      unfold c_do
      rw [if_neg n1, if_pos hs, ew', v4, ef, et, z_nI (by omega), z_nI (by omega)]
    by_cases hm : z_whyEx u w f t (nI v) = 0
    · refine r_sV1 hd hc (X_carr_x1 hl hT hw4 hf4 ht4 (r0.trans hs) rw1 r2 r3 r4 hu8 hN hm) rfl hT.ob rfl rfl rfl hcat hrm hk (fun h1 hP => ?_)
      exact kk1 (by rw [eok]; exact decide_eq_true hm) h1 (by rw [edo]; exact hT.trans hP)
    · refine r_sV1 hd hc (X_carr_x0 hl hT hw4 hf4 ht4 (r0.trans hs) rw1 r2 r3 r4 hu8 hN hm) rfl hT.ob rfl rfl rfl hcat hrm hk (fun h1 hP => ?_)
      exact kk0 (by rw [eok]; exact decide_eq_false hm) h1 (hT.trans hP)
  · have ed : k_due (pa (5 * R9)) = 2 := by rw [hs]; rfl
    obtain ⟨f, hf4, ef⟩ := hv 2 (by omega) (by omega)
    have r2 : rd 2 = nI f := (rq 2 (by omega) (by omega)).trans ef
    have r3 : rd 3 = nI 0 := rz 3 (by omega) (by omega)
    have n1 : ¬ pa (5 * R9) = 108 := by rw [hs]; decide
    have n2 : ¬ pa (5 * R9) = 120 := by rw [hs]; decide
    have eok : c_ok u pa R9 = decide (z_whyHold u w f (nI v) = 0) := by
      unfold c_ok
      rw [if_neg n1, if_neg n2, ew', v4, ef, z_nI (by omega)]
    have edo : c_do u pa R9 = k_hold u N w f (nI v) := by
      unfold c_do
      rw [if_neg n1, if_neg n2, ew', v4, ef, hu8, z_nI (by omega), z_nI (by omega)]
    by_cases hm : z_whyHold u w f (nI v) = 0
    · refine r_sV1 hd hc (X_carr_h1 hl hT hw4 hf4 (t := 0) (by omega) (r0.trans hs) rw1 r2 r3 r4 hu8 hN (z_whyHold_8 hm hu8 hN) hm) rfl hT.ob rfl rfl rfl hcat hrm hk (fun h1 hP => ?_)
      exact kk1 (by rw [eok]; exact decide_eq_true hm) h1 (by rw [edo]; exact hT.trans hP)
    · refine r_sV1 hd hc (X_carr_h0 hl hT hw4 hf4 (t := 0) (by omega) (r0.trans hs) rw1 r2 r3 r4 hu8 hN hm) rfl hT.ob rfl rfl rfl hcat hrm hk (fun h1 hP => ?_)
      exact kk0 (by rw [eok]; exact decide_eq_false hm) h1 (hT.trans hP)
theorem p_nx_same {s : p_S} {c : Int32} (hc : ¬ c = 59) : (p_nx s c).2.1 = s.2.1 := by
  unfold p_nx
  split
  · rfl
  · split
    · rfl
    · split
      · rw [if_neg (fun z => hc z.1)]
      · rfl
set_option maxRecDepth 100000 in
set_option maxHeartbeats 4000000 in
theorem X_carryRow_lp  {l : Launch} {G : tp_G} {x : Nat} {h9 : tp_H} {π ρ : Nat → Nat} {us : Nat → Nat → Int32} {σ : Nat → Nat} {st : Int32} {tx : Nat → Int32} {n : Nat} {s0 : p_S} (hl : l.stackTraces = false) (hn : n ≤ 60) (htx : ∀ i, i < n → ∃ t, t < 128 ∧ tx i = nI t) (hok : ∀ j, j < n → p_ok (p_it tx s0 j) (tx j) = true) (hD : (p_it tx s0 n).2.2.2 = 5) (hnu : ¬ (p_it tx s0 n).2.2.1 = -1) {V : Nat × (Nat → Int32)} : ∀ d (i : Nat) (u rd : Nat → Int32) (h1 : tp_H), d + i = n → kx_S G x h9 u π ρ us σ st (nI n) tx rd h1 → rp_R (p_it tx s0 i) rd → (∃ N, u 8 = nI N ∧ N ≤ 8) → r_many (fun u => c_ok u (p_it tx s0 n).1) (fun u => c_do u (p_it tx s0 n).1) ((p_it tx s0 n).2.1 + 1 - (p_it tx s0 i).2.1) (p_it tx s0 i).2.1 u = V → tp_Run l G mX5_carryOutRow (tp_rm mX5_carryOutRow 0 0) (tp_QM G 0 0 (tp_PS (some (.int (nI V.1))) (fun h2 => ∃ rd', kx_S G x h9 V.2 π ρ us σ st (nI n) tx rd' h2)) tp_NX) 0 0 h1 11 [some (.ref x), some (.int (nI (p_it tx s0 i).2.1)), some (.int (nI i))] [] := by
  intro d
  induction d with
  | zero =>
    intro i u rd h1 hd hT hR hu hV
    refine r_iload2 dX5_carryOutRow_11 ?_
    refine r_aload0 dX5_carryOutRow_12 ?_
    refine r_getf dX5_carryOutRow_13 f_X5_193 (hT.ob) rfl ?_
    refine r_icmp_ge (tgt := 62) dX5_carryOutRow_16 (by decide) (fun c16 => ?_) (fun c16 => ?_)
    · refine r_aload0 dX5_carryOutRow_62 ?_
      have hi9 : i = n := by omega
      subst hi9
      obtain ⟨N, hu8, hN⟩ := hu
      rw [show (p_it tx s0 i).2.1 + 1 - (p_it tx s0 i).2.1 = 0 + 1 by omega] at hV
      refine r_carr (rest := []) (pa := (p_it tx s0 i).1) hl dX5_carryOutRow_63 v_X5_344 hT (rp_full hR hD hnu) hu8 hN (Nat.le_of_ble_eq_true rfl) ⟨(Nat.le_of_ble_eq_true rfl), (Nat.le_of_ble_eq_true rfl)⟩ ⟨(Nat.le_of_ble_eq_true rfl), (Nat.le_of_ble_eq_true rfl)⟩ (fun hk1 h2 hT => ?_) (fun hk0 h2 hT => ?_)
      · have hV1 : V = ((p_it tx s0 i).2.1 + 1, c_do u (p_it tx s0 i).1 (p_it tx s0 i).2.1) := hV.symm.trans (if_pos hk1)
        refine r_if_eq (tgt := 75) dX5_carryOutRow_66 (by decide) (fun c66 => ?_) (fun c66 => ?_)
        · exact absurd c66 (by decide)
        · refine r_iload1 dX5_carryOutRow_69 ?_
          refine r_iconst (v := 1) dX5_carryOutRow_70 (by decide) ?_
          refine r_iadd dX5_carryOutRow_71 ?_
          rw [tp_1]
          refine r_goto (tgt := 76) dX5_carryOutRow_72 (by decide) ?_
          exact r_iret dX5_carryOutRow_76 rfl ⟨(Nat.le_of_ble_eq_true rfl), (Nat.le_of_ble_eq_true rfl)⟩ ⟨by rw [hV1], _, by rw [hV1]; exact hT⟩
      · have hV0 : V = ((p_it tx s0 i).2.1, u) := hV.symm.trans (if_neg (fun z => Bool.false_ne_true (hk0.symm.trans z)))
        refine r_if_eq (tgt := 75) dX5_carryOutRow_66 (by decide) (fun c66 => ?_) (fun c66 => ?_)
        · refine r_iload1 dX5_carryOutRow_75 ?_
          exact r_iret dX5_carryOutRow_76 rfl ⟨(Nat.le_of_ble_eq_true rfl), (Nat.le_of_ble_eq_true rfl)⟩ ⟨by rw [hV0], _, by rw [hV0]; exact hT⟩
        · exact absurd rfl c66
    · rw [tp_le (by omega) (by omega)] at c16; omega
  | succ d ih =>
    intro i u rd h1 hd hT hR hu hV
    refine r_iload2 dX5_carryOutRow_11 ?_
    refine r_aload0 dX5_carryOutRow_12 ?_
    refine r_getf dX5_carryOutRow_13 f_X5_193 (hT.ob) rfl ?_
    refine r_icmp_ge (tgt := 62) dX5_carryOutRow_16 (by decide) (fun c16 => ?_) (fun c16 => ?_)
    · rw [tp_le (by omega) (by omega)] at c16; omega
    · refine r_aload0 dX5_carryOutRow_19 ?_
      refine r_getf dX5_carryOutRow_20 f_X5_20 (hT.ob) rfl ?_
      refine r_iload2 dX5_carryOutRow_23 ?_
      refine r_iald dX5_carryOutRow_24 hT.bu (i := i) rfl (by omega) (by decide) ?_
      obtain ⟨t, ht, et⟩ := htx i (by omega)
      rw [et]
      have eN : p_it tx s0 (i + 1) = p_nx (p_it tx s0 i) (nI t) := by rw [← et]; rfl
      have hoki := hok i (by omega)
      rw [et] at hoki
      have hs5 : (p_it tx s0 i).2.2.2 ≤ 5 := by
        rcases hR with ⟨z, -⟩ | ⟨-, z, -⟩ <;> omega
      refine r_bipush (v := 59) dX5_carryOutRow_25 (by decide) ?_
      refine r_icmp_ne (tgt := 42) dX5_carryOutRow_27 (by decide) (fun c27 => ?_) (fun c27 => ?_)
      · have eR : (p_it tx s0 (i + 1)).2.1 = (p_it tx s0 i).2.1 := by
          rw [eN]
          exact p_nx_same (fun z => c27 z)
        refine r_aload0 dX5_carryOutRow_42 ?_
        refine r_getf dX5_carryOutRow_43 f_X5_27 (hT.ob) rfl ?_
        refine r_aload0 dX5_carryOutRow_46 ?_
        refine r_getf dX5_carryOutRow_47 f_X5_20 (hT.ob) rfl ?_
        refine r_iload2 dX5_carryOutRow_50 ?_
        refine r_iald dX5_carryOutRow_51 hT.bu (i := i) rfl (by omega) (by decide) ?_
        rw [et]
        refine r_reads (rest := []) hl dX5_carryOutRow_52 v_X5_201 hT.rr hR ht (Nat.le_of_ble_eq_true rfl) ⟨(Nat.le_of_ble_eq_true rfl), (Nat.le_of_ble_eq_true rfl)⟩ ⟨(Nat.le_of_ble_eq_true rfl), (Nat.le_of_ble_eq_true rfl)⟩ (fun h2 rd1 hP hR1 => ?_)
        have hT := hT.rdTo hP
        rw [← et] at hR1 ⊢
        refine r_pop dX5_carryOutRow_55 rfl ?_
        refine r_iinc2 (v := nI (i + 1)) dX5_carryOutRow_56 (Nat.le_of_ble_eq_true rfl) rfl (tp_inc i) ?_
        exact r_goto (tgt := 11) dX5_carryOutRow_59 (by decide) (by have := ih (i + 1) _ _ _ (by omega) hT (hR1 (hok i (by omega))) hu (by rw [eR]; exact hV); rw [eR] at this; exact this)
      · have c27 : nI t = 59 := by first | exact c27 | exact Classical.not_not.mp c27
        obtain ⟨d5, dn⟩ := p_semi hoki c27 hs5
        have eN2 : p_nx (p_it tx s0 i) (nI t) = ((p_it tx s0 i).1, (p_it tx s0 i).2.1 + 1, (p_it tx s0 i).2.2.1, 0) := by
          unfold p_nx
          rw [if_neg (by omega), if_neg (by omega), if_pos d5, if_pos ⟨c27, dn⟩]
        have eR : (p_it tx s0 (i + 1)).2.1 = (p_it tx s0 i).2.1 + 1 := by rw [eN, eN2]
        have eP : (p_it tx s0 (i + 1)).1 = (p_it tx s0 i).1 := by rw [eN, eN2]
        have hcw : c_wf (p_it tx s0 n).1 (p_it tx s0 i).2.1 rd := by
          refine (rp_full hR d5 dn).eq fun q hq => ?_
          have := p_it_fr tx s0 (i + 1) (q := 5 * (p_it tx s0 i).2.1 + q) (by rw [eR]; omega) d
          rw [show i + 1 + d = n by omega, eP] at this
          exact this
        have hRn : (p_it tx s0 i).2.1 + 1 ≤ (p_it tx s0 n).2.1 := by
          have := p_it_R tx s0 (i + 1) d
          rw [show i + 1 + d = n by omega, eR] at this
          exact this
        rw [show (p_it tx s0 n).2.1 + 1 - (p_it tx s0 i).2.1 = ((p_it tx s0 n).2.1 + 1 - ((p_it tx s0 i).2.1 + 1)) + 1 by omega] at hV
        obtain ⟨N, hu8, hN⟩ := hu
        refine r_aload0 dX5_carryOutRow_30 ?_
        refine r_carr (rest := []) (pa := (p_it tx s0 n).1) hl dX5_carryOutRow_31 v_X5_344 hT hcw hu8 hN (Nat.le_of_ble_eq_true rfl) ⟨(Nat.le_of_ble_eq_true rfl), (Nat.le_of_ble_eq_true rfl)⟩ ⟨(Nat.le_of_ble_eq_true rfl), (Nat.le_of_ble_eq_true rfl)⟩ (fun hk1 h2 hT => ?_) (fun hk0 h2 hT => ?_)
        · have hV1 := (if_pos hk1).symm.trans hV
          rw [← eR] at hV1
          refine r_if_ne (tgt := 39) dX5_carryOutRow_34 (by decide) (fun c34 => ?_) (fun c34 => ?_)
          · refine r_iinc1 (v := nI ((p_it tx s0 i).2.1 + 1)) dX5_carryOutRow_39 (Nat.le_of_ble_eq_true rfl) rfl (tp_inc _) ?_
            refine r_aload0 dX5_carryOutRow_42 ?_
            refine r_getf dX5_carryOutRow_43 f_X5_27 (hT.ob) rfl ?_
            refine r_aload0 dX5_carryOutRow_46 ?_
            refine r_getf dX5_carryOutRow_47 f_X5_20 (hT.ob) rfl ?_
            refine r_iload2 dX5_carryOutRow_50 ?_
            refine r_iald dX5_carryOutRow_51 hT.bu (i := i) rfl (by omega) (by decide) ?_
            rw [et]
            refine r_reads (rest := []) hl dX5_carryOutRow_52 v_X5_201 hT.rr hR ht (Nat.le_of_ble_eq_true rfl) ⟨(Nat.le_of_ble_eq_true rfl), (Nat.le_of_ble_eq_true rfl)⟩ ⟨(Nat.le_of_ble_eq_true rfl), (Nat.le_of_ble_eq_true rfl)⟩ (fun h2 rd1 hP hR1 => ?_)
            have hT := hT.rdTo hP
            rw [← et] at hR1 ⊢
            refine r_pop dX5_carryOutRow_55 rfl ?_
            refine r_iinc2 (v := nI (i + 1)) dX5_carryOutRow_56 (Nat.le_of_ble_eq_true rfl) rfl (tp_inc i) ?_
            exact r_goto (tgt := 11) dX5_carryOutRow_59 (by decide) (by have := ih (i + 1) _ _ _ (by omega) hT (hR1 (hok i (by omega))) (c_do_8 hk1 hu8 hN) hV1; rw [eR] at this; exact this)
          · exact absurd c34 (by decide)
        · have hV0 : V = ((p_it tx s0 i).2.1, u) := hV.symm.trans (if_neg (fun z => Bool.false_ne_true (hk0.symm.trans z)))
          refine r_if_ne (tgt := 39) dX5_carryOutRow_34 (by decide) (fun c34 => ?_) (fun c34 => ?_)
          · exact absurd rfl c34
          · refine r_iload1 dX5_carryOutRow_37 ?_
            exact r_iret dX5_carryOutRow_38 rfl ⟨(Nat.le_of_ble_eq_true rfl), (Nat.le_of_ble_eq_true rfl)⟩ ⟨by rw [hV0], _, by rw [hV0]; exact hT⟩

set_option maxRecDepth 100000 in
set_option maxHeartbeats 4000000 in
theorem X_carryOutRow {l : Launch} {G : tp_G} {x : Nat} {h0 h : tp_H} {π ρ : Nat → Nat} {us : Nat → Nat → Int32} {σ : Nat → Nat} {st : Int32} {tx : Nat → Int32} {n : Nat} {u pa : Nat → Int32} {nu : Int32} (hl : l.stackTraces = false) (hn : n ≤ 60) (htx : ∀ i, i < n → ∃ t, t < 128 ∧ tx i = nI t) (hok : ∀ j, j < n → p_ok (p_it tx (pa, 0, nu, 0) j) (tx j) = true) (hD : (p_it tx (pa, 0, nu, 0) n).2.2.2 = 5) (hnu : ¬ (p_it tx (pa, 0, nu, 0) n).2.2.1 = -1) {rd : Nat → Int32} {N : Nat} (hT0 : kx_S G x h0 u π ρ us σ st (nI n) tx rd h) (hu8 : u 8 = nI N) (hN : N ≤ 8) : tp_Met l G mX5_carryOutRow 0 0 [.ref x] h (tp_PS (some (.int (nI (r_many (fun u => c_ok u (p_it tx (pa, 0, nu, 0) n).1) (fun u => c_do u (p_it tx (pa, 0, nu, 0) n).1) ((p_it tx (pa, 0, nu, 0) n).2.1 + 1) 0 u).1))) (fun h2 => ∃ rd', kx_S G x h (r_many (fun u => c_ok u (p_it tx (pa, 0, nu, 0) n).1) (fun u => c_do u (p_it tx (pa, 0, nu, 0) n).1) ((p_it tx (pa, 0, nu, 0) n).2.1 + 1) 0 u).2 π ρ us σ st (nI n) tx rd' h2)) tp_NX := by
  have hT := hT0.self
  refine tp_start (L0 := [some (.ref x), none, none]) (by decide) rfl hl (Nat.le_of_ble_eq_true rfl) rfl ?_
  refine r_iconst (v := 0) dX5_carryOutRow_0 (by decide) ?_
  refine r_istore1 dX5_carryOutRow_1 (Nat.le_of_ble_eq_true rfl) rfl ?_
  refine r_aload0 dX5_carryOutRow_2 ?_
  refine r_getf dX5_carryOutRow_3 f_X5_27 (hT.ob) rfl ?_
  refine r_sV0 dX5_carryOutRow_6 v_X5_198 (R_startOrder hl hT.rr) rfl (hT.re) rfl rfl rfl (Nat.le_of_ble_eq_true rfl) ⟨(Nat.le_of_ble_eq_true rfl), (Nat.le_of_ble_eq_true rfl)⟩ ⟨(Nat.le_of_ble_eq_true rfl), (Nat.le_of_ble_eq_true rfl)⟩ (fun h1 hP => ?_)
  have hT := hT.rdTo hP
  refine r_iconst (v := 0) dX5_carryOutRow_9 (by decide) ?_
  refine r_istore2 dX5_carryOutRow_10 (Nat.le_of_ble_eq_true rfl) rfl ?_
  exact X_carryRow_lp (s0 := (pa, 0, nu, 0)) hl hn htx hok hD hnu n 0 _ _ _ (by omega) hT (Or.inl ⟨rfl, fun _ _ => rfl⟩) ⟨N, hu8, hN⟩ rfl

