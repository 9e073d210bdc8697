theorem and31 (x : Int32) : ∃ c, c < 32 ∧ x &&& 31 = nI c := by
  refine ⟨(x &&& 31).toBitVec.toNat, ?_, ?_⟩
  · rw [Int32.toBitVec_and, BitVec.toNat_and]
    have : (31 : Int32).toBitVec.toNat = 31 := by decide
    rw [this]
    exact Nat.lt_succ_of_le Nat.and_le_right
  · show x &&& 31 = Int32.ofNat _
    apply Int32.toBitVec_inj.mp
    rw [Int32.toBitVec_ofNat']
    simp
theorem lp_end {N C : Nat} (hN : N ≤ 3072) (hC : 6 * C ≤ 3072) : nI N - 6 < nI (6 * C) ↔ N < 6 * C + 6 := by
  by_cases h : N < 6
  · have e : nI N - 6 < 0 := by
      have : ∀ t : Fin 6, nI t.val - 6 < 0 := by decide
      exact this ⟨N, h⟩
    exact ⟨fun _ => by omega, fun _ => Int32.lt_of_lt_of_le e (nI_pos' (by omega))⟩
  · rw [show (6 : Int32) = nI 6 from rfl, tp_sub (by omega), tp_lt (by omega) (by omega)]
    omega
theorem tl_J.next {G : tp_G} {x C : Nat} {thr : Int32} {ov : Int64} {od : UInt64} {h : tp_H} (hJ : tl_J G x C thr ov od h) : tl_J G x (C + 1) thr ov od h := by
  obtain ⟨u, π, ρ, us, σ, s, n9, tx, rd, z, hy, pa, R9, nu, du, hs, ov, od, N, P, hS, hV, rfl, rfl⟩ := hJ
  exact hS.J hV.next
set_option maxRecDepth 100000 in
set_option maxHeartbeats 4000000 in
theorem T_loop {l : Launch} {G : tp_G} {Q : tp_Q} {x : Nat} (hl : l.stackTraces = false) (hN : G.2.2.2 4 ≤ 3072) (kend : ∀ C k n h, k ≤ 2000 → n ≤ 20000 → tp_Run l G mL_law room_1 Q k n h 2003 [some (.ref (G.2.2.2 3)), some (.ref x), some (.ref (x + 298)), some (.ref (x + 303)), some (.ref (x + 304)), some (.int (nI (6 * C))), none, none, none] []) : ∀ d (C k n : Nat) (h : tp_H) (thr : Int32) (ov : Int64) (od : UInt64), G.2.2.2 4 < 6 * (C + d) + 6 → 6 * C ≤ 3072 → k ≤ 400 + C → n ≤ 9000 + 6 * C → tl_J G x C thr ov od h → tp_Run l G mL_law room_1 Q k n h 28 [some (.ref (G.2.2.2 3)), some (.ref x), some (.ref (x + 298)), some (.ref (x + 303)), some (.ref (x + 304)), some (.int (nI (6 * C))), none, none, none] [] := by
  intro d
  induction d with
  | zero =>
    intro C k n h thr ov od hd h6 hk hn hJ
    refine r_iload5 dL_law_28 ?_
    refine r_aload0 dL_law_30 ?_
    refine r_slen dL_law_31 ?_
    refine r_bipush (v := 6) dL_law_32 (by decide) ?_
    refine r_isub dL_law_34 ?_
    refine r_icmp_gt (tgt := 2003) dL_law_35 (by decide) (fun c35 => ?_) (fun c35 => ?_)
    · exact kend C k n h (by omega) (by omega)
    · exact absurd ((lp_end hN h6).mpr (by omega)) c35
  | succ d ih =>
    intro C k n h thr ov od hd h6 hk hn hJ
    refine r_iload5 dL_law_28 ?_
    refine r_aload0 dL_law_30 ?_
    refine r_slen dL_law_31 ?_
    refine r_bipush (v := 6) dL_law_32 (by decide) ?_
    refine r_isub dL_law_34 ?_
    refine r_icmp_gt (tgt := 2003) dL_law_35 (by decide) (fun c35 => ?_) (fun c35 => ?_)
    · exact kend C k n h (by omega) (by omega)
    · have hC : 6 * C + 6 ≤ G.2.2.2 4 := Nat.le_of_not_lt fun q => c35 ((lp_end hN h6).mpr q)
      have hkk : k + 1 ≤ room_1.cells ∧ n + 6 ≤ room_1.slots := by
        have hr := tp_room
        omega
      have nx : ∀ mc ms h2 thr ov od, mc ≤ 1 → ms ≤ 6 → tl_J G x (C + 1) thr ov od h2 → tp_Run l G mL_law room_1 Q (k + mc) (n + ms) h2 1997 [some (.ref (G.2.2.2 3)), some (.ref x), some (.ref (x + 298)), some (.ref (x + 303)), some (.ref (x + 304)), some (.int (nI (6 * C))), none, none, none] [] := by
        intro mc ms h2 thr ov od q1 q2 q3
        refine r_iinc5 (v := nI (6 * (C + 1))) dL_law_1997 (Nat.le_of_ble_eq_true rfl) rfl (tp_add (6 * C) 6) ?_
        exact r_goto (tgt := 28) dL_law_2000 (by decide) (ih (C + 1) _ _ h2 thr ov od (by omega) (by omega) (by omega) (by omega) q3)
      refine r_aload0 dL_law_38 ?_
      refine r_iload5 dL_law_39 ?_
      refine r_sld dL_law_41 (i := 6 * C) rfl (by omega) (by omega) ?_
      refine r_bipush (v := 31) dL_law_42 (by decide) ?_
      refine r_iand dL_law_44 ?_
      obtain ⟨c, hc, ec⟩ := and31 (nI (G.2.2.2 (5 + 6 * C)))
      rw [ec]
      rcases (show c = 0 ∨ c = 1 ∨ c = 2 ∨ c = 3 ∨ c = 4 ∨ c = 5 ∨ c = 6 ∨ c = 7 ∨ c = 8 ∨ c = 9 ∨ c = 10 ∨ c = 11 ∨ c = 12 ∨ c = 13 ∨ c = 14 ∨ c = 15 ∨ c = 16 ∨ c = 17 ∨ c = 18 ∨ c = 19 ∨ c = 20 ∨ c = 21 ∨ c = 22 ∨ c = 23 ∨ c = 24 ∨ c = 25 ∨ c = 26 ∨ c = 27 ∨ c = 28 ∨ c = 29 ∨ c = 30 ∨ c = 31 by omega) with rfl | rfl | rfl | rfl | rfl | rfl | rfl | rfl | rfl | rfl | rfl | rfl | rfl | rfl | rfl | rfl | rfl | rfl | rfl | rfl | rfl | rfl | rfl | rfl | rfl | rfl | rfl | rfl | rfl | rfl | rfl | rfl
      · exact r_tableIn (off := 131) (tgt := 176) dL_law_45 (by decide) (by decide) rfl (by decide) (T_load hl hC hN hkk hJ nx)
      · exact r_tableIn (off := 199) (tgt := 244) dL_law_45 (by decide) (by decide) rfl (by decide) (T_quote hl hC hN hkk hJ nx)
      · exact r_tableIn (off := 267) (tgt := 312) dL_law_45 (by decide) (by decide) rfl (by decide) (T_lock hl hC hN hkk hJ nx)
      · exact r_tableIn (off := 335) (tgt := 380) dL_law_45 (by decide) (by decide) rfl (by decide) (T_exchange hl hC hN hkk hJ nx)
      · exact r_tableIn (off := 427) (tgt := 472) dL_law_45 (by decide) (by decide) rfl (by decide) (T_hold hl hC hN hkk hJ nx)
      · exact r_tableIn (off := 507) (tgt := 552) dL_law_45 (by decide) (by decide) rfl (by decide) (T_pay hl hC hN hkk hJ nx)
      · exact r_tableIn (off := 575) (tgt := 620) dL_law_45 (by decide) (by decide) rfl (by decide) (T_letGo hl hC hN hkk hJ nx)
      · exact r_tableIn (off := 631) (tgt := 676) dL_law_45 (by decide) (by decide) rfl (by decide) (T_dispute hl hC hN hkk hJ nx)
      · exact r_tableIn (off := 687) (tgt := 732) dL_law_45 (by decide) (by decide) rfl (by decide) (T_decide hl hC hN hkk hJ nx)
      · exact r_tableIn (off := 771) (tgt := 816) dL_law_45 (by decide) (by decide) rfl (by decide) (T_close hl hC hN hkk hJ nx)
      · exact r_tableIn (off := 827) (tgt := 872) dL_law_45 (by decide) (by decide) rfl (by decide) (T_pass hl hC hN hkk hJ nx)
      · exact r_tableIn (off := 883) (tgt := 928) dL_law_45 (by decide) (by decide) rfl (by decide) (T_set hl hC hN hkk hJ nx)
      · exact r_tableIn (off := 951) (tgt := 996) dL_law_45 (by decide) (by decide) rfl (by decide) (T_append hl hC hN hkk hJ nx)
      · exact r_tableIn (off := 1007) (tgt := 1052) dL_law_45 (by decide) (by decide) rfl (by decide) (T_clearBuffer hl hC hN hkk hJ nx)
      · exact r_tableIn (off := 1020) (tgt := 1065) dL_law_45 (by decide) (by decide) rfl (by decide) (T_firstError hl hC hN hkk hJ nx)
      · exact r_tableIn (off := 1033) (tgt := 1078) dL_law_45 (by decide) (by decide) rfl (by decide) (T_run hl hC hN hkk hJ nx)
      · exact r_tableIn (off := 1077) (tgt := 1122) dL_law_45 (by decide) (by decide) rfl (by decide) (T_undo hl hC hN hkk hJ nx)
      · exact r_tableIn (off := 1121) (tgt := 1166) dL_law_45 (by decide) (by decide) rfl (by decide) (T_purse hl hC hN hkk hJ nx)
      · exact r_tableIn (off := 1201) (tgt := 1246) dL_law_45 (by decide) (by decide) rfl (by decide) (T_held hl hC hN hkk hJ nx)
      · exact r_tableIn (off := 1269) (tgt := 1314) dL_law_45 (by decide) (by decide) rfl (by decide) (T_payment hl hC hN hkk hJ nx)
      · exact r_tableIn (off := 1337) (tgt := 1382) dL_law_45 (by decide) (by decide) rfl (by decide) (T_count hl hC hN hkk hJ nx)
      · exact r_tableIn (off := 1393) (tgt := 1438) dL_law_45 (by decide) (by decide) rfl (by decide) (T_setting hl hC hN hkk hJ nx)
      · exact r_tableIn (off := 1449) (tgt := 1494) dL_law_45 (by decide) (by decide) rfl (by decide) (T_ifExchanged hl hC hN hkk hJ nx)
      · exact r_tableIn (off := 1541) (tgt := 1586) dL_law_45 (by decide) (by decide) rfl (by decide) (T_needed hl hC hN hkk hJ nx)
      · exact r_tableIn (off := 1621) (tgt := 1666) dL_law_45 (by decide) (by decide) rfl (by decide) (T_room hl hC hN hkk hJ nx)
      · exact r_tableIn (off := 1689) (tgt := 1734) dL_law_45 (by decide) (by decide) rfl (by decide) (T_whyNot hl hC hN hkk hJ nx)
      · exact r_tableIn (off := 1793) (tgt := 1838) dL_law_45 (by decide) (by decide) rfl (by decide) (T_ifClosed hl hC hN hkk hJ nx)
      · exact r_tableIn (off := 1849) (tgt := 1894) dL_law_45 (by decide) (by decide) rfl (by decide) (T_heldShare hl hC hN hkk hJ nx)
      · exact r_tableIn (off := 1938) (tgt := 1983) dL_law_45 (by decide) (by decide) rfl (by decide) (T_digest hl hC hN hkk hJ nx)
      · exact r_tableOut (tgt := 1997) dL_law_45 (Or.inr (by decide)) (by decide) (nx 0 0 h _ _ _ (by decide) (by decide) (tl_J.next hJ))
      · exact r_tableOut (tgt := 1997) dL_law_45 (Or.inr (by decide)) (by decide) (nx 0 0 h _ _ _ (by decide) (by decide) (tl_J.next hJ))
      · exact r_tableOut (tgt := 1997) dL_law_45 (Or.inr (by decide)) (by decide) (nx 0 0 h _ _ _ (by decide) (by decide) (tl_J.next hJ))

