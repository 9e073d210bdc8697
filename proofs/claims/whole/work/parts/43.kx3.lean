theorem kb_C.fr {G : tp_G} {b b2 : Nat} {h0 h : tp_H} {u u2 : Nat → Int32} {π ρ π2 ρ2 : Nat → Nat} (hC : kb_C G b2 u2 π2 ρ2 h0) (hT : kb_S G b h0 u π ρ h) (hd : b2 + 42 ≤ b ∨ b + 42 ≤ b2) : kb_S G b2 h u2 π2 ρ2 h :=
  ⟨⟨fun o ho => (hT.2.2 (b2 + o) (by omega)).trans (hC.1 o ho), hC.2⟩, rfl, fun _ _ => rfl⟩
theorem kb_S.updM {G : tp_G} {b : Nat} {h0 h : tp_H} {u u' : Nat → Int32} {π ρ : Nat → Nat} (hT : kb_S G b h0 u π ρ h) {o : Nat} {e : va_E} (hu : ∀ q, q < 196 → k_own π q ≠ o → u' q = u q) (ho2 : o < 42) (he : kb_c G b u' π ρ o = e) : kb_S G b h0 u' π ρ (h.1, tp_up h.2 (b + o) e) := by
  refine ⟨⟨fun o' ho' => ?_, hT.1.2⟩, hT.2.1, fun a ha => ?_⟩
  · by_cases ee : o' = o
    · subst ee
      rw [he]
      exact tp_up_s
    · refine (tp_up_n (by omega)).trans ((hT.1.1 o' ho').trans ?_)
      congr 1
      exact kb_ext hT.1.2 ho' fun q' hq hq' => (hu q' hq (fun z => ee (by rw [← hq', z]))).symm
  · exact (tp_up_n (by omega)).trans (hT.2.2 a ha)
def k_ov (u u2 : Nat → Int32) (lo hi : Nat) : Nat → Int32 := fun q => if lo ≤ q ∧ q < hi then u2 q else u q
def k_row (u u2 : Nat → Int32) (r : Nat) : Nat → Nat → Int32
  | 0 => u
  | f + 1 => va_up (k_row u u2 r f) (r + f) (u2 (r + f))
def k_cps (u u2 : Nat → Int32) (base m : Nat) : Nat → Nat → Int32
  | 0 => u
  | i + 1 => k_row (k_cps u u2 base m i) u2 (base + 5 * i) m
theorem k_row_eq (u u2 : Nat → Int32) (r q : Nat) : ∀ m, k_row u u2 r m q = if r ≤ q ∧ q < r + m then u2 q else u q
  | 0 => by rw [if_neg (by omega)]; rfl
  | f + 1 => by
    show va_up (k_row u u2 r f) (r + f) (u2 (r + f)) q = _
    by_cases h : q = r + f
    · rw [h, va_up_eq, if_pos (by omega)]
    · rw [va_up_ne' _ _ h, k_row_eq u u2 r q f]
      by_cases h2 : r ≤ q ∧ q < r + f
      · rw [if_pos h2, if_pos (by omega)]
      · rw [if_neg h2, if_neg (by omega)]
theorem k_cps_eq (u u2 : Nat → Int32) (base m : Nat) (hm : m ≤ 5) (q : Nat) : ∀ n, k_cps u u2 base m n q = if base ≤ q ∧ q < base + 5 * n ∧ (q - base) % 5 < m then u2 q else u q
  | 0 => by rw [if_neg (by omega)]; rfl
  | i + 1 => by
    show k_row (k_cps u u2 base m i) u2 (base + 5 * i) m q = _
    rw [k_row_eq, k_cps_eq u u2 base m hm q i]
    by_cases h : base + 5 * i ≤ q ∧ q < base + 5 * i + m
    · rw [if_pos h, if_pos (by omega)]
    · rw [if_neg h]
      by_cases h2 : base ≤ q ∧ q < base + 5 * i ∧ (q - base) % 5 < m
      · rw [if_pos h2, if_pos (by omega)]
      · rw [if_neg h2, if_neg (by omega)]
theorem k_cps_n {u u2 : Nat → Int32} {base m n q : Nat} (hm : m ≤ 5) (h : q < base) : k_cps u u2 base m n q = u q := by rw [k_cps_eq _ _ _ _ hm, if_neg (by omega)]
def k_copy (u u2 : Nat → Int32) (N P : Nat) : Nat → Int32 :=
  va_up (va_up (va_up (va_up (va_up (va_up (k_cps (va_up (k_cps (va_up (k_cps (k_ov (k_ov (va_up u 4 (u2 4)) u2 0 4) u2 5 8) u2 16 4 16) 8 (u2 8)) u2 96 5 N) 9 (u2 9)) u2 136 5 P) 10 (u2 10)) 11 (u2 11)) 12 (u2 12)) 13 (u2 13)) 14 (u2 14)) 15 (u2 15)
theorem kF_pu {b i : Nat} (h : i < 16) : kF (b + 6) 16 i = some (kp b (i / 4) (i % 4)) := by
  rw [kF_at h]
  unfold kp
  congr 1
  omega
theorem kz_at {i : Nat} : z_at (i / 4) (i % 4) = 16 + 5 * i := by unfold z_at; omega
section KCP
variable {l : Launch} {G : tp_G} {M : tp_M} {R : Room} {Q : tp_Q} {k n : Nat} {h h0 : tp_H} {pc : Nat} {L : List (Option Value)} {sk : List Value} {b b2 : Nat} {u u2 : Nat → Int32} {π ρ π2 ρ2 : Nat → Nat}
theorem kb_cp_se {ix : Nat} (hd : decode M.2.1 pc = .ok (.invokestatic ix, 3)) (hw : Cond.methodLink M.1.cls ix arraycopyName ∈ tp_all ∧ Cond.native arraycopyName ∈ tp_all ∧ Cond.static arraycopyName ∈ tp_all ∧ Cond.initialized "java/lang/System" ∈ tp_all) (hT : kb_S G b h0 u π ρ h) (h2 : kb_S G b2 h u2 π2 ρ2 h) (hfr : 1 ≤ R.frames) (hlo : (sk.map fun v => v.category).sum + (nativeFrameWords "java/lang/System" "arraycopy" 5 + 11) ≤ R.locals)
    (kk : ∀ h1 : tp_H, kb_S G b h0 (k_ov u u2 0 4) π ρ h1 → tp_Run l G M R Q k n h1 (pc + 3) L sk) : tp_Run l G M R Q k n h pc L (.int (nI 4) :: .int 0 :: .ref (b + 1) :: .int 0 :: .ref (b2 + 1) :: sk) := by
  refine r_copyI hd hw h2.se hT.se rfl (by decide) hfr hlo (kk _ (hT.updM (o := 1) (fun q hq ho => if_neg (fun z => ho (by unfold k_own; rw [if_pos (by omega)]))) (by omega) ?_))
  rw [show kb_c G b (k_ov u u2 0 4) π ρ 1 = .inl (G.2.2.1 0, 4, .inl (kS (k_ov u u2 0 4))) from rfl]
  congr 4
  funext q
  unfold kS k_ov va_cpy
  dsimp only
  by_cases hq : q < 4
  · rw [if_pos hq, if_pos (by omega), if_pos (by omega), if_pos (by omega), show 0 + (q - 0) = q by omega]
  · rw [if_neg hq, if_neg (by omega), if_neg (by omega)]
theorem kb_cp_ra {ix : Nat} (hd : decode M.2.1 pc = .ok (.invokestatic ix, 3)) (hw : Cond.methodLink M.1.cls ix arraycopyName ∈ tp_all ∧ Cond.native arraycopyName ∈ tp_all ∧ Cond.static arraycopyName ∈ tp_all ∧ Cond.initialized "java/lang/System" ∈ tp_all) (hT : kb_S G b h0 u π ρ h) (h2 : kb_S G b2 h u2 π2 ρ2 h) (hfr : 1 ≤ R.frames) (hlo : (sk.map fun v => v.category).sum + (nativeFrameWords "java/lang/System" "arraycopy" 5 + 11) ≤ R.locals)
    (kk : ∀ h1 : tp_H, kb_S G b h0 (k_ov u u2 5 8) π ρ h1 → tp_Run l G M R Q k n h1 (pc + 3) L sk) : tp_Run l G M R Q k n h pc L (.int (nI 4) :: .int 0 :: .ref (b + 2) :: .int 0 :: .ref (b2 + 2) :: sk) := by
  refine r_copyI hd hw h2.ra hT.ra rfl (by decide) hfr hlo (kk _ (hT.updM (o := 2) (fun q hq ho => if_neg (fun z => ho (by unfold k_own; rw [if_neg (by omega), if_neg (by omega), if_pos (by omega)]))) (by omega) ?_))
  rw [show kb_c G b (k_ov u u2 5 8) π ρ 2 = .inl (G.2.2.1 0, 4, .inl (kR (k_ov u u2 5 8))) from rfl]
  congr 4
  funext q
  unfold kR k_ov va_cpy
  dsimp only
  by_cases hq : q < 4
  · rw [if_pos (show 0 ≤ q ∧ q < 0 + 4 by omega), show 0 + (q - 0) = q by omega]
    by_cases h0 : q = 0
    · rw [if_pos h0, if_pos h0]
    · rw [if_neg h0, if_neg h0, if_pos hq, if_pos hq, if_pos (by omega)]
  · rw [if_neg (show ¬ q = 0 by omega), if_neg hq, if_neg (by omega), if_neg (by omega), if_neg hq]
end KCP
set_option maxRecDepth 100000 in
set_option maxHeartbeats 4000000 in
theorem K_purse_copy {l : Launch} {G : tp_G} {b : Nat} {h0 h : tp_H} {u : Nat → Int32} {π ρ : Nat → Nat} (hl : l.stackTraces = false) (hT0 : kb_S G b h0 u π ρ h) {b2 : Nat} {u2 : Nat → Int32} {π2 ρ2 : Nat → Nat} (hC : kb_C G b2 u2 π2 ρ2 h) (hd : b2 + 42 ≤ b ∨ b + 42 ≤ b2) {w c : Nat} (hw : w < 4) (hc : c < 4) : tp_Met l G mX4_copyFrom 0 0 [.ref (kp b w c), .ref (kp b2 w c)] h (tp_PS (none) (fun h1 => kb_S G b h (k_row u u2 (z_at w c) 4) π ρ h1)) tp_NX := by
  have hT := hT0.self
  refine tp_start (L0 := [some (.ref (kp b w c)), some (.ref (kp b2 w c))]) (by decide) rfl hl (Nat.le_of_ble_eq_true rfl) rfl ?_
  refine r_aload0 dX4_copyFrom_0 ?_
  refine r_aload1 dX4_copyFrom_1 ?_
  refine r_getf dX4_copyFrom_2 f_X4_21 ((hC.fr hT hd).pu hw hc) rfl ?_
  refine kb_put_balance dX4_copyFrom_5 f_X4_21 hT hw hc (fun h1 hT => ?_)
  refine r_aload0 dX4_copyFrom_8 ?_
  refine r_aload1 dX4_copyFrom_9 ?_
  refine r_getf dX4_copyFrom_10 f_X4_24 ((hC.fr hT hd).pu hw hc) rfl ?_
  refine kb_put_debt dX4_copyFrom_13 f_X4_24 hT hw hc (fun h1 hT => ?_)
  refine r_aload0 dX4_copyFrom_16 ?_
  refine r_aload1 dX4_copyFrom_17 ?_
  refine r_getf dX4_copyFrom_18 f_X4_27 ((hC.fr hT hd).pu hw hc) rfl ?_
  refine kb_put_lockedRate dX4_copyFrom_21 f_X4_27 hT hw hc (fun h1 hT => ?_)
  refine r_aload0 dX4_copyFrom_24 ?_
  refine r_aload1 dX4_copyFrom_25 ?_
  refine r_getf dX4_copyFrom_26 f_X4_18 ((hC.fr hT hd).pu hw hc) rfl ?_
  refine kb_put_lockEnd dX4_copyFrom_29 f_X4_18 hT hw hc (fun h1 hT => ?_)
  exact r_vret dX4_copyFrom_32 rfl ⟨(Nat.le_of_ble_eq_true rfl), (Nat.le_of_ble_eq_true rfl)⟩ ⟨rfl, hT⟩

set_option maxRecDepth 100000 in
set_option maxHeartbeats 4000000 in
theorem K_hold_copy {l : Launch} {G : tp_G} {b : Nat} {h0 h : tp_H} {u : Nat → Int32} {π ρ : Nat → Nat} (hl : l.stackTraces = false) (hT0 : kb_S G b h0 u π ρ h) {b2 : Nat} {u2 : Nat → Int32} {π2 ρ2 : Nat → Nat} (hC : kb_C G b2 u2 π2 ρ2 h) (hd : b2 + 42 ≤ b ∨ b + 42 ≤ b2) {j : Nat} (hj : j < 8) : tp_Met l G mX1_copyFrom 0 0 [.ref (b + 22 + π j), .ref (b2 + 22 + π2 j)] h (tp_PS (none) (fun h1 => kb_S G b h (k_row u u2 (96 + 5 * j) 5) π ρ h1)) tp_NX := by
  have hT := hT0.self
  refine tp_start (L0 := [some (.ref (b + 22 + π j)), some (.ref (b2 + 22 + π2 j))]) (by decide) rfl hl (Nat.le_of_ble_eq_true rfl) rfl ?_
  refine r_aload0 dX1_copyFrom_0 ?_
  refine r_aload1 dX1_copyFrom_1 ?_
  refine r_getf dX1_copyFrom_2 f_X1_7 ((hC.fr hT hd).ho hj) rfl ?_
  refine kb_put_h0 dX1_copyFrom_5 f_X1_7 hT hj (fun h1 hT => ?_)
  refine r_aload0 dX1_copyFrom_8 ?_
  refine r_aload1 dX1_copyFrom_9 ?_
  refine r_getf dX1_copyFrom_10 f_X1_16 ((hC.fr hT hd).ho hj) rfl ?_
  refine kb_put_h1 dX1_copyFrom_13 f_X1_16 hT hj (fun h1 hT => ?_)
  refine r_aload0 dX1_copyFrom_16 ?_
  refine r_aload1 dX1_copyFrom_17 ?_
  refine r_getf dX1_copyFrom_18 f_X1_20 ((hC.fr hT hd).ho hj) rfl ?_
  refine kb_put_h2 dX1_copyFrom_21 f_X1_20 hT hj (fun h1 hT => ?_)
  refine r_aload0 dX1_copyFrom_24 ?_
  refine r_aload1 dX1_copyFrom_25 ?_
  refine r_getf dX1_copyFrom_26 f_X1_23 ((hC.fr hT hd).ho hj) rfl ?_
  refine kb_put_h3 dX1_copyFrom_29 f_X1_23 hT hj (fun h1 hT => ?_)
  refine r_aload0 dX1_copyFrom_32 ?_
  refine r_aload1 dX1_copyFrom_33 ?_
  refine r_getf dX1_copyFrom_34 f_X1_26 ((hC.fr hT hd).ho hj) rfl ?_
  refine kb_put_h4 dX1_copyFrom_37 f_X1_26 hT hj (fun h1 hT => ?_)
  exact r_vret dX1_copyFrom_40 rfl ⟨(Nat.le_of_ble_eq_true rfl), (Nat.le_of_ble_eq_true rfl)⟩ ⟨rfl, hT⟩

set_option maxRecDepth 100000 in
set_option maxHeartbeats 4000000 in
theorem K_pay_copy {l : Launch} {G : tp_G} {b : Nat} {h0 h : tp_H} {u : Nat → Int32} {π ρ : Nat → Nat} (hl : l.stackTraces = false) (hT0 : kb_S G b h0 u π ρ h) {b2 : Nat} {u2 : Nat → Int32} {π2 ρ2 : Nat → Nat} (hC : kb_C G b2 u2 π2 ρ2 h) (hd : b2 + 42 ≤ b ∨ b + 42 ≤ b2) {j : Nat} (hj : j < 12) : tp_Met l G mX3_copyFrom 0 0 [.ref (b + 30 + j), .ref (b2 + 30 + j)] h (tp_PS (none) (fun h1 => kb_S G b h (k_row u u2 (136 + 5 * j) 5) π ρ h1)) tp_NX := by
  have hT := hT0.self
  refine tp_start (L0 := [some (.ref (b + 30 + j)), some (.ref (b2 + 30 + j))]) (by decide) rfl hl (Nat.le_of_ble_eq_true rfl) rfl ?_
  refine r_aload0 dX3_copyFrom_0 ?_
  refine r_aload1 dX3_copyFrom_1 ?_
  refine r_getf dX3_copyFrom_2 f_X3_7 ((hC.fr hT hd).pa hj) rfl ?_
  refine kb_put_p0 dX3_copyFrom_5 f_X3_7 hT hj (fun h1 hT => ?_)
  refine r_aload0 dX3_copyFrom_8 ?_
  refine r_aload1 dX3_copyFrom_9 ?_
  refine r_getf dX3_copyFrom_10 f_X3_16 ((hC.fr hT hd).pa hj) rfl ?_
  refine kb_put_p1 dX3_copyFrom_13 f_X3_16 hT hj (fun h1 hT => ?_)
  refine r_aload0 dX3_copyFrom_16 ?_
  refine r_aload1 dX3_copyFrom_17 ?_
  refine r_getf dX3_copyFrom_18 f_X3_20 ((hC.fr hT hd).pa hj) rfl ?_
  refine kb_put_p2 dX3_copyFrom_21 f_X3_20 hT hj (fun h1 hT => ?_)
  refine r_aload0 dX3_copyFrom_24 ?_
  refine r_aload1 dX3_copyFrom_25 ?_
  refine r_getf dX3_copyFrom_26 f_X3_23 ((hC.fr hT hd).pa hj) rfl ?_
  refine kb_put_p3 dX3_copyFrom_29 f_X3_23 hT hj (fun h1 hT => ?_)
  refine r_aload0 dX3_copyFrom_32 ?_
  refine r_aload1 dX3_copyFrom_33 ?_
  refine r_getf dX3_copyFrom_34 f_X3_26 ((hC.fr hT hd).pa hj) rfl ?_
  refine kb_put_p4 dX3_copyFrom_37 f_X3_26 hT hj (fun h1 hT => ?_)
  exact r_vret dX3_copyFrom_40 rfl ⟨(Nat.le_of_ble_eq_true rfl), (Nat.le_of_ble_eq_true rfl)⟩ ⟨rfl, hT⟩

set_option maxRecDepth 100000 in
set_option maxHeartbeats 4000000 in
theorem K_cp1  {l : Launch} {G : tp_G} {b : Nat} {h9 : tp_H} {u : Nat → Int32} {π ρ : Nat → Nat} {Q : tp_Q} (hl : l.stackTraces = false) {b2 : Nat} {u2 : Nat → Int32} {π2 ρ2 : Nat → Nat} (hC : kb_C G b2 u2 π2 ρ2 h9) (hd : b2 + 42 ≤ b ∨ b + 42 ≤ b2)  : ∀ d (i : Nat) (h1 : tp_H), i + d = 16 → kb_S G b h9 (k_cps u u2 16 4 i) π ρ h1 → (∀ h1, kb_S G b h9 (k_cps u u2 16 4 16) π ρ h1 → tp_Run l G mX0_copyFrom (tp_rm mX0_copyFrom 0 0) Q 0 0 h1 76 [some (.ref b), some (.ref b2), none] []) → tp_Run l G mX0_copyFrom (tp_rm mX0_copyFrom 0 0) Q 0 0 h1 46 [some (.ref b), some (.ref b2), some (.int (nI i))] [] := by
  intro d
  induction d with
  | zero =>
    intro i h1 hd9 hT kk
    refine r_iload2 dX0_copyFrom_46 ?_
    refine r_aload0 dX0_copyFrom_47 ?_
    refine r_getf dX0_copyFrom_48 f_X0_31 (hT.ob) rfl ?_
    refine r_alen dX0_copyFrom_51 (t := 6) (by decide) hT.pus ?_
    refine r_icmp_ge (tgt := 76) dX0_copyFrom_52 (by decide) (fun c52 => ?_) (fun c52 => ?_)
    · rw [show i = 16 by omega] at hT
      exact r_fg2 (kk h1 hT)
    · rw [tp_le (show 16 < 2 ^ 31 by decide) (by omega)] at c52; omega
  | succ d ih =>
    intro i h1 hd9 hT kk
    refine r_iload2 dX0_copyFrom_46 ?_
    refine r_aload0 dX0_copyFrom_47 ?_
    refine r_getf dX0_copyFrom_48 f_X0_31 (hT.ob) rfl ?_
    refine r_alen dX0_copyFrom_51 (t := 6) (by decide) hT.pus ?_
    refine r_icmp_ge (tgt := 76) dX0_copyFrom_52 (by decide) (fun c52 => ?_) (fun c52 => ?_)
    · rw [tp_le (show 16 < 2 ^ 31 by decide) (by omega)] at c52; omega
    · refine r_aload0 dX0_copyFrom_55 ?_
      refine r_getf dX0_copyFrom_56 f_X0_31 (hT.ob) rfl ?_
      refine r_iload2 dX0_copyFrom_59 ?_
      refine r_aald (t := 6) dX0_copyFrom_60 (by decide) hT.pus (i := i) (rfl) (by omega) (by decide) (kF_pu (by omega)) ?_
      refine r_aload1 dX0_copyFrom_61 ?_
      refine r_getf dX0_copyFrom_62 f_X0_31 ((hC.fr hT hd).ob) rfl ?_
      refine r_iload2 dX0_copyFrom_65 ?_
      refine r_aald (t := 6) dX0_copyFrom_66 (by decide) (hC.fr hT hd).pus (i := i) rfl (by omega) (by decide) (kF_pu (by omega)) ?_
      refine r_sV0 dX0_copyFrom_67 v_X0_62 (K_purse_copy hl hT (kb_S.self (hC.fr hT hd)).1 hd (w := i / 4) (c := i % 4) (by omega) (by omega)) rfl (hT.pu (w := i / 4) (c := i % 4) (by omega) (by omega)) rfl rfl rfl (Nat.le_of_ble_eq_true rfl) ⟨(Nat.le_of_ble_eq_true rfl), (Nat.le_of_ble_eq_true rfl)⟩ ⟨(Nat.le_of_ble_eq_true rfl), (Nat.le_of_ble_eq_true rfl)⟩ (fun h1 hP => ?_)
      have hT := hT.trans hP
      rw [kz_at] at hT
      refine r_iinc2 (v := nI (i + 1)) dX0_copyFrom_70 (Nat.le_of_ble_eq_true rfl) rfl (tp_inc i) ?_
      exact r_goto (tgt := 46) dX0_copyFrom_73 (by decide) (ih (i + 1) h1 (by omega) hT kk)

set_option maxRecDepth 100000 in
set_option maxHeartbeats 4000000 in
theorem K_cp2  {l : Launch} {G : tp_G} {b : Nat} {h9 : tp_H} {u : Nat → Int32} {π ρ : Nat → Nat} {Q : tp_Q} (hl : l.stackTraces = false) {b2 : Nat} {u2 : Nat → Int32} {π2 ρ2 : Nat → Nat} (hC : kb_C G b2 u2 π2 ρ2 h9) (hd : b2 + 42 ≤ b ∨ b + 42 ≤ b2) {N : Nat} (hu8 : u 8 = nI N) (hN : N ≤ 8) : ∀ d (i : Nat) (h1 : tp_H), i + d = N → kb_S G b h9 (k_cps u u2 96 5 i) π ρ h1 → (∀ h1, kb_S G b h9 (k_cps u u2 96 5 N) π ρ h1 → tp_Run l G mX0_copyFrom (tp_rm mX0_copyFrom 0 0) Q 0 0 h1 115 [some (.ref b), some (.ref b2), none] []) → tp_Run l G mX0_copyFrom (tp_rm mX0_copyFrom 0 0) Q 0 0 h1 86 [some (.ref b), some (.ref b2), some (.int (nI i))] [] := by
  intro d
  induction d with
  | zero =>
    intro i h1 hd9 hT kk
    refine r_iload2 dX0_copyFrom_86 ?_
    refine r_aload0 dX0_copyFrom_87 ?_
    refine r_getf dX0_copyFrom_88 f_X0_66 (hT.ob) rfl ?_
    refine r_icmp_ge (tgt := 115) dX0_copyFrom_91 (by decide) (fun c91 => ?_) (fun c91 => ?_)
    · rw [show i = N by omega] at hT
      exact r_fg2 (kk h1 hT)
    · rw [k_cps_n (by omega) (by omega), hu8, tp_le (by omega) (by omega)] at c91; omega
  | succ d ih =>
    intro i h1 hd9 hT kk
    refine r_iload2 dX0_copyFrom_86 ?_
    refine r_aload0 dX0_copyFrom_87 ?_
    refine r_getf dX0_copyFrom_88 f_X0_66 (hT.ob) rfl ?_
    refine r_icmp_ge (tgt := 115) dX0_copyFrom_91 (by decide) (fun c91 => ?_) (fun c91 => ?_)
    · rw [k_cps_n (by omega) (by omega), hu8, tp_le (by omega) (by omega)] at c91; omega
    · refine r_aload0 dX0_copyFrom_94 ?_
      refine r_getf dX0_copyFrom_95 f_X0_37 (hT.ob) rfl ?_
      refine r_iload2 dX0_copyFrom_98 ?_
      refine r_aald (t := 4) dX0_copyFrom_99 (by decide) hT.hos (i := i) (rfl) (by omega) (by decide) (kFp_at (by omega)) ?_
      refine r_aload1 dX0_copyFrom_100 ?_
      refine r_getf dX0_copyFrom_101 f_X0_37 ((hC.fr hT hd).ob) rfl ?_
      refine r_iload2 dX0_copyFrom_104 ?_
      refine r_aald (t := 4) dX0_copyFrom_105 (by decide) (hC.fr hT hd).hos (i := i) rfl (by omega) (by decide) (kFp_at (by omega)) ?_
      refine r_sV0 dX0_copyFrom_106 v_X0_69 (K_hold_copy hl hT (kb_S.self (hC.fr hT hd)).1 hd (j := i) (by omega)) rfl (hT.ho (j := i) (by omega)) rfl rfl rfl (Nat.le_of_ble_eq_true rfl) ⟨(Nat.le_of_ble_eq_true rfl), (Nat.le_of_ble_eq_true rfl)⟩ ⟨(Nat.le_of_ble_eq_true rfl), (Nat.le_of_ble_eq_true rfl)⟩ (fun h1 hP => ?_)
      have hT := hT.trans hP
      refine r_iinc2 (v := nI (i + 1)) dX0_copyFrom_109 (Nat.le_of_ble_eq_true rfl) rfl (tp_inc i) ?_
      exact r_goto (tgt := 86) dX0_copyFrom_112 (by decide) (ih (i + 1) h1 (by omega) hT kk)

set_option maxRecDepth 100000 in
set_option maxHeartbeats 4000000 in
theorem K_cp3  {l : Launch} {G : tp_G} {b : Nat} {h9 : tp_H} {u : Nat → Int32} {π ρ : Nat → Nat} {Q : tp_Q} (hl : l.stackTraces = false) {b2 : Nat} {u2 : Nat → Int32} {π2 ρ2 : Nat → Nat} (hC : kb_C G b2 u2 π2 ρ2 h9) (hd : b2 + 42 ≤ b ∨ b + 42 ≤ b2) {P : Nat} (hu9 : u 9 = nI P) (hP9 : P ≤ 12) : ∀ d (i : Nat) (h1 : tp_H), i + d = P → kb_S G b h9 (k_cps u u2 136 5 i) π ρ h1 → (∀ h1, kb_S G b h9 (k_cps u u2 136 5 P) π ρ h1 → tp_Run l G mX0_copyFrom (tp_rm mX0_copyFrom 0 0) Q 0 0 h1 154 [some (.ref b), some (.ref b2), none] []) → tp_Run l G mX0_copyFrom (tp_rm mX0_copyFrom 0 0) Q 0 0 h1 125 [some (.ref b), some (.ref b2), some (.int (nI i))] [] := by
  intro d
  induction d with
  | zero =>
    intro i h1 hd9 hT kk
    refine r_iload2 dX0_copyFrom_125 ?_
    refine r_aload0 dX0_copyFrom_126 ?_
    refine r_getf dX0_copyFrom_127 f_X0_72 (hT.ob) rfl ?_
    refine r_icmp_ge (tgt := 154) dX0_copyFrom_130 (by decide) (fun c130 => ?_) (fun c130 => ?_)
    · rw [show i = P by omega] at hT
      exact r_fg2 (kk h1 hT)
    · rw [k_cps_n (by omega) (by omega), hu9, tp_le (by omega) (by omega)] at c130; omega
  | succ d ih =>
    intro i h1 hd9 hT kk
    refine r_iload2 dX0_copyFrom_125 ?_
    refine r_aload0 dX0_copyFrom_126 ?_
    refine r_getf dX0_copyFrom_127 f_X0_72 (hT.ob) rfl ?_
    refine r_icmp_ge (tgt := 154) dX0_copyFrom_130 (by decide) (fun c130 => ?_) (fun c130 => ?_)
    · rw [k_cps_n (by omega) (by omega), hu9, tp_le (by omega) (by omega)] at c130; omega
    · refine r_aload0 dX0_copyFrom_133 ?_
      refine r_getf dX0_copyFrom_134 f_X0_43 (hT.ob) rfl ?_
      refine r_iload2 dX0_copyFrom_137 ?_
      refine r_aald (t := 5) dX0_copyFrom_138 (by decide) hT.pas (i := i) (rfl) (by omega) (by decide) (kF_at (by omega)) ?_
      refine r_aload1 dX0_copyFrom_139 ?_
      refine r_getf dX0_copyFrom_140 f_X0_43 ((hC.fr hT hd).ob) rfl ?_
      refine r_iload2 dX0_copyFrom_143 ?_
      refine r_aald (t := 5) dX0_copyFrom_144 (by decide) (hC.fr hT hd).pas (i := i) rfl (by omega) (by decide) (kF_at (by omega)) ?_
      refine r_sV0 dX0_copyFrom_145 v_X0_75 (K_pay_copy hl hT (kb_S.self (hC.fr hT hd)).1 hd (j := i) (by omega)) rfl (hT.pa (j := i) (by omega)) rfl rfl rfl (Nat.le_of_ble_eq_true rfl) ⟨(Nat.le_of_ble_eq_true rfl), (Nat.le_of_ble_eq_true rfl)⟩ ⟨(Nat.le_of_ble_eq_true rfl), (Nat.le_of_ble_eq_true rfl)⟩ (fun h1 hP => ?_)
      have hT := hT.trans hP
      refine r_iinc2 (v := nI (i + 1)) dX0_copyFrom_148 (Nat.le_of_ble_eq_true rfl) rfl (tp_inc i) ?_
      exact r_goto (tgt := 125) dX0_copyFrom_151 (by decide) (ih (i + 1) h1 (by omega) hT kk)

set_option maxRecDepth 100000 in
set_option maxHeartbeats 4000000 in
theorem K_copyFrom {l : Launch} {G : tp_G} {b : Nat} {h0 h : tp_H} {u : Nat → Int32} {π ρ : Nat → Nat} (hl : l.stackTraces = false) (hT0 : kb_S G b h0 u π ρ h) {b2 : Nat} {u2 : Nat → Int32} {π2 ρ2 : Nat → Nat} (hC : kb_C G b2 u2 π2 ρ2 h) (hd : b2 + 42 ≤ b ∨ b + 42 ≤ b2) {N P : Nat} (hu8 : u2 8 = nI N) (hN : N ≤ 8) (hu9 : u2 9 = nI P) (hP9 : P ≤ 12) : tp_Met l G mX0_copyFrom 0 0 [.ref b, .ref b2] h (tp_PS (none) (fun h1 => kb_S G b h (k_copy u u2 N P) π ρ h1)) tp_NX := by
  have hT := hT0.self
  refine tp_start (L0 := [some (.ref b), some (.ref b2), none]) (by decide) rfl hl (Nat.le_of_ble_eq_true rfl) rfl ?_
  refine r_aload0 dX0_copyFrom_0 ?_
  refine r_aload1 dX0_copyFrom_1 ?_
  refine r_getf dX0_copyFrom_2 f_X0_52 ((hC.fr hT hd).ob) rfl ?_
  refine kb_put_day dX0_copyFrom_5 f_X0_52 hT (fun h1 hT => ?_)
  refine r_aload1 dX0_copyFrom_8 ?_
  refine r_getf dX0_copyFrom_9 f_X0_18 ((hC.fr hT hd).ob) rfl ?_
  refine r_iconst (v := 0) dX0_copyFrom_12 (by decide) ?_
  refine r_aload0 dX0_copyFrom_13 ?_
  refine r_getf dX0_copyFrom_14 f_X0_18 (hT.ob) rfl ?_
  refine r_iconst (v := 0) dX0_copyFrom_17 (by decide) ?_
  refine r_aload0 dX0_copyFrom_18 ?_
  refine r_getf dX0_copyFrom_19 f_X0_18 (hT.ob) rfl ?_
  refine r_alen dX0_copyFrom_22 (t := 0) (by decide) hT.se ?_
  refine kb_cp_se dX0_copyFrom_23 v_X0_56 hT (hC.fr hT hd) (Nat.le_of_ble_eq_true rfl) (Nat.le_of_ble_eq_true rfl) (fun h1 hT => ?_)
  refine r_aload1 dX0_copyFrom_26 ?_
  refine r_getf dX0_copyFrom_27 f_X0_26 ((hC.fr hT hd).ob) rfl ?_
  refine r_iconst (v := 0) dX0_copyFrom_30 (by decide) ?_
  refine r_aload0 dX0_copyFrom_31 ?_
  refine r_getf dX0_copyFrom_32 f_X0_26 (hT.ob) rfl ?_
  refine r_iconst (v := 0) dX0_copyFrom_35 (by decide) ?_
  refine r_aload0 dX0_copyFrom_36 ?_
  refine r_getf dX0_copyFrom_37 f_X0_26 (hT.ob) rfl ?_
  refine r_alen dX0_copyFrom_40 (t := 0) (by decide) hT.ra ?_
  refine kb_cp_ra dX0_copyFrom_41 v_X0_56 hT (hC.fr hT hd) (Nat.le_of_ble_eq_true rfl) (Nat.le_of_ble_eq_true rfl) (fun h1 hT => ?_)
  refine r_iconst (v := 0) dX0_copyFrom_44 (by decide) ?_
  refine r_istore2 dX0_copyFrom_45 (Nat.le_of_ble_eq_true rfl) rfl ?_
  refine K_cp1 hl hC hd 16 0 h1 (by omega) hT (fun h1 hT => ?_)
  refine r_aload0 dX0_copyFrom_76 ?_
  refine r_aload1 dX0_copyFrom_77 ?_
  refine r_getf dX0_copyFrom_78 f_X0_66 ((hC.fr hT hd).ob) rfl ?_
  refine kb_put_openHolds dX0_copyFrom_81 f_X0_66 hT (fun h1 hT => ?_)
  refine r_iconst (v := 0) dX0_copyFrom_84 (by decide) ?_
  refine r_istore2 dX0_copyFrom_85 (Nat.le_of_ble_eq_true rfl) rfl ?_
  refine K_cp2 hl hC hd ((va_up_eq _ _ _).trans hu8) hN N 0 h1 (by omega) hT (fun h1 hT => ?_)
  refine r_aload0 dX0_copyFrom_115 ?_
  refine r_aload1 dX0_copyFrom_116 ?_
  refine r_getf dX0_copyFrom_117 f_X0_72 ((hC.fr hT hd).ob) rfl ?_
  refine kb_put_paymentCount dX0_copyFrom_120 f_X0_72 hT (fun h1 hT => ?_)
  refine r_iconst (v := 0) dX0_copyFrom_123 (by decide) ?_
  refine r_istore2 dX0_copyFrom_124 (Nat.le_of_ble_eq_true rfl) rfl ?_
  refine K_cp3 hl hC hd ((va_up_eq _ _ _).trans hu9) hP9 P 0 h1 (by omega) hT (fun h1 hT => ?_)
  refine r_aload0 dX0_copyFrom_154 ?_
  refine r_aload1 dX0_copyFrom_155 ?_
  refine r_getf dX0_copyFrom_156 f_X0_78 ((hC.fr hT hd).ob) rfl ?_
  refine kb_put_loaded dX0_copyFrom_159 f_X0_78 hT (fun h1 hT => ?_)
  refine r_aload0 dX0_copyFrom_162 ?_
  refine r_aload1 dX0_copyFrom_163 ?_
  refine r_getf dX0_copyFrom_164 f_X0_81 ((hC.fr hT hd).ob) rfl ?_
  refine kb_put_paidOut dX0_copyFrom_167 f_X0_81 hT (fun h1 hT => ?_)
  refine r_aload0 dX0_copyFrom_170 ?_
  refine r_aload1 dX0_copyFrom_171 ?_
  refine r_getf dX0_copyFrom_172 f_X0_84 ((hC.fr hT hd).ob) rfl ?_
  refine kb_put_exchanges dX0_copyFrom_175 f_X0_84 hT (fun h1 hT => ?_)
  refine r_aload0 dX0_copyFrom_178 ?_
  refine r_aload1 dX0_copyFrom_179 ?_
  refine r_getf dX0_copyFrom_180 f_X0_87 ((hC.fr hT hd).ob) rfl ?_
  refine kb_put_homeSpread dX0_copyFrom_183 f_X0_87 hT (fun h1 hT => ?_)
  refine r_aload0 dX0_copyFrom_186 ?_
  refine r_aload1 dX0_copyFrom_187 ?_
  refine r_getf dX0_copyFrom_188 f_X0_90 ((hC.fr hT hd).ob) rfl ?_
  refine kb_put_otherSpread dX0_copyFrom_191 f_X0_90 hT (fun h1 hT => ?_)
  refine r_aload0 dX0_copyFrom_194 ?_
  refine r_aload1 dX0_copyFrom_195 ?_
  refine r_getf dX0_copyFrom_196 f_X0_93 ((hC.fr hT hd).ob) rfl ?_
  refine kb_put_debtPaid dX0_copyFrom_199 f_X0_93 hT (fun h1 hT => ?_)
  exact r_vret dX0_copyFrom_202 rfl ⟨(Nat.le_of_ble_eq_true rfl), (Nat.le_of_ble_eq_true rfl)⟩ ⟨rfl, hT⟩

