theorem kn_def6 : ∀ r, vwCl[6]? = some r → ∀ j, j < 11 → ∀ ty, parseFieldDescriptor (r.2.1 j).2.2.1 = some ty → defaultValue ty = vp_V [.null, .int 0, .null, .int 0, .null, .int 0, .null, .int 0, .int 0, .int 0, .long 0] j := by
  intro r hr j hj ty hty
  cases hr
  have : j = 0 ∨ j = 1 ∨ j = 2 ∨ j = 3 ∨ j = 4 ∨ j = 5 ∨ j = 6 ∨ j = 7 ∨ j = 8 ∨ j = 9 ∨ j = 10 := by omega
  rcases this with rfl | rfl | rfl | rfl | rfl | rfl | rfl | rfl | rfl | rfl | rfl <;> (cases hty; rfl)
theorem kn_def5 : ∀ r, vwCl[5]? = some r → ∀ j, j < 6 → ∀ ty, parseFieldDescriptor (r.2.1 j).2.2.1 = some ty → defaultValue ty = vp_V [.null, .null, .int 0, .null, .int 0, .null] j := by
  intro r hr j hj ty hty
  cases hr
  have : j = 0 ∨ j = 1 ∨ j = 2 ∨ j = 3 ∨ j = 4 ∨ j = 5 := by omega
  rcases this with rfl | rfl | rfl | rfl | rfl | rfl <;> (cases hty; rfl)
theorem z_0_hi {q : Nat} (h : 8 ≤ q) : z_0 q = nI 0 := by
  unfold z_0
  rw [va_up_ne' _ _ (by omega), va_up_ne' _ _ (by omega), va_up_ne' _ _ (by omega), va_up_ne' _ _ (by omega), va_up_ne' _ _ (by omega), va_up_ne' _ _ (by omega), va_up_ne' _ _ (by omega)]
  rfl
theorem u_0_hi {q : Nat} (h : 16 ≤ q) (h2 : q < 96) : u_0 q = if (q - 16) % 5 = 3 then -1 else 0 := by
  unfold u_0
  rw [if_neg (by omega), if_neg (by omega), if_neg (by omega), if_neg (by omega), if_neg (by omega), if_neg (by omega), if_neg (by omega)]
  by_cases c : (q - 16) % 5 = 3
  · rw [if_pos c, if_pos ⟨h, h2, c⟩]
  · rw [if_neg c, if_neg (fun q => c q.2.2)]
theorem zr_0 : zr 0 0 u_0 z_0 := by
  refine ⟨⟨⟨z_0_hi (by omega), by omega⟩, z_0_hi (by omega), by omega⟩, fun q hq => ?_, fun w c hw hc => ?_, fun q h1 h2 => absurd h2 (by omega), fun q h1 h2 => absurd h2 (by omega)⟩
  · have : ∀ q : Fin 16, u_0 q.val = z_0 q.val := by decide
    exact this ⟨q, hq⟩
  · have a : 16 ≤ z_at w c ∧ z_at w c + 5 ≤ 96 ∧ (z_at w c - 16) % 5 = 0 := by unfold z_at; omega
    have e0 : u_0 (z_at w c) = 0 := by rw [u_0_hi (by omega) (by omega), if_neg (by omega)]
    have e1 : u_0 (z_at w c + 1) = 0 := by rw [u_0_hi (by omega) (by omega), if_neg (by omega)]
    have e3 : u_0 (z_at w c + 3) = -1 := by rw [u_0_hi (by omega) (by omega), if_pos (by omega)]
    rw [e0, e1, e3, z_0_hi (q := z_at w c) (by omega), z_0_hi (q := z_at w c + 1) (by omega), z_0_hi (q := z_at w c + 2) (by omega), z_0_hi (q := z_at w c + 4) (by omega), if_neg (by decide)]
    exact ⟨⟨rfl, rfl⟩, ⟨rfl, fun q => absurd q (by decide)⟩, rfl⟩
theorem iv_0 : iv 0 0 0 z_0 := by
  refine ⟨⟨⟨7, by decide, by omega⟩, ⟨10, by decide, by omega⟩, ⟨20, by decide, by omega⟩, ⟨5, by decide, by omega⟩⟩, ⟨0, ⟨by decide, by omega⟩, fun j hj => absurd hj (Nat.not_lt_zero j), fun j hj => absurd hj (Nat.not_lt_zero j)⟩, fun c h1 h2 => ?_, fun w c hw hc => ?_⟩
  · rcases (show c = 1 ∨ c = 2 ∨ c = 3 by omega) with rfl | rfl | rfl
    · exact ⟨1000, by decide, by omega, by omega⟩
    · exact ⟨1500, by decide, by omega, by omega⟩
    · exact ⟨500, by decide, by omega, by omega⟩
  · have a : 16 ≤ z_at w c := by unfold z_at; omega
    exact ⟨0, 0, ⟨z_0_hi (by omega), z_0_hi (by omega)⟩, ⟨Nat.le_refl 0, Nat.le_refl 0, Nat.le_refl 0⟩, 0, 0, ⟨z_0_hi (by omega), z_0_hi (by omega)⟩, Or.inl rfl, fun _ => rfl, by omega⟩
theorem tl_V0 : tl_V 0 u_0 z_0 (fun _ => u_0) (fun _ => 0) 0 0 (fun _ => 0) 0 0 := ⟨⟨⟨zr_0, iv_0⟩, ⟨by omega, fun j hj => absurd hj (Nat.not_lt_zero j)⟩⟩, ⟨by omega, by omega⟩, fun i hi => absurd hi (Nat.not_lt_zero i)⟩
set_option maxRecDepth 100000 in
set_option maxHeartbeats 4000000 in
theorem T_law {l : Launch} {G : tp_G} {Q : tp_Q} {x : Nat} (hl : l.stackTraces = false) (hN : G.2.2.2 4 ≤ 3072) (kend : ∀ C k n h, k ≤ 2000 → n ≤ 20000 → tp_Run l G mL_law room_1 Q k n h 2003 [some (.ref (G.2.2.2 3)), some (.ref x), some (.ref (x + 298)), some (.ref (x + 303)), some (.ref (x + 304)), some (.int (nI (6 * C))), none, none, none] []) : tp_Run l G mL_law room_1 Q 0 0 (x, fun _ => none) 0 [some (.ref (G.2.2.2 3)), none, none, none, none, none, none, none, none] [] := by
  refine r_new dL_law_0 n_L_8 (fs := [.null, .null, .int 0, .null, .int 0, .null]) rfl kn_def5 ⟨(Nat.le_of_ble_eq_true rfl), (Nat.le_of_ble_eq_true rfl)⟩ (fun hl0 => ?_)
  refine r_dup dL_law_3 rfl ?_
  refine r_callI (As := []) (rest := [.ref x]) dL_law_4 v_L_101 (N_X5 hl rfl tp_up_s) rfl rfl rfl (Nat.le_of_ble_eq_true rfl) ⟨(Nat.le_of_ble_eq_true rfl), (Nat.le_of_ble_eq_true rfl)⟩ ⟨(Nat.le_of_ble_eq_true rfl), (Nat.le_of_ble_eq_true rfl)⟩ (fun r h1 hP => ?_) (fun E h1 hP => hP.elim)
  obtain ⟨rfl, hK, hs1, -⟩ := hP
  refine r_astore1 dL_law_7 (Nat.le_of_ble_eq_true rfl) rfl ?_
  refine r_new dL_law_8 n_L_102 (fs := [.null, .int 0, .null, .int 0, .null, .int 0, .null, .int 0, .int 0, .int 0, .long 0]) rfl kn_def6 ⟨(Nat.le_of_ble_eq_true rfl), (Nat.le_of_ble_eq_true rfl)⟩ (fun hl1 => ?_)
  rw [hs1]
  refine r_dup dL_law_11 rfl ?_
  refine r_callI (As := []) (rest := [.ref (x + 298)]) dL_law_12 v_L_104 (N_X6 hl rfl tp_up_s) rfl rfl rfl (Nat.le_of_ble_eq_true rfl) ⟨(Nat.le_of_ble_eq_true rfl), (Nat.le_of_ble_eq_true rfl)⟩ ⟨(Nat.le_of_ble_eq_true rfl), (Nat.le_of_ble_eq_true rfl)⟩ (fun r h2 hP => ?_) (fun E h2 hP => hP.elim)
  obtain ⟨rfl, hM, hs2, hf2⟩ := hP
  refine r_astore2 dL_law_15 (Nat.le_of_ble_eq_true rfl) rfl ?_
  refine r_iconst (v := 1) dL_law_16 (by decide) ?_
  refine r_newJ dL_law_17 ac_long (N := 1) rfl (by decide) ⟨(Nat.le_of_ble_eq_true rfl), (Nat.le_of_ble_eq_true rfl)⟩ (fun hl2 => ?_)
  rw [hs2]
  refine r_astore3 dL_law_19 (Nat.le_of_ble_eq_true rfl) rfl ?_
  refine r_iconst (v := 1) dL_law_20 (by decide) ?_
  refine r_newD dL_law_21 ac_double (N := 1) rfl (by decide) ⟨(Nat.le_of_ble_eq_true rfl), (Nat.le_of_ble_eq_true rfl)⟩ (fun hl3 => ?_)
  refine r_astore4 dL_law_23 (Nat.le_of_ble_eq_true rfl) rfl ?_
  refine r_iconst (v := 0) dL_law_25 (by decide) ?_
  refine r_istore5 dL_law_26 (Nat.le_of_ble_eq_true rfl) rfl ?_
  refine T_loop hl hN kend 513 0 _ _ _ 0 0 0 (by omega) (by omega) (Nat.le_of_ble_eq_true rfl) (Nat.le_of_ble_eq_true rfl) ?_
  refine tl_S.J (n := 0) (s := 0) (ov := fun _ => 0) (od := fun _ => 0) (pa := fun _ => 0) (R9 := 0) (nu := 0) (du := 0) (hs := 0) (π := id) (ρ := id) (σ := id) (rd := fun _ => 0) ⟨⟨hK.1.mv fun a q1 q2 => ?_, fun _ _ => rfl⟩, hM.mv fun a q1 q2 => ?_, ?_, ?_⟩ tl_V0
  · exact (tp_up_n (by show a ≠ x + 298 + 5 + 1; omega)).trans ((tp_up_n (by omega)).trans ((hf2 a q2).trans (tp_up_n (by omega))))
  · exact (tp_up_n (by show a ≠ x + 298 + 5 + 1; omega)).trans (tp_up_n (by omega))
  · exact (tp_up_n (by show x + 303 ≠ x + 298 + 5 + 1; omega)).trans tp_up_s
  · exact tp_up_s

