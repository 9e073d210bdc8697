/-! THE CLASS'S BOOKS at b: 42 cells, by one row u laid out as the reference's z (4 .. 7 as there; a hold's place j lies in object pi j) -/
def k4 (g : Nat → Int32) : List Value := [.int (g 0), .int (g 1), .int (g 2), .int (g 3)]
def k5 (g : Nat → Int32) : List Value := [.int (g 0), .int (g 1), .int (g 2), .int (g 3), .int (g 4)]
theorem k4_ext {g g' : Nat → Int32} (h : ∀ f, f < 4 → g f = g' f) : k4 g = k4 g' := by
  unfold k4; rw [h 0 (by omega), h 1 (by omega), h 2 (by omega), h 3 (by omega)]
theorem k5_ext {g g' : Nat → Int32} (h : ∀ f, f < 5 → g f = g' f) : k5 g = k5 g' := by
  unfold k5; rw [h 0 (by omega), h 1 (by omega), h 2 (by omega), h 3 (by omega), h 4 (by omega)]
def kS (u : Nat → Int32) : Nat → Int32 := fun j => if j < 4 then u j else 0
def kR (u : Nat → Int32) : Nat → Int32 := fun j => if j = 0 then 1000 else if j < 4 then u (4 + j) else 0
def kF (a N : Nat) : Nat → Option Nat := fun j => if j < N then some (a + j) else none
def kFp (a N : Nat) (π : Nat → Nat) : Nat → Option Nat := fun j => if j < N then some (a + π j) else none
def kb_c (G : tp_G) (b : Nat) (u : Nat → Int32) (π ρ : Nat → Nat) : Nat → va_E := fun o =>
  if o = 0 then .inr (0, [.int (u 4), .ref (b + 1), .ref (b + 2), .ref (b + 3), .ref (b + 4), .int (u 8), .ref (b + 5), .int (u 9), .int (u 10), .int (u 11), .int (u 12), .int (u 13), .int (u 14), .int (u 15)])
  else if o = 1 then .inl (G.2.2.1 0, 4, .inl (kS u))
  else if o = 2 then .inl (G.2.2.1 0, 4, .inl (kR u))
  else if o = 3 then .inl (G.2.2.1 6, 16, .inr (.inr (.inr (.inr (kF (b + 6) 16)))))
  else if o = 4 then .inl (G.2.2.1 4, 8, .inr (.inr (.inr (.inr (kFp (b + 22) 8 π)))))
  else if o = 5 then .inl (G.2.2.1 5, 12, .inr (.inr (.inr (.inr (kF (b + 30) 12)))))
  else if o < 22 then .inr (4, .int (nI ((o - 6) / 4)) :: .int (nI ((o - 6) % 4)) :: k4 (fun f => u (16 + 5 * (o - 6) + f)))
  else if o < 30 then .inr (1, k5 (fun f => u (96 + 5 * ρ (o - 22) + f)))
  else .inr (3, k5 (fun f => u (136 + 5 * (o - 30) + f)))
def kb_P (π ρ : Nat → Nat) : Prop := (∀ j, j < 8 → π j < 8 ∧ ρ (π j) = j) ∧ ∀ j, j < 8 → ρ j < 8 ∧ π (ρ j) = j
def kb_C (G : tp_G) (b : Nat) (u : Nat → Int32) (π ρ : Nat → Nat) (h : tp_H) : Prop := (∀ o, o < 42 → h.2 (b + o) = some (kb_c G b u π ρ o)) ∧ kb_P π ρ
def kb_S (G : tp_G) (b : Nat) (h0 : tp_H) (u : Nat → Int32) (π ρ : Nat → Nat) (h : tp_H) : Prop := kb_C G b u π ρ h ∧ (h.1 = h0.1 ∧ ∀ a, a < b ∨ b + 42 ≤ a → h.2 a = h0.2 a)
section KB
variable {l : Launch} {G : tp_G} {M : tp_M} {R : Room} {Q : tp_Q} {k n : Nat} {h h0 : tp_H} {pc : Nat} {L : List (Option Value)} {sk : List Value} {b : Nat} {u : Nat → Int32} {π ρ : Nat → Nat}
theorem kb_S.self (hT : kb_S G b h0 u π ρ h) : kb_S G b h u π ρ h := ⟨hT.1, rfl, fun _ _ => rfl⟩
theorem kb_S.trans {h1 : tp_H} {u' : Nat → Int32} {π' ρ' : Nat → Nat} (hT : kb_S G b h0 u π ρ h) (h2 : kb_S G b h u' π' ρ' h1) : kb_S G b h0 u' π' ρ' h1 := ⟨h2.1, h2.2.1.trans hT.2.1, fun a ha => (h2.2.2 a ha).trans (hT.2.2 a ha)⟩
theorem kb_S.cz {u' : Nat → Int32} (hT : kb_S G b h0 u π ρ h) (e : u = u') : kb_S G b h0 u' π ρ h := e ▸ hT
theorem kb_S.ob (hT : kb_S G b h0 u π ρ h) : h.2 b = some (.inr (0, [.int (u 4), .ref (b + 1), .ref (b + 2), .ref (b + 3), .ref (b + 4), .int (u 8), .ref (b + 5), .int (u 9), .int (u 10), .int (u 11), .int (u 12), .int (u 13), .int (u 14), .int (u 15)])) := hT.1.1 0 (by omega)
theorem kb_S.se (hT : kb_S G b h0 u π ρ h) : h.2 (b + 1) = some (.inl (G.2.2.1 0, 4, .inl (kS u))) := hT.1.1 1 (by omega)
theorem kb_S.ra (hT : kb_S G b h0 u π ρ h) : h.2 (b + 2) = some (.inl (G.2.2.1 0, 4, .inl (kR u))) := hT.1.1 2 (by omega)
theorem kb_S.pus (hT : kb_S G b h0 u π ρ h) : h.2 (b + 3) = some (.inl (G.2.2.1 6, 16, .inr (.inr (.inr (.inr (kF (b + 6) 16)))))) := hT.1.1 3 (by omega)
theorem kb_S.hos (hT : kb_S G b h0 u π ρ h) : h.2 (b + 4) = some (.inl (G.2.2.1 4, 8, .inr (.inr (.inr (.inr (kFp (b + 22) 8 π)))))) := hT.1.1 4 (by omega)
theorem kb_S.pas (hT : kb_S G b h0 u π ρ h) : h.2 (b + 5) = some (.inl (G.2.2.1 5, 12, .inr (.inr (.inr (.inr (kF (b + 30) 12)))))) := hT.1.1 5 (by omega)
def kp (b w c : Nat) : Nat := b + 6 + (4 * w + c)
theorem kp_c {w c : Nat} (hw : w < 4) (hc : c < 4) : kb_c G b u π ρ (6 + (4 * w + c)) = .inr (4, [.int (nI w), .int (nI c), .int (u (z_at w c)), .int (u (z_at w c + 1)), .int (u (z_at w c + 2)), .int (u (z_at w c + 3))]) := by
  unfold kb_c
  rw [if_neg (by omega), if_neg (by omega), if_neg (by omega), if_neg (by omega), if_neg (by omega), if_neg (by omega), if_pos (by omega), Nat.add_sub_cancel_left, show (4 * w + c) / 4 = w by omega, show (4 * w + c) % 4 = c by omega]
  rfl
theorem kh_c {j : Nat} (hj : j < 8) : kb_c G b u π ρ (22 + j) = .inr (1, k5 (fun f => u (96 + 5 * ρ j + f))) := by
  unfold kb_c
  rw [if_neg (by omega), if_neg (by omega), if_neg (by omega), if_neg (by omega), if_neg (by omega), if_neg (by omega), if_neg (by omega), if_pos (by omega), Nat.add_sub_cancel_left]
theorem ka_c {j : Nat} : kb_c G b u π ρ (30 + j) = .inr (3, k5 (fun f => u (136 + 5 * j + f))) := by
  unfold kb_c
  rw [if_neg (by omega), if_neg (by omega), if_neg (by omega), if_neg (by omega), if_neg (by omega), if_neg (by omega), if_neg (by omega), if_neg (by omega), Nat.add_sub_cancel_left]
theorem kb_S.pu (hT : kb_S G b h0 u π ρ h) {w c : Nat} (hw : w < 4) (hc : c < 4) : h.2 (kp b w c) = some (.inr (4, [.int (nI w), .int (nI c), .int (u (z_at w c)), .int (u (z_at w c + 1)), .int (u (z_at w c + 2)), .int (u (z_at w c + 3))])) := by
  have := hT.1.1 (6 + (4 * w + c)) (by omega)
  rw [kp_c hw hc] at this
  rw [show kp b w c = b + (6 + (4 * w + c)) by unfold kp; omega]
  exact this
theorem kb_S.ho (hT : kb_S G b h0 u π ρ h) {j : Nat} (hj : j < 8) : h.2 (b + 22 + π j) = some (.inr (1, [.int (u (96 + 5 * j)), .int (u (96 + 5 * j + 1)), .int (u (96 + 5 * j + 2)), .int (u (96 + 5 * j + 3)), .int (u (96 + 5 * j + 4))])) := by
  obtain ⟨h1, h2⟩ := hT.1.2.1 j hj
  have := hT.1.1 (22 + π j) (by omega)
  rw [kh_c h1, h2, ← Nat.add_assoc] at this
  exact this
theorem kb_S.pa (hT : kb_S G b h0 u π ρ h) {j : Nat} (hj : j < 12) : h.2 (b + 30 + j) = some (.inr (3, [.int (u (136 + 5 * j)), .int (u (136 + 5 * j + 1)), .int (u (136 + 5 * j + 2)), .int (u (136 + 5 * j + 3)), .int (u (136 + 5 * j + 4))])) := by
  have := hT.1.1 (30 + j) (by omega)
  rw [ka_c, ← Nat.add_assoc] at this
  exact this
/-- the cell that number q of the row lies in -/
def k_own (π : Nat → Nat) (q : Nat) : Nat := if q < 4 then 1 else if q = 4 then 0 else if q < 8 then 2 else if q < 16 then 0 else if q < 96 then 6 + (q - 16) / 5 else if q < 136 then 22 + π ((q - 96) / 5) else 30 + (q - 136) / 5
theorem kb_ext {u' : Nat → Int32} (hP : kb_P π ρ) {o : Nat} (ho : o < 42) (h : ∀ q, q < 196 → k_own π q = o → u q = u' q) : kb_c G b u π ρ o = kb_c G b u' π ρ o := by
  unfold kb_c
  by_cases e0 : o = 0
  · rw [if_pos e0, if_pos e0, h 4 (by omega) (by rw [e0]; rfl), h 8 (by omega) (by rw [e0]; rfl), h 9 (by omega) (by rw [e0]; rfl), h 10 (by omega) (by rw [e0]; rfl), h 11 (by omega) (by rw [e0]; rfl), h 12 (by omega) (by rw [e0]; rfl), h 13 (by omega) (by rw [e0]; rfl), h 14 (by omega) (by rw [e0]; rfl), h 15 (by omega) (by rw [e0]; rfl)]
  rw [if_neg e0, if_neg e0]
  by_cases e1 : o = 1
  · rw [if_pos e1, if_pos e1]
    have : kS u = kS u' := funext fun j => by
      unfold kS
      by_cases hj : j < 4
      · rw [if_pos hj, if_pos hj]; exact h j (by omega) (by rw [e1]; unfold k_own; rw [if_pos hj])
      · rw [if_neg hj, if_neg hj]
    rw [this]
  rw [if_neg e1, if_neg e1]
  by_cases e2 : o = 2
  · rw [if_pos e2, if_pos e2]
    have : kR u = kR u' := funext fun j => by
      unfold kR
      by_cases hz : j = 0
      · rw [if_pos hz, if_pos hz]
      · rw [if_neg hz, if_neg hz]
        by_cases hj : j < 4
        · rw [if_pos hj, if_pos hj]
          exact h (4 + j) (by omega) (by rw [e2]; unfold k_own; rw [if_neg (by omega), if_neg (by omega), if_pos (by omega)])
        · rw [if_neg hj, if_neg hj]
    rw [this]
  rw [if_neg e2, if_neg e2]
  by_cases e3 : o = 3
  · rw [if_pos e3, if_pos e3]
  rw [if_neg e3, if_neg e3]
  by_cases e4 : o = 4
  · rw [if_pos e4, if_pos e4]
  rw [if_neg e4, if_neg e4]
  by_cases e5 : o = 5
  · rw [if_pos e5, if_pos e5]
  rw [if_neg e5, if_neg e5]
  by_cases e6 : o < 22
  · rw [if_pos e6, if_pos e6]
    congr 4
    exact k4_ext fun f hf => h _ (by omega) (by unfold k_own; rw [if_neg (by omega), if_neg (by omega), if_neg (by omega), if_neg (by omega), if_pos (by omega)]; omega)
  rw [if_neg e6, if_neg e6]
  by_cases e7 : o < 30
  · rw [if_pos e7, if_pos e7]
    obtain ⟨h1, h2⟩ := hP.2 (o - 22) (by omega)
    congr 2
    exact k5_ext fun f hf => h _ (by omega) (by unfold k_own; rw [if_neg (by omega), if_neg (by omega), if_neg (by omega), if_neg (by omega), if_neg (by omega), if_pos (by omega), show (96 + 5 * ρ (o - 22) + f - 96) / 5 = ρ (o - 22) by omega, h2]; omega)
  · rw [if_neg e7, if_neg e7]
    congr 2
    exact k5_ext fun f hf => h _ (by omega) (by unfold k_own; rw [if_neg (by omega), if_neg (by omega), if_neg (by omega), if_neg (by omega), if_neg (by omega), if_neg (by omega)]; omega)
/-- one number of the row is written -/
theorem kb_S.upd (hT : kb_S G b h0 u π ρ h) {o q : Nat} {e : va_E} {x : Int32} (hq : q < 196) (ho : k_own π q = o) (ho2 : o < 42) (he : kb_c G b (va_up u q x) π ρ o = e) : kb_S G b h0 (va_up u q x) π ρ (h.1, tp_up h.2 (b + o) e) := by
  refine ⟨⟨fun o' ho' => ?_, hT.1.2⟩, hT.2.1, fun a ha => ?_⟩
  · by_cases ee : o' = o
    · subst ee
      rw [he]
      exact tp_up_s
    · refine (tp_up_n (by omega)).trans ((hT.1.1 o' ho').trans ?_)
      congr 1
      exact kb_ext hT.1.2 ho' fun q' _ hq' => (va_up_ne' _ _ (fun z => ee (by rw [← hq', z, ho]))).symm
  · exact (tp_up_n (by omega)).trans (hT.2.2 a ha)
theorem kb_put_day {x : Int32} {ix : Nat} (hd : decode M.2.1 pc = .ok (.putfield ix, 3)) (hf : tp_FL M.1.cls ix 0 0) (hT : kb_S G b h0 u π ρ h) (kk : ∀ h1 : tp_H, kb_S G b h0 (va_up u 4 x) π ρ h1 → tp_Run l G M R Q k n h1 (pc + 3) L sk) : tp_Run l G M R Q k n h pc L (.int x :: .ref b :: sk) :=
  r_putf hd hf ft_0_0 hT.ob (Nat.le_of_ble_eq_true rfl) rfl rfl (kk _ (hT.upd (o := 0) (by omega) rfl (by omega) rfl))
theorem kb_put_openHolds {x : Int32} {ix : Nat} (hd : decode M.2.1 pc = .ok (.putfield ix, 3)) (hf : tp_FL M.1.cls ix 0 5) (hT : kb_S G b h0 u π ρ h) (kk : ∀ h1 : tp_H, kb_S G b h0 (va_up u 8 x) π ρ h1 → tp_Run l G M R Q k n h1 (pc + 3) L sk) : tp_Run l G M R Q k n h pc L (.int x :: .ref b :: sk) :=
  r_putf hd hf ft_0_5 hT.ob (Nat.le_of_ble_eq_true rfl) rfl rfl (kk _ (hT.upd (o := 0) (by omega) rfl (by omega) rfl))
theorem kb_put_paymentCount {x : Int32} {ix : Nat} (hd : decode M.2.1 pc = .ok (.putfield ix, 3)) (hf : tp_FL M.1.cls ix 0 7) (hT : kb_S G b h0 u π ρ h) (kk : ∀ h1 : tp_H, kb_S G b h0 (va_up u 9 x) π ρ h1 → tp_Run l G M R Q k n h1 (pc + 3) L sk) : tp_Run l G M R Q k n h pc L (.int x :: .ref b :: sk) :=
  r_putf hd hf ft_0_7 hT.ob (Nat.le_of_ble_eq_true rfl) rfl rfl (kk _ (hT.upd (o := 0) (by omega) rfl (by omega) rfl))
theorem kb_put_loaded {x : Int32} {ix : Nat} (hd : decode M.2.1 pc = .ok (.putfield ix, 3)) (hf : tp_FL M.1.cls ix 0 8) (hT : kb_S G b h0 u π ρ h) (kk : ∀ h1 : tp_H, kb_S G b h0 (va_up u 10 x) π ρ h1 → tp_Run l G M R Q k n h1 (pc + 3) L sk) : tp_Run l G M R Q k n h pc L (.int x :: .ref b :: sk) :=
  r_putf hd hf ft_0_8 hT.ob (Nat.le_of_ble_eq_true rfl) rfl rfl (kk _ (hT.upd (o := 0) (by omega) rfl (by omega) rfl))
theorem kb_put_paidOut {x : Int32} {ix : Nat} (hd : decode M.2.1 pc = .ok (.putfield ix, 3)) (hf : tp_FL M.1.cls ix 0 9) (hT : kb_S G b h0 u π ρ h) (kk : ∀ h1 : tp_H, kb_S G b h0 (va_up u 11 x) π ρ h1 → tp_Run l G M R Q k n h1 (pc + 3) L sk) : tp_Run l G M R Q k n h pc L (.int x :: .ref b :: sk) :=
  r_putf hd hf ft_0_9 hT.ob (Nat.le_of_ble_eq_true rfl) rfl rfl (kk _ (hT.upd (o := 0) (by omega) rfl (by omega) rfl))
theorem kb_put_exchanges {x : Int32} {ix : Nat} (hd : decode M.2.1 pc = .ok (.putfield ix, 3)) (hf : tp_FL M.1.cls ix 0 10) (hT : kb_S G b h0 u π ρ h) (kk : ∀ h1 : tp_H, kb_S G b h0 (va_up u 12 x) π ρ h1 → tp_Run l G M R Q k n h1 (pc + 3) L sk) : tp_Run l G M R Q k n h pc L (.int x :: .ref b :: sk) :=
  r_putf hd hf ft_0_10 hT.ob (Nat.le_of_ble_eq_true rfl) rfl rfl (kk _ (hT.upd (o := 0) (by omega) rfl (by omega) rfl))
theorem kb_put_homeSpread {x : Int32} {ix : Nat} (hd : decode M.2.1 pc = .ok (.putfield ix, 3)) (hf : tp_FL M.1.cls ix 0 11) (hT : kb_S G b h0 u π ρ h) (kk : ∀ h1 : tp_H, kb_S G b h0 (va_up u 13 x) π ρ h1 → tp_Run l G M R Q k n h1 (pc + 3) L sk) : tp_Run l G M R Q k n h pc L (.int x :: .ref b :: sk) :=
  r_putf hd hf ft_0_11 hT.ob (Nat.le_of_ble_eq_true rfl) rfl rfl (kk _ (hT.upd (o := 0) (by omega) rfl (by omega) rfl))
theorem kb_put_otherSpread {x : Int32} {ix : Nat} (hd : decode M.2.1 pc = .ok (.putfield ix, 3)) (hf : tp_FL M.1.cls ix 0 12) (hT : kb_S G b h0 u π ρ h) (kk : ∀ h1 : tp_H, kb_S G b h0 (va_up u 14 x) π ρ h1 → tp_Run l G M R Q k n h1 (pc + 3) L sk) : tp_Run l G M R Q k n h pc L (.int x :: .ref b :: sk) :=
  r_putf hd hf ft_0_12 hT.ob (Nat.le_of_ble_eq_true rfl) rfl rfl (kk _ (hT.upd (o := 0) (by omega) rfl (by omega) rfl))
theorem kb_put_debtPaid {x : Int32} {ix : Nat} (hd : decode M.2.1 pc = .ok (.putfield ix, 3)) (hf : tp_FL M.1.cls ix 0 13) (hT : kb_S G b h0 u π ρ h) (kk : ∀ h1 : tp_H, kb_S G b h0 (va_up u 15 x) π ρ h1 → tp_Run l G M R Q k n h1 (pc + 3) L sk) : tp_Run l G M R Q k n h pc L (.int x :: .ref b :: sk) :=
  r_putf hd hf ft_0_13 hT.ob (Nat.le_of_ble_eq_true rfl) rfl rfl (kk _ (hT.upd (o := 0) (by omega) rfl (by omega) rfl))
theorem kb_put_balance {x : Int32} {ix w c : Nat} (hd : decode M.2.1 pc = .ok (.putfield ix, 3)) (hf : tp_FL M.1.cls ix 4 2) (hT : kb_S G b h0 u π ρ h) (hw : w < 4) (hc : c < 4) (kk : ∀ h1 : tp_H, kb_S G b h0 (va_up u (z_at w c) x) π ρ h1 → tp_Run l G M R Q k n h1 (pc + 3) L sk) : tp_Run l G M R Q k n h pc L (.int x :: .ref (kp b w c) :: sk) := by
  refine r_putf hd hf ft_4_2 (hT.pu hw hc) (Nat.le_of_ble_eq_true rfl) rfl rfl (kk _ ?_)
  have e : kp b w c = b + (6 + (4 * w + c)) := by unfold kp; omega
  rw [e]
  refine hT.upd (by unfold z_at; omega) (by unfold k_own z_at; rw [if_neg (by omega), if_neg (by omega), if_neg (by omega), if_neg (by omega), if_pos (by omega)]; omega) (by omega) ?_
  rw [kp_c hw hc]
  simp [va_up]
theorem kb_put_debt {x : Int32} {ix w c : Nat} (hd : decode M.2.1 pc = .ok (.putfield ix, 3)) (hf : tp_FL M.1.cls ix 4 3) (hT : kb_S G b h0 u π ρ h) (hw : w < 4) (hc : c < 4) (kk : ∀ h1 : tp_H, kb_S G b h0 (va_up u (z_at w c + 1) x) π ρ h1 → tp_Run l G M R Q k n h1 (pc + 3) L sk) : tp_Run l G M R Q k n h pc L (.int x :: .ref (kp b w c) :: sk) := by
  refine r_putf hd hf ft_4_3 (hT.pu hw hc) (Nat.le_of_ble_eq_true rfl) rfl rfl (kk _ ?_)
  have e : kp b w c = b + (6 + (4 * w + c)) := by unfold kp; omega
  rw [e]
  refine hT.upd (by unfold z_at; omega) (by unfold k_own z_at; rw [if_neg (by omega), if_neg (by omega), if_neg (by omega), if_neg (by omega), if_pos (by omega)]; omega) (by omega) ?_
  rw [kp_c hw hc]
  simp [va_up]
theorem kb_put_lockedRate {x : Int32} {ix w c : Nat} (hd : decode M.2.1 pc = .ok (.putfield ix, 3)) (hf : tp_FL M.1.cls ix 4 4) (hT : kb_S G b h0 u π ρ h) (hw : w < 4) (hc : c < 4) (kk : ∀ h1 : tp_H, kb_S G b h0 (va_up u (z_at w c + 2) x) π ρ h1 → tp_Run l G M R Q k n h1 (pc + 3) L sk) : tp_Run l G M R Q k n h pc L (.int x :: .ref (kp b w c) :: sk) := by
  refine r_putf hd hf ft_4_4 (hT.pu hw hc) (Nat.le_of_ble_eq_true rfl) rfl rfl (kk _ ?_)
  have e : kp b w c = b + (6 + (4 * w + c)) := by unfold kp; omega
  rw [e]
  refine hT.upd (by unfold z_at; omega) (by unfold k_own z_at; rw [if_neg (by omega), if_neg (by omega), if_neg (by omega), if_neg (by omega), if_pos (by omega)]; omega) (by omega) ?_
  rw [kp_c hw hc]
  simp [va_up]
theorem kb_put_lockEnd {x : Int32} {ix w c : Nat} (hd : decode M.2.1 pc = .ok (.putfield ix, 3)) (hf : tp_FL M.1.cls ix 4 5) (hT : kb_S G b h0 u π ρ h) (hw : w < 4) (hc : c < 4) (kk : ∀ h1 : tp_H, kb_S G b h0 (va_up u (z_at w c + 3) x) π ρ h1 → tp_Run l G M R Q k n h1 (pc + 3) L sk) : tp_Run l G M R Q k n h pc L (.int x :: .ref (kp b w c) :: sk) := by
  refine r_putf hd hf ft_4_5 (hT.pu hw hc) (Nat.le_of_ble_eq_true rfl) rfl rfl (kk _ ?_)
  have e : kp b w c = b + (6 + (4 * w + c)) := by unfold kp; omega
  rw [e]
  refine hT.upd (by unfold z_at; omega) (by unfold k_own z_at; rw [if_neg (by omega), if_neg (by omega), if_neg (by omega), if_neg (by omega), if_pos (by omega)]; omega) (by omega) ?_
  rw [kp_c hw hc]
  simp [va_up]
theorem kb_put_h0 {x : Int32} {ix j : Nat} (hd : decode M.2.1 pc = .ok (.putfield ix, 3)) (hf : tp_FL M.1.cls ix 1 0) (hT : kb_S G b h0 u π ρ h) (hj : j < 8) (kk : ∀ h1 : tp_H, kb_S G b h0 (va_up u (96 + 5 * j) x) π ρ h1 → tp_Run l G M R Q k n h1 (pc + 3) L sk) : tp_Run l G M R Q k n h pc L (.int x :: .ref (b + 22 + π j) :: sk) := by
  refine r_putf hd hf ft_1_0 (hT.ho hj) (Nat.le_of_ble_eq_true rfl) rfl rfl (kk _ ?_)
  obtain ⟨h1, h2⟩ := hT.1.2.1 j hj
  rw [show b + 22 + π j = b + (22 + π j) from Nat.add_assoc _ _ _]
  refine hT.upd (q := 96 + 5 * j) (by omega) (by unfold k_own; rw [if_neg (by omega), if_neg (by omega), if_neg (by omega), if_neg (by omega), if_neg (by omega), if_pos (by omega), show (96 + 5 * j - 96) / 5 = j by omega]) (by omega) ?_
  rw [kh_c h1, h2]
  simp [va_up, k5]
theorem kb_put_p0 {x : Int32} {ix j : Nat} (hd : decode M.2.1 pc = .ok (.putfield ix, 3)) (hf : tp_FL M.1.cls ix 3 0) (hT : kb_S G b h0 u π ρ h) (hj : j < 12) (kk : ∀ h1 : tp_H, kb_S G b h0 (va_up u (136 + 5 * j) x) π ρ h1 → tp_Run l G M R Q k n h1 (pc + 3) L sk) : tp_Run l G M R Q k n h pc L (.int x :: .ref (b + 30 + j) :: sk) := by
  refine r_putf hd hf ft_3_0 (hT.pa hj) (Nat.le_of_ble_eq_true rfl) rfl rfl (kk _ ?_)
  rw [show b + 30 + j = b + (30 + j) from Nat.add_assoc _ _ _]
  refine hT.upd (q := 136 + 5 * j) (by omega) (by unfold k_own; rw [if_neg (by omega), if_neg (by omega), if_neg (by omega), if_neg (by omega), if_neg (by omega), if_neg (by omega), show (136 + 5 * j - 136) / 5 = j by omega]) (by omega) ?_
  rw [ka_c]
  simp [va_up, k5]
theorem kb_put_h1 {x : Int32} {ix j : Nat} (hd : decode M.2.1 pc = .ok (.putfield ix, 3)) (hf : tp_FL M.1.cls ix 1 1) (hT : kb_S G b h0 u π ρ h) (hj : j < 8) (kk : ∀ h1 : tp_H, kb_S G b h0 (va_up u (96 + 5 * j + 1) x) π ρ h1 → tp_Run l G M R Q k n h1 (pc + 3) L sk) : tp_Run l G M R Q k n h pc L (.int x :: .ref (b + 22 + π j) :: sk) := by
  refine r_putf hd hf ft_1_1 (hT.ho hj) (Nat.le_of_ble_eq_true rfl) rfl rfl (kk _ ?_)
  obtain ⟨h1, h2⟩ := hT.1.2.1 j hj
  rw [show b + 22 + π j = b + (22 + π j) from Nat.add_assoc _ _ _]
  refine hT.upd (q := 96 + 5 * j + 1) (by omega) (by unfold k_own; rw [if_neg (by omega), if_neg (by omega), if_neg (by omega), if_neg (by omega), if_neg (by omega), if_pos (by omega), show (96 + 5 * j + 1 - 96) / 5 = j by omega]) (by omega) ?_
  rw [kh_c h1, h2]
  simp [va_up, k5]
theorem kb_put_p1 {x : Int32} {ix j : Nat} (hd : decode M.2.1 pc = .ok (.putfield ix, 3)) (hf : tp_FL M.1.cls ix 3 1) (hT : kb_S G b h0 u π ρ h) (hj : j < 12) (kk : ∀ h1 : tp_H, kb_S G b h0 (va_up u (136 + 5 * j + 1) x) π ρ h1 → tp_Run l G M R Q k n h1 (pc + 3) L sk) : tp_Run l G M R Q k n h pc L (.int x :: .ref (b + 30 + j) :: sk) := by
  refine r_putf hd hf ft_3_1 (hT.pa hj) (Nat.le_of_ble_eq_true rfl) rfl rfl (kk _ ?_)
  rw [show b + 30 + j = b + (30 + j) from Nat.add_assoc _ _ _]
  refine hT.upd (q := 136 + 5 * j + 1) (by omega) (by unfold k_own; rw [if_neg (by omega), if_neg (by omega), if_neg (by omega), if_neg (by omega), if_neg (by omega), if_neg (by omega), show (136 + 5 * j + 1 - 136) / 5 = j by omega]) (by omega) ?_
  rw [ka_c]
  simp [va_up, k5]
theorem kb_put_h2 {x : Int32} {ix j : Nat} (hd : decode M.2.1 pc = .ok (.putfield ix, 3)) (hf : tp_FL M.1.cls ix 1 2) (hT : kb_S G b h0 u π ρ h) (hj : j < 8) (kk : ∀ h1 : tp_H, kb_S G b h0 (va_up u (96 + 5 * j + 2) x) π ρ h1 → tp_Run l G M R Q k n h1 (pc + 3) L sk) : tp_Run l G M R Q k n h pc L (.int x :: .ref (b + 22 + π j) :: sk) := by
  refine r_putf hd hf ft_1_2 (hT.ho hj) (Nat.le_of_ble_eq_true rfl) rfl rfl (kk _ ?_)
  obtain ⟨h1, h2⟩ := hT.1.2.1 j hj
  rw [show b + 22 + π j = b + (22 + π j) from Nat.add_assoc _ _ _]
  refine hT.upd (q := 96 + 5 * j + 2) (by omega) (by unfold k_own; rw [if_neg (by omega), if_neg (by omega), if_neg (by omega), if_neg (by omega), if_neg (by omega), if_pos (by omega), show (96 + 5 * j + 2 - 96) / 5 = j by omega]) (by omega) ?_
  rw [kh_c h1, h2]
  simp [va_up, k5]
theorem kb_put_p2 {x : Int32} {ix j : Nat} (hd : decode M.2.1 pc = .ok (.putfield ix, 3)) (hf : tp_FL M.1.cls ix 3 2) (hT : kb_S G b h0 u π ρ h) (hj : j < 12) (kk : ∀ h1 : tp_H, kb_S G b h0 (va_up u (136 + 5 * j + 2) x) π ρ h1 → tp_Run l G M R Q k n h1 (pc + 3) L sk) : tp_Run l G M R Q k n h pc L (.int x :: .ref (b + 30 + j) :: sk) := by
  refine r_putf hd hf ft_3_2 (hT.pa hj) (Nat.le_of_ble_eq_true rfl) rfl rfl (kk _ ?_)
  rw [show b + 30 + j = b + (30 + j) from Nat.add_assoc _ _ _]
  refine hT.upd (q := 136 + 5 * j + 2) (by omega) (by unfold k_own; rw [if_neg (by omega), if_neg (by omega), if_neg (by omega), if_neg (by omega), if_neg (by omega), if_neg (by omega), show (136 + 5 * j + 2 - 136) / 5 = j by omega]) (by omega) ?_
  rw [ka_c]
  simp [va_up, k5]
theorem kb_put_h3 {x : Int32} {ix j : Nat} (hd : decode M.2.1 pc = .ok (.putfield ix, 3)) (hf : tp_FL M.1.cls ix 1 3) (hT : kb_S G b h0 u π ρ h) (hj : j < 8) (kk : ∀ h1 : tp_H, kb_S G b h0 (va_up u (96 + 5 * j + 3) x) π ρ h1 → tp_Run l G M R Q k n h1 (pc + 3) L sk) : tp_Run l G M R Q k n h pc L (.int x :: .ref (b + 22 + π j) :: sk) := by
  refine r_putf hd hf ft_1_3 (hT.ho hj) (Nat.le_of_ble_eq_true rfl) rfl rfl (kk _ ?_)
  obtain ⟨h1, h2⟩ := hT.1.2.1 j hj
  rw [show b + 22 + π j = b + (22 + π j) from Nat.add_assoc _ _ _]
  refine hT.upd (q := 96 + 5 * j + 3) (by omega) (by unfold k_own; rw [if_neg (by omega), if_neg (by omega), if_neg (by omega), if_neg (by omega), if_neg (by omega), if_pos (by omega), show (96 + 5 * j + 3 - 96) / 5 = j by omega]) (by omega) ?_
  rw [kh_c h1, h2]
  simp [va_up, k5]
theorem kb_put_p3 {x : Int32} {ix j : Nat} (hd : decode M.2.1 pc = .ok (.putfield ix, 3)) (hf : tp_FL M.1.cls ix 3 3) (hT : kb_S G b h0 u π ρ h) (hj : j < 12) (kk : ∀ h1 : tp_H, kb_S G b h0 (va_up u (136 + 5 * j + 3) x) π ρ h1 → tp_Run l G M R Q k n h1 (pc + 3) L sk) : tp_Run l G M R Q k n h pc L (.int x :: .ref (b + 30 + j) :: sk) := by
  refine r_putf hd hf ft_3_3 (hT.pa hj) (Nat.le_of_ble_eq_true rfl) rfl rfl (kk _ ?_)
  rw [show b + 30 + j = b + (30 + j) from Nat.add_assoc _ _ _]
  refine hT.upd (q := 136 + 5 * j + 3) (by omega) (by unfold k_own; rw [if_neg (by omega), if_neg (by omega), if_neg (by omega), if_neg (by omega), if_neg (by omega), if_neg (by omega), show (136 + 5 * j + 3 - 136) / 5 = j by omega]) (by omega) ?_
  rw [ka_c]
  simp [va_up, k5]
theorem kb_put_h4 {x : Int32} {ix j : Nat} (hd : decode M.2.1 pc = .ok (.putfield ix, 3)) (hf : tp_FL M.1.cls ix 1 4) (hT : kb_S G b h0 u π ρ h) (hj : j < 8) (kk : ∀ h1 : tp_H, kb_S G b h0 (va_up u (96 + 5 * j + 4) x) π ρ h1 → tp_Run l G M R Q k n h1 (pc + 3) L sk) : tp_Run l G M R Q k n h pc L (.int x :: .ref (b + 22 + π j) :: sk) := by
  refine r_putf hd hf ft_1_4 (hT.ho hj) (Nat.le_of_ble_eq_true rfl) rfl rfl (kk _ ?_)
  obtain ⟨h1, h2⟩ := hT.1.2.1 j hj
  rw [show b + 22 + π j = b + (22 + π j) from Nat.add_assoc _ _ _]
  refine hT.upd (q := 96 + 5 * j + 4) (by omega) (by unfold k_own; rw [if_neg (by omega), if_neg (by omega), if_neg (by omega), if_neg (by omega), if_neg (by omega), if_pos (by omega), show (96 + 5 * j + 4 - 96) / 5 = j by omega]) (by omega) ?_
  rw [kh_c h1, h2]
  simp [va_up, k5]
theorem kb_put_p4 {x : Int32} {ix j : Nat} (hd : decode M.2.1 pc = .ok (.putfield ix, 3)) (hf : tp_FL M.1.cls ix 3 4) (hT : kb_S G b h0 u π ρ h) (hj : j < 12) (kk : ∀ h1 : tp_H, kb_S G b h0 (va_up u (136 + 5 * j + 4) x) π ρ h1 → tp_Run l G M R Q k n h1 (pc + 3) L sk) : tp_Run l G M R Q k n h pc L (.int x :: .ref (b + 30 + j) :: sk) := by
  refine r_putf hd hf ft_3_4 (hT.pa hj) (Nat.le_of_ble_eq_true rfl) rfl rfl (kk _ ?_)
  rw [show b + 30 + j = b + (30 + j) from Nat.add_assoc _ _ _]
  refine hT.upd (q := 136 + 5 * j + 4) (by omega) (by unfold k_own; rw [if_neg (by omega), if_neg (by omega), if_neg (by omega), if_neg (by omega), if_neg (by omega), if_neg (by omega), show (136 + 5 * j + 4 - 136) / 5 = j by omega]) (by omega) ?_
  rw [ka_c]
  simp [va_up, k5]
theorem kb_st_se {x v : Int32} {i : Nat} (hd : decode M.2.1 pc = .ok (.iastore, 1)) (hT : kb_S G b h0 u π ρ h) (hx : x = nI i) (hi9 : i < 4) (kk : ∀ h1 : tp_H, kb_S G b h0 (va_up u i v) π ρ h1 → tp_Run l G M R Q k n h1 (pc + 1) L sk) : tp_Run l G M R Q k n h pc L (.int v :: .int x :: .ref (b + 1) :: sk) := by
  refine r_iast hd hT.se hx hi9 (by omega) (kk _ (hT.upd (by omega) (by unfold k_own; rw [if_pos hi9]) (by omega) ?_))
  rw [show kb_c G b (va_up u i v) π ρ 1 = .inl (G.2.2.1 0, 4, .inl (kS (va_up u i v))) from rfl]
  have : kS (va_up u i v) = va_up (kS u) i v := funext fun q => by
    unfold kS va_up
    by_cases hq : q = i
    · rw [if_pos hq, if_pos hq, if_pos (by omega)]
    · rw [if_neg hq, if_neg hq]
  rw [this]
theorem kb_st_ra {x v : Int32} {i : Nat} (hd : decode M.2.1 pc = .ok (.iastore, 1)) (hT : kb_S G b h0 u π ρ h) (hx : x = nI i) (hi9 : 0 < i ∧ i < 4) (kk : ∀ h1 : tp_H, kb_S G b h0 (va_up u (4 + i) v) π ρ h1 → tp_Run l G M R Q k n h1 (pc + 1) L sk) : tp_Run l G M R Q k n h pc L (.int v :: .int x :: .ref (b + 2) :: sk) := by
  refine r_iast hd hT.ra hx hi9.2 (by omega) (kk _ (hT.upd (by omega) (by unfold k_own; rw [if_neg (by omega), if_neg (by omega), if_pos (by omega)]) (by omega) ?_))
  rw [show kb_c G b (va_up u (4 + i) v) π ρ 2 = .inl (G.2.2.1 0, 4, .inl (kR (va_up u (4 + i) v))) from rfl]
  have : kR (va_up u (4 + i) v) = va_up (kR u) i v := funext fun q => by
    unfold kR va_up
    by_cases hq : q = i
    · rw [if_pos hq, if_neg (by omega), if_pos (by omega), if_pos (by omega)]
    · rw [if_neg hq]
      dsimp only
      by_cases q0 : q = 0
      · rw [if_pos q0, if_pos q0]
      · rw [if_neg q0, if_neg q0]
        by_cases q4 : q < 4
        · rw [if_pos q4, if_pos q4, if_neg (by omega)]
        · rw [if_neg q4, if_neg q4]
  rw [this]
theorem kF_at {a N j : Nat} (h : j < N) : kF a N j = some (a + j) := if_pos h
theorem kFp_at {a N j : Nat} {π : Nat → Nat} (h : j < N) : kFp a N π j = some (a + π j) := if_pos h
theorem kS_at {u : Nat → Int32} {j : Nat} (h : j < 4) : kS u j = u j := if_pos h
theorem kR_at {u : Nat → Int32} {j : Nat} (h : j < 4) (h0 : 0 < j) : kR u j = u (4 + j) := by unfold kR; rw [if_neg (by omega), if_pos h]
end KB
