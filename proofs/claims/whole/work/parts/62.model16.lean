/-- what was read: parts, number of the order, number, what is due -/
abbrev p_S : Type := (Nat → Int32) × Nat × Int32 × Nat
def p_ok (s : p_S) (c : Int32) : Bool :=
  if s.2.2.2 = 0 then decide (c = 108 ∨ c = 120 ∨ c = 104)
  else if s.2.2.2 = 4 then decide (c = if s.1 (5 * s.2.1) = 108 then 43 else 58)
  else if s.2.2.2 = 5 then (if c = 59 ∧ ¬ s.2.2.1 = -1 then true else decide ((0 ≤ c - 48 ∧ c - 48 ≤ 9) ∧ (1 ≤ p_v s.2.2.1 (c - 48) ∧ p_v s.2.2.1 (c - 48) ≤ 99999)))
  else decide (48 ≤ c ∧ c ≤ 51)
def p_nx (s : p_S) (c : Int32) : p_S :=
  if s.2.2.2 = 0 then (va_up s.1 (5 * s.2.1) c, s.2.1, -1, 1)
  else if s.2.2.2 = 4 then (s.1, s.2.1, s.2.2.1, 5)
  else if s.2.2.2 = 5 then (if c = 59 ∧ ¬ s.2.2.1 = -1 then (s.1, s.2.1 + 1, s.2.2.1, 0) else (va_up s.1 (5 * s.2.1 + 4) (p_nu s.2.2.1 (c - 48)), s.2.1, p_nu s.2.2.1 (c - 48), 5))
  else (va_up s.1 (5 * s.2.1 + s.2.2.2) (c - 48), s.2.1, s.2.2.1, p_du (s.1 (5 * s.2.1)) s.2.2.2)
theorem tp_b_dec {p : Prop} [Decidable p] : tp_b (decide p = true) = tp_b p := by
  by_cases h : p
  · rw [tp_b_t h, tp_b_t (decide_eq_true h)]
  · rw [tp_b_f h, tp_b_f (by rw [decide_eq_false h]; decide)]
set_option maxHeartbeats 1000000 in
theorem M_takes {l : Launch} {G : tp_G} {y : Nat} {h0 h : tp_H} {z hi tx : Nat → Int32} {st len thr : Int32} {hs : Int64} {s : p_S} (hl : l.stackTraces = false) (hT0 : mm_S G y h0 z hi tx s.1 st len thr (nI s.2.1) s.2.2.1 (nI s.2.2.2) hs h) {c : Int32} (hR : s.2.1 ≤ 11) (hD : s.2.2.2 ≤ 5) : tp_Met l G mX6_takes 0 0 [.ref y, .int c] h (tp_PS (some (.int (tp_b (p_ok s c = true)))) (fun h1 => mm_S G y h z hi tx (p_nx s c).1 st len thr (nI (p_nx s c).2.1) (p_nx s c).2.2.1 (nI (p_nx s c).2.2.2) hs h1)) tp_NX := by
  obtain ⟨pa, R, nu, D⟩ := s
  have hR : R ≤ 11 := hR
  have hD : D ≤ 5 := hD
  rcases (show D = 0 ∨ D = 1 ∨ D = 2 ∨ D = 3 ∨ D = 4 ∨ D = 5 by omega) with rfl | rfl | rfl | rfl | rfl | rfl
  · rw [show p_ok (pa, R, nu, 0) c = decide (c = 108 ∨ c = 120 ∨ c = 104) from rfl, tp_b_dec, show p_nx (pa, R, nu, 0) c = (va_up pa (5 * R) c, R, -1, 1) from rfl]
    exact M_takes0 hl hT0 hR
  · rw [show p_ok (pa, R, nu, 1) c = decide (48 ≤ c ∧ c ≤ 51) from rfl, tp_b_dec, show p_nx (pa, R, nu, 1) c = (va_up pa (5 * R + 1) (c - 48), R, nu, p_du (pa (5 * R)) 1) from rfl]
    exact M_takesP (R := R) (D := 1) hl hT0 hR ⟨by decide, by decide⟩
  · rw [show p_ok (pa, R, nu, 2) c = decide (48 ≤ c ∧ c ≤ 51) from rfl, tp_b_dec, show p_nx (pa, R, nu, 2) c = (va_up pa (5 * R + 2) (c - 48), R, nu, p_du (pa (5 * R)) 2) from rfl]
    exact M_takesP (R := R) (D := 2) hl hT0 hR ⟨by decide, by decide⟩
  · rw [show p_ok (pa, R, nu, 3) c = decide (48 ≤ c ∧ c ≤ 51) from rfl, tp_b_dec, show p_nx (pa, R, nu, 3) c = (va_up pa (5 * R + 3) (c - 48), R, nu, p_du (pa (5 * R)) 3) from rfl]
    exact M_takesP (R := R) (D := 3) hl hT0 hR ⟨by decide, by decide⟩
  · rw [show p_ok (pa, R, nu, 4) c = decide (c = if pa (5 * R) = 108 then 43 else 58) from rfl, tp_b_dec, show p_nx (pa, R, nu, 4) c = (pa, R, nu, 5) from rfl]
    exact M_takes4 hl hT0 hR
  · by_cases hc : c = 59 ∧ ¬ nu = -1
    · rw [show p_ok (pa, R, nu, 5) c = true from if_pos hc, tp_b_t rfl, show p_nx (pa, R, nu, 5) c = (pa, R + 1, nu, 0) from if_pos hc]
      exact M_takes5s hl hT0 hR hc.1 hc.2
    · rw [show p_ok (pa, R, nu, 5) c = decide ((0 ≤ c - 48 ∧ c - 48 ≤ 9) ∧ (1 ≤ p_v nu (c - 48) ∧ p_v nu (c - 48) ≤ 99999)) from if_neg hc, tp_b_dec, show p_nx (pa, R, nu, 5) c = (va_up pa (5 * R + 4) (p_nu nu (c - 48)), R, p_nu nu (c - 48), 5) from if_neg hc]
      exact M_takes5d hl hT0 hR hc
