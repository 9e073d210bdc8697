/-! ORDERS, one by one -/
section ZO
variable {B N P : Nat} {u z pa : Nat → Int32}
theorem c_step {R : Nat} (hz : zr N P u z) (h : iv B N P z) (hB : B < 2 ^ 30) (hw : w_row pa R) : c_ok u pa R = m_ok z pa R ∧ (m_ok z pa R = true → ∃ N', zr N' P (c_do u pa R) (m_do z pa R) ∧ iv (B + 1000000) N' P (m_do z pa R)) := by
  obtain ⟨hs, hv, v, v1, v2, v4⟩ := hw
  obtain ⟨w, hw4, ew⟩ := hv 1 (by omega) (k_due_le _).1
  have ew' : z_n (pa (5 * R + 1)) = w := by rw [ew, z_nI (by omega)]
  rcases hs with hs | hs | hs
  · unfold c_ok m_ok c_do m_do
    rw [if_pos hs, if_pos hs, if_pos hs, if_pos hs, ew', v4]
    refine ⟨decide_eq_decide.mpr (hz.loadC h hB hw4 v2), fun _ => ⟨N, hz.load hw4 _, h.load hB hw4 v2⟩⟩
  · have ed : k_due (pa (5 * R)) = 3 := by rw [hs]; rfl
    obtain ⟨f, hf4, ef⟩ := hv 2 (by omega) (by omega)
    obtain ⟨t, ht4, et⟩ := hv 3 (by omega) (by omega)
    have n1 : ¬ pa (5 * R) = 108 := by rw [hs]; decide
    unfold c_ok m_ok c_do m_do
    rw [if_neg n1, if_neg n1, if_neg n1, if_neg n1, if_pos hs, if_pos hs, if_pos hs, if_pos hs, ew', v4, ef, et, z_nI (by omega), z_nI (by omega)]
    refine ⟨by rw [hz.whyEx hw4 hf4], fun hk => ?_⟩
    obtain ⟨e1, e2, -⟩ := hz.ex h hB hw4 hf4 ht4 v2 (of_decide_eq_true hk)
    exact ⟨N, e1, e2⟩
  · have ed : k_due (pa (5 * R)) = 2 := by rw [hs]; rfl
    obtain ⟨f, hf4, ef⟩ := hv 2 (by omega) (by omega)
    have n1 : ¬ pa (5 * R) = 108 := by rw [hs]; decide
    have n2 : ¬ pa (5 * R) = 120 := by rw [hs]; decide
    have h8 := hz.n8
    unfold c_ok m_ok c_do m_do
    rw [if_neg n1, if_neg n1, if_neg n1, if_neg n1, if_neg n2, if_neg n2, if_neg n2, if_neg n2, ew', v4, ef, z_nI (by omega), hz.u8, z_nI (by omega)]
    refine ⟨by rw [hz.whyHold hw4 hf4], fun hk => ?_⟩
    have hk := of_decide_eq_true hk
    have hN8 := z_whyHold_8 hk hz.z8 h8
    exact ⟨N + 1, hz.hold hN8 _, (h.hold hz.z8 hN8 hB hw4 hf4 v2 hk).mono (by omega)⟩
theorem c_many : ∀ (d i B N : Nat) (u z : Nat → Int32), zr N P u z → iv B N P z → B + 1000000 * d < 2 ^ 30 → (∀ j, i ≤ j → j < i + d → w_row pa j) → (r_many (fun u => c_ok u pa) (fun u => c_do u pa) d i u).1 = (r_many (fun u => m_ok u pa) (fun u => m_do u pa) d i z).1 ∧ ∃ N', zr N' P (r_many (fun u => c_ok u pa) (fun u => c_do u pa) d i u).2 (r_many (fun u => m_ok u pa) (fun u => m_do u pa) d i z).2 ∧ iv (B + 1000000 * d) N' P (r_many (fun u => m_ok u pa) (fun u => m_do u pa) d i z).2
  | 0, i, B, N, u, z, hz, h, _, _ => by
    unfold r_many
    refine ⟨rfl, N, hz, ?_⟩
    exact iv.mono h (by omega)
  | d + 1, i, B, N, u, z, hz, h, hB, hw => by
    obtain ⟨e1, e2⟩ := c_step (R := i) hz h (by omega) (hw i (by omega) (by omega))
    unfold r_many
    rw [e1]
    by_cases c : m_ok z pa i = true
    · rw [if_pos c, if_pos c]
      obtain ⟨N', f1, f2⟩ := e2 c
      obtain ⟨g1, N2, g2, g3⟩ := c_many d (i + 1) (B + 1000000) N' _ _ f1 f2 (by omega) (fun j j1 j2 => hw j (by omega) (by omega))
      exact ⟨g1, N2, g2, g3.mono (by omega)⟩
    · rw [if_neg c, if_neg c]
      exact ⟨rfl, N, hz, h.mono (by omega)⟩
end ZO
