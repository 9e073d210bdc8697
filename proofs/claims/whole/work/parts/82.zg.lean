section ZG
variable {B N P : Nat} {u z : Nat → Int32}
theorem z_cv_fr {w f t : Nat} {a m s : Int32} {q : Nat} (h1 : q ≠ 12) (h2 : q ≠ 13) (h3 : q ≠ 14) (h4 : q ≠ 15) (h5 : q ≠ z_at w f) (h6 : q ≠ z_at w t) (h7 : q ≠ z_at w t + 1) : z_cv u w f t a m s q = u q := by
  have hX : (if t = 0 then 13 else 14) = 13 ∨ (if t = 0 then 13 else 14) = 14 := by
    split
    · exact Or.inl rfl
    · exact Or.inr rfl
  rw [z_cv_eq, va_up_ne' _ _ (by omega), va_up_ne' _ _ h1, z_in_fr h6 h7 h4, va_up_ne' _ _ h5]
theorem k_close1_fr {w c : Nat} {q : Nat} (h1 : q ≠ 12) (h2 : q ≠ 13) (h3 : q ≠ 14) (h4 : q ≠ 15) (h5 : q ≠ z_at w c) (h6 : q ≠ z_at w 0) (h7 : q ≠ z_at w 0 + 1) (h8 : q ≠ z_at w c + 3) : k_close1 u w c q = u q := by
  unfold k_close1
  rw [va_up_ne' _ _ h8]
  split
  · rw [k_conv_cv]; exact z_cv_fr h1 h2 h3 h4 h5 h6 h7
  · rfl
theorem z_close1_fr {w c : Nat} {q : Nat} (h1 : q ≠ 12) (h2 : q ≠ 13) (h3 : q ≠ 14) (h4 : q ≠ 15) (h5 : q ≠ z_at w c) (h6 : q ≠ z_at w 0) (h7 : q ≠ z_at w 0 + 1) (h8 : q ≠ z_at w c + 2) : z_close1 z w c q = z q := by
  unfold z_close1
  rw [va_up_ne' _ _ h8]
  split
  · rw [z_ex_cv]; exact z_cv_fr h1 h2 h3 h4 h5 h6 h7
  · rfl
/-- one currency of a wallet that is closed -/
theorem zr.close1 {ui zi : Nat → Int32} (hz : zr N P u z) (h : iv B N P z) (hB : B < 2 ^ 30) (hi : zr N P ui zi) {w c : Nat} (hw : w < 4) (h0 : 0 < c) (hc : c < 4) (au : ∀ q, q = 1 ∨ q = 4 ∨ q = 4 + c ∨ q = z_at w c ∨ q = z_at w c + 2 ∨ q = z_at w c + 3 → ui q = u q) (az : ∀ q, q = 1 ∨ q = 4 ∨ q = 4 + c ∨ q = z_at w c ∨ q = z_at w c + 2 ∨ q = z_at w c + 3 → zi q = z q) : zr N P (k_close1 ui w c) (z_close1 zi w c) ∧ ∃ g, z_brings zi w c 0 (zi (z_at w c)) = nI g ∧ g < 2 ^ 31 := by
  obtain ⟨b, b1, b2, -⟩ := h.b hw hc
  have eu : ui (z_at w c) = nI b := by rw [au _ (by simp), hz.ba hw hc, b1]
  have ez : zi (z_at w c) = nI b := by rw [az _ (by simp), b1]
  obtain ⟨n1, n2, g, n3, n4, -⟩ := hz.net h hw hc (t := 0) (m := b) (by omega) (Or.inl ⟨rfl, h0, by omega⟩)
  obtain ⟨c1, c2⟩ := k_net_cg (u := u) (u' := ui) (w := w) (a := nI b) hc (au 1 (by simp)) (au 4 (by simp)) (au _ (by simp)) (au _ (by simp)) (au _ (by simp))
  obtain ⟨d1, d2⟩ := z_brings_cg (z := z) (z' := zi) (w := w) (a := nI b) h0 (az 1 (by simp)) (az 4 (by simp)) (az _ (by simp)) (az _ (by simp)) (az _ (by simp))
  refine ⟨?_, g, by rw [ez, d1, n3], n4⟩
  unfold k_close1 z_close1
  rw [eu, ez]
  by_cases q : 0 < nI b
  · rw [if_pos q, if_pos q, k_conv_cv, z_ex_cv, c1, c2, n1, n2, ← d1, ← d2]
    exact (hi.cv hw hc (by omega) _ _ _).unlock hw hc
  · rw [if_neg q, if_neg q]
    exact hi.unlock hw hc
theorem z_close1_pt {w c b g : Nat} (hw : w < 4) (h0 : 0 < c) (hc : c < 4) (hb : z (z_at w c) = nI b) (hb2 : b < 2 ^ 31) (hd : z (z_at w 0 + 1) = nI 0) (hg : z_brings z w c 0 (z (z_at w c)) = nI g) (hg2 : g < 2 ^ 31) : z_close1 z w c (z_at w 0 + 1) = nI 0 ∧ z_close1 z w c (z_at w c) = nI 0 ∧ z_close1 z w c (z_at w c + 2) = nI 0 := by
  have a0 : 16 ≤ z_at w 0 := by unfold z_at; omega
  have a1 : z_at w 0 + 5 ≤ z_at w c := by unfold z_at; omega
  unfold z_close1
  refine ⟨?_, ?_, va_up_eq _ _ _⟩
  · rw [va_up_ne' _ _ (by omega)]
    split
    · rw [z_ex_cv, z_cv_eq, if_pos rfl, va_up_ne' _ _ (by omega), va_up_ne' _ _ (by omega), hg, z_in_eq, va_up_ne' _ _ (by omega), va_up_ne' _ _ (by omega), va_up_eq, va_up_ne' _ _ (by omega), hd]
      unfold z_paid
      rw [va_up_ne' _ _ (by omega), hd]
      by_cases q : 0 < g
      · rw [if_pos ((tp_lt (by omega) hg2).mpr q)]
        rfl
      · have : g = 0 := by omega
        subst this
        rw [if_neg (by decide)]
        rfl
    · exact hd
  · rw [va_up_ne' _ _ (by omega)]
    split
    · rw [z_ex_cv, z_cv_eq, if_pos rfl, va_up_ne' _ _ (by omega), va_up_ne' _ _ (by omega), z_in_fr (by omega) (by omega) (by omega), va_up_eq]
      exact Int32.sub_self _
    · rename_i q
      rw [hb] at q ⊢
      have : b = 0 := by
        rcases Nat.eq_zero_or_pos b with e | e
        · exact e
        · exact absurd ((tp_lt (a := 0) (by omega) hb2).mpr e) q
      rw [this]
/-- close -/
theorem zr.close (hz : zr N P u z) (h : iv B N P z) (hB : B < 2 ^ 30) {w : Nat} (hw : w < 4) (hm : z_whyClose z w = 0) : zr N P (k_payout (k_closeT u w 3) w) (z_closes z w) ∧ iv B N P (z_closes z w) ∧ k_closeT u w 3 (z_at w 0) = z_close3 z w (z_at w 0) := by
  have a0 : 16 ≤ z_at w 0 ∧ z_at w 0 + 20 ≤ 96 := by unfold z_at; omega
  have a1 : z_at w 1 = z_at w 0 + 5 := by unfold z_at; omega
  have a2 : z_at w 2 = z_at w 0 + 10 := by unfold z_at; omega
  have a3 : z_at w 3 = z_at w 0 + 15 := by unfold z_at; omega
  have h8 := hz.n8
  obtain ⟨y1, y2⟩ := z_why0 hm
  rw [hz.z8, z_nI (by omega)] at y1
  have hdebt : ∀ c, c < 4 → z (z_at w c + 1) = nI 0 := fun c hc => by
    obtain ⟨d, d1, d2⟩ := h.d hw hc
    have := z_hasB_0 4 y2 c hc
    rw [d1] at this ⊢
    rcases Nat.eq_zero_or_pos d with e | e
    · rw [e]
    · exact absurd ((tp_lt (a := 0) (by omega) (by omega)).mpr e) this
  have s1 := hz.close1 h hB hz hw (c := 1) (by omega) (by omega) (fun q _ => rfl) (fun q _ => rfl)
  have s2 := hz.close1 h hB s1.1 hw (c := 2) (by omega) (by omega) (fun q hq => k_close1_fr (by omega) (by omega) (by omega) (by omega) (by omega) (by omega) (by omega) (by omega)) (fun q hq => z_close1_fr (by omega) (by omega) (by omega) (by omega) (by omega) (by omega) (by omega) (by omega))
  have s3 := hz.close1 h hB s2.1 hw (c := 3) (by omega) (by omega) (fun q hq => (k_close1_fr (by omega) (by omega) (by omega) (by omega) (by omega) (by omega) (by omega) (by omega)).trans (k_close1_fr (by omega) (by omega) (by omega) (by omega) (by omega) (by omega) (by omega) (by omega))) (fun q hq => (z_close1_fr (by omega) (by omega) (by omega) (by omega) (by omega) (by omega) (by omega) (by omega)).trans (z_close1_fr (by omega) (by omega) (by omega) (by omega) (by omega) (by omega) (by omega) (by omega)))
  have eK : k_closeT u w 3 = k_close1 (k_close1 (k_close1 u w 1) w 2) w 3 := rfl
  have eZ : z_close3 z w = z_close1 (z_close1 (z_close1 z w 1) w 2) w 3 := rfl
  obtain ⟨b1, e1, f1, -⟩ := h.b hw (c := 1) (by omega)
  obtain ⟨b2, e2, f2, -⟩ := h.b hw (c := 2) (by omega)
  obtain ⟨b3, e3, f3, -⟩ := h.b hw (c := 3) (by omega)
  obtain ⟨r1, g1, g1', g1''⟩ := s1
  obtain ⟨r2, g2, g2', g2''⟩ := s2
  obtain ⟨r3, g3, g3', g3''⟩ := s3
  have fr1 : ∀ q, q ≠ 12 → q ≠ 13 → q ≠ 14 → q ≠ 15 → q ≠ z_at w 0 → q ≠ z_at w 0 + 1 → q ≠ z_at w 1 → q ≠ z_at w 1 + 2 → z_close1 z w 1 q = z q := fun q q1 q2 q3 q4 q5 q6 q7 q8 => z_close1_fr q1 q2 q3 q4 q7 q5 q6 q8
  have p1 := z_close1_pt hw (c := 1) (by omega) (by omega) e1 (by omega) (hdebt 0 (by omega)) g1' g1''
  have p2 := z_close1_pt (z := z_close1 z w 1) hw (c := 2) (b := b2) (by omega) (by omega) ((fr1 _ (by omega) (by omega) (by omega) (by omega) (by omega) (by omega) (by omega) (by omega)).trans e2) (by omega) p1.1 g2' g2''
  have fr2 : ∀ q, q ≠ 12 → q ≠ 13 → q ≠ 14 → q ≠ 15 → q ≠ z_at w 0 → q ≠ z_at w 0 + 1 → q ≠ z_at w 2 → q ≠ z_at w 2 + 2 → z_close1 (z_close1 z w 1) w 2 q = z_close1 z w 1 q := fun q q1 q2 q3 q4 q5 q6 q7 q8 => z_close1_fr q1 q2 q3 q4 q7 q5 q6 q8
  have p3 := z_close1_pt (z := z_close1 (z_close1 z w 1) w 2) hw (c := 3) (b := b3) (by omega) (by omega) (((fr2 _ (by omega) (by omega) (by omega) (by omega) (by omega) (by omega) (by omega) (by omega)).trans (fr1 _ (by omega) (by omega) (by omega) (by omega) (by omega) (by omega) (by omega) (by omega))).trans e3) (by omega) p2.1 g3' g3''
  have fr3 : ∀ q, q ≠ 12 → q ≠ 13 → q ≠ 14 → q ≠ 15 → q ≠ z_at w 0 → q ≠ z_at w 0 + 1 → q ≠ z_at w 3 → q ≠ z_at w 3 + 2 → z_close3 z w q = z_close1 (z_close1 z w 1) w 2 q := fun q q1 q2 q3 q4 q5 q6 q7 q8 => by rw [eZ]; exact z_close1_fr q1 q2 q3 q4 q7 q5 q6 q8
  rw [← eK, ← eZ] at r3
  refine ⟨?_, ?_, r3.ba hw (by omega)⟩
  · unfold k_payout z_closes
    rw [va_up_ne' _ _ (show 11 ≠ z_at w 0 by omega), va_up_ne' _ _ (show 11 ≠ z_at w 0 by omega), r3.ba hw (by omega), r3.hd (show 11 < 16 by omega)]
    exact (r3.up (by unfold z_at; omega) (by unfold z_at; omega)).up (by omega) (by omega)
  · have fz : ∀ q, q ≠ 11 → q ≠ 12 → q ≠ 13 → q ≠ 14 → q ≠ 15 → q ≠ z_at w 0 → q ≠ z_at w 0 + 1 → (∀ c, 0 < c → c < 4 → q ≠ z_at w c ∧ q ≠ z_at w c + 2) → z_closes z w q = z q := fun q n1 n2 n3 n4 n5 n6 n7 n8 => by
      unfold z_closes
      rw [va_up_ne' _ _ n1, va_up_ne' _ _ n6, fr3 q n2 n3 n4 n5 n6 n7 (n8 3 (by omega) (by omega)).1 (n8 3 (by omega) (by omega)).2, fr2 q n2 n3 n4 n5 n6 n7 (n8 2 (by omega) (by omega)).1 (n8 2 (by omega) (by omega)).2, fr1 q n2 n3 n4 n5 n6 n7 (n8 1 (by omega) (by omega)).1 (n8 1 (by omega) (by omega)).2]
    have fo : ∀ q, (q < 11 ∨ 96 ≤ q) → z_closes z w q = z q := fun q hq => fz q (by omega) (by omega) (by omega) (by omega) (by omega) (by omega) (by omega) (fun c c1 c2 => by unfold z_at; omega)
    have fc : ∀ q, q ≠ 11 → q ≠ z_at w 0 → z_closes z w q = z_close3 z w q := fun q n1 n2 => by
      unfold z_closes
      rw [va_up_ne' _ _ n1, va_up_ne' _ _ n2]
    obtain ⟨⟨h0, h1, h2, h3⟩, ⟨D, h4, h5, h6⟩, h7, h8'⟩ := h
    refine ⟨⟨by rw [fo 0 (by omega)]; exact h0, by rw [fo 1 (by omega)]; exact h1, by rw [fo 2 (by omega)]; exact h2, by rw [fo 3 (by omega)]; exact h3⟩, ⟨D, by rw [fo 4 (by omega)]; exact h4, fun j hj => rowH_cg (h5 j hj) fun q _ _ => fo q (by omega), fun j hj => rowP_cg (h6 j hj) fun q _ _ => fo q (by omega)⟩, fun c c1 c2 => by rw [fo _ (by omega)]; exact h7 c c1 c2, fun w' c' hw' hc' => ?_⟩
    by_cases e : w' = w
    · subst e
      obtain ⟨b, d, ⟨-, k2⟩, ⟨-, k4, -⟩, r, l, ⟨k6, k7⟩, -, k8, k9⟩ := h8' w' c' hw' hc'
      have ekn : kN (z_closes z w') w' c' N = 0 := by rw [kN_cg (u := z_closes z w') (z := z) N fun q _ _ => fo q (by omega)]; exact kN_0 N y1
      by_cases c0 : c' = 0
      · subst c0
        refine ⟨0, 0, ⟨?_, ?_⟩, ⟨Nat.zero_le _, Nat.zero_le _, by rw [ekn]; exact Nat.le_refl 0⟩, r, l, ⟨?_, ?_⟩, Or.inl (k8 rfl), k8, k9⟩
        · unfold z_closes
          rw [va_up_ne' _ _ (by omega), va_up_eq]
          rfl
        · rw [fc _ (by omega) (by omega), eZ]; exact p3.1
        · rw [fz _ (by omega) (by omega) (by omega) (by omega) (by omega) (by omega) (by omega) (fun c c1 c2 => by unfold z_at; omega)]; exact k6
        · rw [fz _ (by omega) (by omega) (by omega) (by omega) (by omega) (by omega) (by omega) (fun c c1 c2 => by unfold z_at; omega)]; exact k7
      · have l1 : z_closes z w' (z_at w' c' + 1) = nI d := by
          rw [fz _ (by unfold z_at; omega) (by unfold z_at; omega) (by unfold z_at; omega) (by unfold z_at; omega) (by unfold z_at; omega) (by unfold z_at; omega) (by unfold z_at; omega) (fun c c1 c2 => by unfold z_at; omega)]; exact k2
        have l3 : z_closes z w' (z_at w' c' + 3) = nI l := by
          rw [fz _ (by unfold z_at; omega) (by unfold z_at; omega) (by unfold z_at; omega) (by unfold z_at; omega) (by unfold z_at; omega) (by unfold z_at; omega) (by unfold z_at; omega) (fun c c1 c2 => by unfold z_at; omega)]; exact k7
        have l0 : z_closes z w' (z_at w' c') = nI 0 ∧ z_closes z w' (z_at w' c' + 2) = nI 0 := by
          rw [fc _ (by unfold z_at; omega) (by unfold z_at; omega), fc _ (by unfold z_at; omega) (by unfold z_at; omega)]
          rcases (show c' = 1 ∨ c' = 2 ∨ c' = 3 by omega) with rfl | rfl | rfl
          · rw [fr3 _ (by omega) (by omega) (by omega) (by omega) (by omega) (by omega) (by omega) (by omega), fr3 _ (by omega) (by omega) (by omega) (by omega) (by omega) (by omega) (by omega) (by omega), fr2 _ (by omega) (by omega) (by omega) (by omega) (by omega) (by omega) (by omega) (by omega), fr2 _ (by omega) (by omega) (by omega) (by omega) (by omega) (by omega) (by omega) (by omega)]
            exact ⟨p1.2.1, p1.2.2⟩
          · rw [fr3 _ (by omega) (by omega) (by omega) (by omega) (by omega) (by omega) (by omega) (by omega), fr3 _ (by omega) (by omega) (by omega) (by omega) (by omega) (by omega) (by omega) (by omega)]
            exact ⟨p2.2.1, p2.2.2⟩
          · rw [eZ]
            exact ⟨p3.2.1, p3.2.2⟩
        exact ⟨0, d, ⟨l0.1, l1⟩, ⟨Nat.zero_le _, k4, by rw [ekn]; exact Nat.le_refl 0⟩, 0, l, ⟨l0.2, l3⟩, Or.inl rfl, fun _ => rfl, k9⟩
    · have n9 : z_at w' c' + 5 ≤ z_at w 0 ∨ z_at w 0 + 20 ≤ z_at w' c' := by unfold z_at; omega
      have a9 : 16 ≤ z_at w' c' := by unfold z_at; omega
      exact iv_p_cg (h8' w' c' hw' hc') (Nat.le_refl _) (fun q q1 q2 => fz q (by omega) (by omega) (by omega) (by omega) (by omega) (by omega) (by omega) (fun c c1 c2 => by unfold z_at at *; omega)) fun q _ _ => fo q (by omega)
end ZG
