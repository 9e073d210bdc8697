section ZD
variable {B N P : Nat} {u z : Nat → Int32}
theorem iv.day {D D' : Nat} (h : iv B N P z) (hD : z 4 = nI D) (h1 : D ≤ D') (h2 : D' ≤ 5000) : iv B N P (va_up z 4 (nI D')) := by
  have g : ∀ j, j ≠ 4 → va_up z 4 (nI D') j = z j := fun j hj => va_up_ne' _ _ hj
  obtain ⟨⟨h0, h1', h2', h3⟩, ⟨D0, ⟨h4, h4'⟩, h5, h6⟩, h7, h8⟩ := h
  have e0 : D0 = D := by rw [hD] at h4; exact ((tp_eq (by omega) (by omega)).mp h4).symm
  subst e0
  refine ⟨⟨by rw [g 0 (by omega)]; exact h0, by rw [g 1 (by omega)]; exact h1', by rw [g 2 (by omega)]; exact h2', by rw [g 3 (by omega)]; exact h3⟩, ⟨D', ⟨va_up_eq _ _ _, h2⟩, fun j hj => ?_, fun j hj => ?_⟩, fun c c1 c2 => by rw [g _ (by omega)]; exact h7 c c1 c2, fun w c hw hc => iv_p_cg (h8 w c hw hc) (Nat.le_refl _) (fun q q1 q2 => g q (by unfold z_at at q1; omega)) fun q _ _ => g q (by omega)⟩
  · obtain ⟨w, c, k, d, ⟨q1, q2, q3, q4⟩, q5⟩ := rowH_cg (h5 j hj) fun q _ _ => g q (by omega)
    exact ⟨w, c, k, d, ⟨q1, q2, q3, by omega⟩, q5⟩
  · obtain ⟨w, c, k, d, ⟨q1, q2, q3, q4⟩, q5⟩ := rowP_cg (h6 j hj) fun q _ _ => g q (by omega)
    exact ⟨w, c, k, d, ⟨q1, q2, q3, by omega⟩, q5⟩
theorem h_new_mono {s D E k : Nat} {r : h_R} (hr : r.2.2.2.2 = nI k) (hk : k ≤ D) (hDE : D ≤ E) (hE : E ≤ 10000) (hs : s ≤ 60) : (h_new (nI s) (nI E) r && h_new (nI s) (nI D) r) = h_new (nI s) (nI E) r := by
  unfold h_new
  rw [hr, tp_sub (show k ≤ E by omega), tp_sub hk]
  by_cases c : s < E - k
  · rw [decide_eq_true ((tp_lt (by omega) (by omega)).mpr c)]
    rfl
  · rw [decide_eq_false (fun q => c ((tp_lt (by omega) (by omega)).mp q)), decide_eq_false (fun q => c (by have := (tp_lt (by omega) (by omega)).mp q; omega))]
    rfl
theorem z_days_spec {D s : Nat} (h8 : z 8 = nI N) (hN : N ≤ 8) (h4 : z 4 = nI D) (h3 : z 3 = nI s) (hs : s ≤ 60) (hr : ∀ r ∈ hL z N, rowR D r) : ∀ d, D + (d + 1) ≤ 10000 → ∃ N', ((z_days z (d + 1)).1 8 = nI N' ∧ N' ≤ N) ∧ hL (z_days z (d + 1)).1 N' = (hL z N).filter (h_new (nI s) (nI (D + (d + 1)))) ∧ (z_days z (d + 1)).2 = nI (N - N') ∧ (z_days z (d + 1)).1 4 = nI (D + (d + 1)) ∧ ∀ q, (q < 96 ∨ 136 ≤ q) → q ≠ 8 → q ≠ 4 → (z_days z (d + 1)).1 q = z q := by
  have one : ∀ (y : Nat → Int32) (N D : Nat), y 8 = nI N → N ≤ 8 → y 4 = nI D → y 3 = nI s → ∃ N', ((z_day y).1 8 = nI N' ∧ N' ≤ N) ∧ hL (z_day y).1 N' = (hL y N).filter (h_new (nI s) (nI (D + 1))) ∧ (z_day y).2 = nI (N - N') ∧ (z_day y).1 4 = nI (D + 1) ∧ ∀ q, (q < 96 ∨ 136 ≤ q) → q ≠ 8 → q ≠ 4 → (z_day y).1 q = y q := by
    intro y N D h8 hN h4 h3
    unfold z_day
    rw [h8, z_nI (by omega), h4, tp_1, z_sweep_g]
    have g : ∀ j, j ≠ 4 → va_up y 4 (nI (D + 1)) j = y j := fun j hj => va_up_ne' _ _ hj
    obtain ⟨N', ⟨e1, e2⟩, e3, e4, e5⟩ := g_sw_spec z_drop_gd N (va_up y 4 (nI (D + 1))) 0 N ((g 8 (by omega)).trans h8) hN (Nat.le_refl N)
    refine ⟨N', ⟨e1, e2⟩, ?_, ?_, ?_, fun q q1 q2 q3 => (e5 q q1 q2).trans (g q q3)⟩
    · rw [e3, List.take_of_length_le (by rw [hL_len]; exact Nat.le_refl N), List.drop_of_length_le (by rw [hL_len]; exact Nat.le_refl N), List.append_nil, g 3 (by omega), h3, va_up_eq, show hL (va_up y 4 (nI (D + 1))) N = hL y N from hL_cg fun q q1 q2 => g q (by omega)]
    · rw [e4]
      exact Int32.zero_add _
    · rw [e5 4 (by omega) (by omega), va_up_eq]
  intro d
  induction d with
  | zero =>
    intro _
    obtain ⟨N', e1, e2, e3, e4, e5⟩ := one z N D h8 hN h4 h3
    exact ⟨N', e1, e2, by show 0 + (z_day z).2 = _; rw [e3]; exact Int32.zero_add _, e4, e5⟩
  | succ d ih =>
    intro hd
    obtain ⟨N1, ⟨f1, f2⟩, f3, f4, f5, f6⟩ := ih (by omega)
    obtain ⟨N', ⟨e1, e2⟩, e3, e4, e5, e6⟩ := one (z_days z (d + 1)).1 N1 (D + (d + 1)) f1 (by omega) f5 ((f6 3 (by omega) (by omega) (by omega)).trans h3)
    refine ⟨N', ⟨e1, by omega⟩, ?_, ?_, e5, fun q q1 q2 q3 => (e6 q q1 q2 q3).trans (f6 q q1 q2 q3)⟩
    · show hL (z_day (z_days z (d + 1)).1).1 N' = _
      rw [e3, f3, List.filter_filter]
      apply List.filter_congr
      intro r hm
      obtain ⟨w, c, k, dd, ⟨-, -, -, q4⟩, -, -, q5⟩ := hr r hm
      exact h_new_mono q5 (by omega) (by omega) (by omega) hs
    · show (z_days z (d + 1)).2 + (z_day (z_days z (d + 1)).1).2 = _
      rw [f4, e4, tp_add]
      congr 1
      omega
/-- pass -/
theorem zr.pass (hz : zr N P u z) (h : iv B N P z) {d : Nat} (hd : 1 ≤ d ∧ d ≤ 60) (hm : z 4 + nI d ≤ 5000) : ∃ N', zr N' P (k_sweep N (va_up u 4 (u 4 + nI d)) 0).1 (z_days z d).1 ∧ iv B N' P (z_days z d).1 ∧ (k_sweep N (va_up u 4 (u 4 + nI d)) 0).2 = (z_days z d).2 := by
  obtain ⟨D, ⟨h4, hD⟩, h5, h6⟩ := h.2.1
  obtain ⟨s, h3, hs⟩ := h.1.2.2.2
  have h8 := hz.n8
  have hD2 : D + d ≤ 5000 := by
    rw [h4, tp_add, show (5000 : Int32) = nI 5000 from rfl, tp_le (by omega) (by omega)] at hm
    exact hm
  obtain ⟨e, rfl⟩ : ∃ e, d = e + 1 := ⟨d - 1, by omega⟩
  obtain ⟨N', ⟨f1, f2⟩, f3, f4, f5, f6⟩ := z_days_spec hz.z8 h8 h4 h3 hs (hL_mem h5) e (by omega)
  have u4 : u 4 + nI (e + 1) = nI (D + (e + 1)) := by rw [hz.hd (by omega), h4, tp_add]
  have gu : ∀ j, j ≠ 4 → va_up u 4 (nI (D + (e + 1))) j = u j := fun j hj => va_up_ne' _ _ hj
  obtain ⟨Nk, ⟨g1, g2⟩, g3, g4, g5⟩ := g_sw_spec k_drop_gd N (va_up u 4 (nI (D + (e + 1)))) 0 N ((gu 8 (by omega)).trans hz.u8) h8 (Nat.le_refl N)
  rw [List.take_of_length_le (by rw [hL_len]; exact Nat.le_refl N), List.drop_of_length_le (by rw [hL_len]; exact Nat.le_refl N), List.append_nil, gu 3 (by omega), hz.hd (show 3 < 16 by omega), h3, va_up_eq, show hL (va_up u 4 (nI (D + (e + 1)))) N = hL z N from (hL_cg fun q q1 q2 => gu q (by omega)).trans (hL_cg fun q q1 q2 => hz.ho q1 q2), ← f3] at g3
  have eN : Nk = N' := by
    have := congrArg List.length g3
    rwa [hL_len, hL_len] at this
  subst eN
  rw [u4, k_sweep_g]
  have hz2 : zr N P (va_up u 4 (nI (D + (e + 1)))) (va_up z 4 (nI (D + (e + 1)))) := hz.up (by omega) (by omega)
  have hv2 : iv B N P (va_up z 4 (nI (D + (e + 1)))) := h.day h4 (by omega) hD2
  have fz : ∀ q, (q < 96 ∨ 136 ≤ q) → q ≠ 8 → (z_days z (e + 1)).1 q = va_up z 4 (nI (D + (e + 1))) q := fun q q1 q2 => by
    by_cases q4 : q = 4
    · subst q4; rw [f5, va_up_eq]
    · rw [f6 q q1 q2 q4, va_up_ne' _ _ q4]
  have hL2 : hL (va_up z 4 (nI (D + (e + 1)))) N = hL z N := hL_cg fun q q1 q2 => va_up_ne' _ _ (by omega)
  refine ⟨Nk, hz2.hold' g5 fz g1 f1 (by omega) g3, hv2.hold' fz (fun D0 _ _ hr r hm => ?_) (fun w c b _ _ _ _ hk => ?_), ?_⟩
  · rw [f3] at hm
    rw [hL2] at hr
    exact hr r (List.mem_filter.mp hm).1
  · rw [f3]
    rw [hL2] at hk
    exact Nat.le_trans (kL_filter w c _ _) hk
  · rw [g4, f4]
    exact Int32.zero_add _
/-- closing -/
theorem z_why_cases (z : Nat → Int32) (w : Nat) : z_whyClose z w = 0 ∨ z_whyClose z w = 4 ∨ z_whyClose z w = 5 ∨ z_whyClose z w = 6 := by
  unfold z_whyClose
  split
  · exact Or.inr (Or.inl rfl)
  · split
    · exact Or.inr (Or.inr (Or.inl rfl))
    · split
      · exact Or.inr (Or.inr (Or.inr rfl))
      · exact Or.inl rfl
theorem z_why0 {w : Nat} (h : z_whyClose z w = 0) : z_hasH z w (z_n (z 8)) = false ∧ z_hasB z w 4 = false := by
  unfold z_whyClose at h
  by_cases a : z_hasH z w (z_n (z 8)) = true
  · rw [if_pos a] at h; exact absurd h (by decide)
  · rw [if_neg a] at h
    by_cases b : z_hasD z w (z_n (z 9)) = true
    · rw [if_pos b] at h; exact absurd h (by decide)
    · rw [if_neg b] at h
      by_cases c : z_hasB z w 4 = true
      · rw [if_pos c] at h; exact absurd h (by decide)
      · exact ⟨Bool.eq_false_iff.mpr a, Bool.eq_false_iff.mpr c⟩
theorem kN_0 {w c : Nat} : ∀ n, z_hasH z w n = false → kN z w c n = 0
  | 0, _ => rfl
  | n + 1, h => by
    unfold z_hasH at h
    obtain ⟨h1, h2⟩ := Bool.or_eq_false_iff.mp h
    unfold kN
    rw [kN_0 n h1, if_neg (fun q => of_decide_eq_false h2 q.1)]
theorem z_hasB_0 {w : Nat} : ∀ n, z_hasB z w n = false → ∀ c, c < n → ¬ 0 < z (z_at w c + 1)
  | 0, _, c, hc => absurd hc (Nat.not_lt_zero c)
  | n + 1, h, c, hc => by
    unfold z_hasB at h
    obtain ⟨h1, h2⟩ := Bool.or_eq_false_iff.mp h
    by_cases e : c = n
    · subst e
      exact of_decide_eq_false h2
    · exact z_hasB_0 n h1 c (by omega)
theorem k_rate_cg {u' : Nat → Int32} {w c : Nat} (hc : c < 4) (h4 : u' 4 = u 4) (hr : u' (4 + c) = u (4 + c)) (h2 : u' (z_at w c + 2) = u (z_at w c + 2)) (h3 : u' (z_at w c + 3) = u (z_at w c + 3)) : k_rate u' w c = k_rate u w c := by
  unfold k_rate kR
  rw [h4, h2, h3, hr]
theorem k_net_cg {u' : Nat → Int32} {w f : Nat} {a : Int32} (hf : f < 4) (h1 : u' 1 = u 1) (h4 : u' 4 = u 4) (hr : u' (4 + f) = u (4 + f)) (h2 : u' (z_at w f + 2) = u (z_at w f + 2)) (h3 : u' (z_at w f + 3) = u (z_at w f + 3)) : k_net u' w f 0 a = k_net u w f 0 a ∧ k_spread u' (k_gross u' w f 0 a) = k_spread u (k_gross u w f 0 a) := by
  have e : k_gross u' w f 0 a = k_gross u w f 0 a := by
    unfold k_gross
    rw [if_pos rfl, if_pos rfl, k_rate_cg hf h4 hr h2 h3]
  have e2 : ∀ g, k_spread u' g = k_spread u g := fun g => by
    unfold k_spread
    rw [h1]
  refine ⟨?_, by rw [e, e2]⟩
  unfold k_net
  rw [e, e2]
theorem z_brings_cg {z' : Nat → Int32} {w f : Nat} {a : Int32} (h0 : 0 < f) (h1 : z' 1 = z 1) (h4 : z' 4 = z 4) (hr : z' (4 + f) = z (4 + f)) (h2 : z' (z_at w f + 2) = z (z_at w f + 2)) (h3 : z' (z_at w f + 3) = z (z_at w f + 3)) : z_brings z' w f 0 a = z_brings z w f 0 a ∧ z_spread z' (z_given z' w f 0 a) = z_spread z (z_given z w f 0 a) := by
  have e : z_given z' w f 0 a = z_given z w f 0 a := by
    unfold z_given
    rw [if_neg (by omega), if_neg (by omega)]
    unfold z_rate
    rw [h4, h2, h3, hr]
  have e2 : ∀ g, z_spread z' g = z_spread z g := fun g => by
    unfold z_spread
    rw [h1]
  refine ⟨?_, by rw [e, e2]⟩
  unfold z_brings
  rw [e, e2]
theorem zr.unlock (hz : zr N P u z) {w c : Nat} (hw : w < 4) (hc : c < 4) : zr N P (va_up u (z_at w c + 3) (-1)) (va_up z (z_at w c + 2) 0) := by
  have a0 : 16 ≤ z_at w c ∧ z_at w c + 5 ≤ 96 := by unfold z_at; omega
  have gu : ∀ q, q ≠ z_at w c + 3 → va_up u (z_at w c + 3) (-1) q = u q := fun q hq => va_up_ne' _ _ hq
  have gz : ∀ q, q ≠ z_at w c + 2 → va_up z (z_at w c + 2) 0 q = z q := fun q hq => va_up_ne' _ _ hq
  refine ⟨⟨⟨(gz 8 (by omega)).trans hz.z8, hz.n8⟩, (gz 9 (by omega)).trans hz.z9, hz.n9⟩, fun q hq => by rw [gu q (by omega), gz q (by omega)]; exact hz.hd hq, fun w' c' hw' hc' => ?_, fun q h1 h2 => by rw [gu q (by omega), gz q (by omega)]; exact hz.ho h1 h2, fun q h1 h2 => by rw [gu q (by omega), gz q (by omega)]; exact hz.pa h1 h2⟩
  have a1 : 16 ≤ z_at w' c' ∧ z_at w' c' + 5 ≤ 96 := by unfold z_at; omega
  obtain ⟨⟨b1, b2⟩, ⟨b3, b4⟩, b5⟩ := hz.2.2.1 w' c' hw' hc'
  have n0 : z_at w' c' ≠ z_at w c + 2 ∧ z_at w' c' + 1 ≠ z_at w c + 2 ∧ z_at w' c' + 3 ≠ z_at w c + 2 ∧ z_at w' c' + 4 ≠ z_at w c + 2 ∧ z_at w' c' ≠ z_at w c + 3 ∧ z_at w' c' + 1 ≠ z_at w c + 3 ∧ z_at w' c' + 2 ≠ z_at w c + 3 := by unfold z_at; omega
  rw [gu _ n0.2.2.2.2.1, gu _ n0.2.2.2.2.2.1, gu _ n0.2.2.2.2.2.2, gz _ n0.1, gz _ n0.2.1, gz _ n0.2.2.1, gz _ n0.2.2.2.1, show k_paid (va_up z (z_at w c + 2) 0) w' c' P = k_paid z w' c' P from k_paid_cg P fun q _ _ _ => gz q (by omega)]
  refine ⟨⟨b1, b2⟩, ?_, b5⟩
  by_cases e : w' = w ∧ c' = c
  · obtain ⟨rfl, rfl⟩ := e
    rw [va_up_eq, va_up_eq, if_neg (by decide)]
    exact ⟨rfl, fun q => absurd q (by decide)⟩
  · have n1 : z_at w' c' + 2 ≠ z_at w c + 2 ∧ z_at w' c' + 3 ≠ z_at w c + 3 := by unfold z_at; omega
    rw [gz _ n1.1, gu _ n1.2]
    exact ⟨b3, b4⟩
end ZD
