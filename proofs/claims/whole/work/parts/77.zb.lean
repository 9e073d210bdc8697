/-! WHAT HOLDS OF THE REFERENCE'S ROW -/
def kN (z : Nat → Int32) (w c : Nat) : Nat → Nat
  | 0 => 0
  | i + 1 => kN z w c i + (if z (96 + 5 * i) = nI w ∧ z (96 + 5 * i + 1) = nI c then z_n (z (96 + 5 * i + 3)) else 0)
def rowH (z : Nat → Int32) (D j : Nat) : Prop := ∃ w c k d, (w < 4 ∧ c < 4 ∧ k ≤ 200000 ∧ d ≤ D) ∧ (z (96 + 5 * j) = nI w ∧ z (96 + 5 * j + 1) = nI c) ∧ z (96 + 5 * j + 3) = nI k ∧ z (96 + 5 * j + 4) = nI d
def rowP (z : Nat → Int32) (D j : Nat) : Prop := ∃ w c a d, (w < 4 ∧ c < 4 ∧ a ≤ 200000 ∧ d ≤ D) ∧ (z (136 + 5 * j) = nI w ∧ z (136 + 5 * j + 1) = nI c) ∧ z (136 + 5 * j + 2) = nI a ∧ z (136 + 5 * j + 3) = nI d
def iv_p (B N : Nat) (z : Nat → Int32) (w c : Nat) : Prop := ∃ b d, (z (z_at w c) = nI b ∧ z (z_at w c + 1) = nI d) ∧ (b ≤ B ∧ d ≤ B ∧ kN z w c N ≤ b) ∧ ∃ r l, (z (z_at w c + 2) = nI r ∧ z (z_at w c + 3) = nI l) ∧ (r = 0 ∨ (100 ≤ r ∧ r ≤ 2000)) ∧ (c = 0 → r = 0) ∧ l ≤ 5060
def iv (B N P : Nat) (z : Nat → Int32) : Prop :=
  ((∃ a, z 0 = nI a ∧ a ≤ 60) ∧ (∃ a, z 1 = nI a ∧ a ≤ 100) ∧ (∃ a, z 2 = nI a ∧ a ≤ 50) ∧ ∃ a, z 3 = nI a ∧ a ≤ 60) ∧
  (∃ D, (z 4 = nI D ∧ D ≤ 5000) ∧ (∀ j, j < N → rowH z D j) ∧ ∀ j, j < P → rowP z D j) ∧ (∀ c, 0 < c → c < 4 → ∃ r, z (4 + c) = nI r ∧ 100 ≤ r ∧ r ≤ 2000) ∧ ∀ w c, w < 4 → c < 4 → iv_p B N z w c
theorem kN_cg {u z : Nat → Int32} {w c : Nat} : ∀ n, (∀ q, 96 ≤ q → q < 96 + 5 * n → u q = z q) → kN u w c n = kN z w c n
  | 0, _ => rfl
  | n + 1, h => by
    unfold kN
    rw [kN_cg n (fun q h1 h2 => h q h1 (by omega)), h _ (by omega) (by omega), h _ (by omega) (by omega), h _ (by omega) (by omega)]
theorem z_kept_N {z : Nat → Int32} {D w c : Nat} : ∀ n, (∀ j, j < n → rowH z D j) → z_kept z w c n = nI (kN z w c n)
  | 0, _ => rfl
  | n + 1, h => by
    obtain ⟨w', c', k, d, ⟨-, -, hk, -⟩, -, e, -⟩ := h n (by omega)
    unfold z_kept kN
    rw [z_kept_N n (fun j hj => h j (by omega)), e, z_nI (by omega)]
    split
    · exact tp_add _ _
    · exact (tp_add _ 0)
theorem rowH_cg {u z : Nat → Int32} {D j : Nat} (h : rowH z D j) (e : ∀ q, 96 + 5 * j ≤ q → q < 96 + 5 * j + 5 → u q = z q) : rowH u D j := by
  obtain ⟨w, c, k, d, h1, ⟨h2, h3⟩, h4, h5⟩ := h
  exact ⟨w, c, k, d, h1, ⟨(e _ (by omega) (by omega)).trans h2, (e _ (by omega) (by omega)).trans h3⟩, (e _ (by omega) (by omega)).trans h4, (e _ (by omega) (by omega)).trans h5⟩
theorem rowP_cg {u z : Nat → Int32} {D j : Nat} (h : rowP z D j) (e : ∀ q, 136 + 5 * j ≤ q → q < 136 + 5 * j + 4 → u q = z q) : rowP u D j := by
  obtain ⟨w, c, k, d, h1, ⟨h2, h3⟩, h4, h5⟩ := h
  exact ⟨w, c, k, d, h1, ⟨(e _ (by omega) (by omega)).trans h2, (e _ (by omega) (by omega)).trans h3⟩, (e _ (by omega) (by omega)).trans h4, (e _ (by omega) (by omega)).trans h5⟩
theorem iv_p_cg {B B' N : Nat} {u z : Nat → Int32} {w c : Nat} (h : iv_p B N z w c) (hB : B ≤ B') (e : ∀ q, z_at w c ≤ q → q < z_at w c + 4 → u q = z q) (e2 : ∀ q, 96 ≤ q → q < 96 + 5 * N → u q = z q) : iv_p B' N u w c := by
  obtain ⟨b, d, ⟨h1, h2⟩, ⟨h3, h4, h5⟩, r, l, ⟨h6, h7⟩, h8⟩ := h
  exact ⟨b, d, ⟨(e _ (by omega) (by omega)).trans h1, (e _ (by omega) (by omega)).trans h2⟩, ⟨by omega, by omega, by rw [kN_cg N e2]; exact h5⟩, r, l, ⟨(e _ (by omega) (by omega)).trans h6, (e _ (by omega) (by omega)).trans h7⟩, h8⟩
theorem va_self {α : Type} (f : Nat → α) (q : Nat) : va_up f q (f q) = f := by
  funext j
  by_cases h : j = q
  · subst h; exact va_up_eq _ _ _
  · exact va_up_ne' _ _ h
section IV
variable {B N P : Nat} {z : Nat → Int32}
theorem iv.mono {B' : Nat} (h : iv B N P z) (hB : B ≤ B') : iv B' N P z := ⟨h.1, h.2.1, h.2.2.1, fun w c hw hc => iv_p_cg (h.2.2.2 w c hw hc) hB (fun _ _ _ => rfl) (fun _ _ _ => rfl)⟩
/-- counters -/
theorem iv.cnt (h : iv B N P z) {q : Nat} {v : Int32} (hq : 8 ≤ q ∧ q < 16) : iv B N P (va_up z q v) := by
  have g : ∀ j, j ≠ q → va_up z q v j = z j := fun j hj => va_up_ne' _ _ hj
  obtain ⟨⟨h0, h1, h2, h3⟩, ⟨D, h4, h5, h6⟩, h7, h8⟩ := h
  refine ⟨⟨by rw [g 0 (by omega)]; exact h0, by rw [g 1 (by omega)]; exact h1, by rw [g 2 (by omega)]; exact h2, by rw [g 3 (by omega)]; exact h3⟩, ⟨D, by rw [g 4 (by omega)]; exact h4, fun j hj => rowH_cg (h5 j hj) fun q _ _ => g q (by omega), fun j hj => rowP_cg (h6 j hj) fun q _ _ => g q (by omega)⟩, fun c c1 c2 => by rw [g _ (by omega)]; exact h7 c c1 c2, fun w c hw hc => iv_p_cg (h8 w c hw hc) (Nat.le_refl _) (fun q q1 q2 => g q (by unfold z_at at q1; omega)) fun q _ _ => g q (by omega)⟩
/-- one purse's balance and debt -/
theorem iv.pur {B' w c b d : Nat} (h : iv B N P z) (hw : w < 4) (hc : c < 4) (hB : B ≤ B') (hb : b ≤ B') (hd : d ≤ B') (hk : kN z w c N ≤ b) : iv B' N P (va_up (va_up z (z_at w c + 1) (nI d)) (z_at w c) (nI b)) := by
  have g : ∀ j, j ≠ z_at w c → j ≠ z_at w c + 1 → va_up (va_up z (z_at w c + 1) (nI d)) (z_at w c) (nI b) j = z j := fun j h1 h2 => (va_up_ne' _ _ h1).trans (va_up_ne' _ _ h2)
  have a1 : 16 ≤ z_at w c ∧ z_at w c + 5 ≤ 96 := by unfold z_at; omega
  obtain ⟨⟨h0, h1, h2, h3⟩, ⟨D, h4, h5, h6⟩, h7, h8⟩ := h
  refine ⟨⟨by rw [g 0 (by omega) (by omega)]; exact h0, by rw [g 1 (by omega) (by omega)]; exact h1, by rw [g 2 (by omega) (by omega)]; exact h2, by rw [g 3 (by omega) (by omega)]; exact h3⟩, ⟨D, by rw [g 4 (by omega) (by omega)]; exact h4, fun j hj => rowH_cg (h5 j hj) fun q _ _ => g q (by omega) (by omega), fun j hj => rowP_cg (h6 j hj) fun q _ _ => g q (by omega) (by omega)⟩, fun c c1 c2 => by rw [g _ (by omega) (by omega)]; exact h7 c c1 c2, fun w' c' hw' hc' => ?_⟩
  by_cases e : w' = w ∧ c' = c
  · obtain ⟨rfl, rfl⟩ := e
    obtain ⟨b0, d0, -, -, r, l, ⟨h6, h7⟩, h8⟩ := h8 w' c' hw hc
    refine ⟨b, d, ⟨va_up_eq _ _ _, (va_up_ne' _ _ (by omega)).trans (va_up_eq _ _ _)⟩, ⟨hb, hd, ?_⟩, r, l, ⟨(g _ (by omega) (by omega)).trans h6, (g _ (by omega) (by omega)).trans h7⟩, h8⟩
    rw [kN_cg N fun q _ _ => g q (by omega) (by omega)]
    exact hk
  · have a2 : z_at w' c' + 5 ≤ z_at w c ∨ z_at w c + 5 ≤ z_at w' c' := by unfold z_at; omega
    exact iv_p_cg (h8 w' c' hw' hc') hB (fun q q1 q2 => g q (by omega) (by omega)) fun q _ _ => g q (by omega) (by omega)
theorem iv.bal {B' w c b : Nat} (h : iv B N P z) (hw : w < 4) (hc : c < 4) (hB : B ≤ B') (hb : b ≤ B') (hk : kN z w c N ≤ b) : iv B' N P (va_up z (z_at w c) (nI b)) := by
  obtain ⟨b0, d, ⟨-, e⟩, ⟨-, hd, -⟩, -⟩ := h.2.2.2 w c hw hc
  have := h.pur hw hc hB hb (d := d) (by omega) hk
  rwa [← e, va_self] at this
/-- what comes in -/
theorem z_in_N {w c b d m : Nat} (hb : z (z_at w c) = nI b) (hd : z (z_at w c + 1) = nI d) (hd2 : d < 2 ^ 31) (hm : m < 2 ^ 31) : z_in z w c (nI m) = va_up (va_up (va_up z (z_at w c + 1) (nI (d - min d m))) 15 (z 15 + nI (min d m))) (z_at w c) (nI (b + (m - min d m))) := by
  have e : z_paid z w c (nI m) = nI (min d m) := by
    unfold z_paid
    rw [hd]
    by_cases q : d < m
    · rw [if_pos ((tp_lt hd2 hm).mpr q), Nat.min_eq_left (by omega)]
    · rw [if_neg (fun q2 => q ((tp_lt hd2 hm).mp q2)), Nat.min_eq_right (by omega)]
  rw [z_in_eq, e, hd, hb, tp_sub (Nat.min_le_left _ _), tp_sub (Nat.min_le_right _ _), tp_add]
theorem iv.in {w c m : Nat} (h : iv B N P z) (hw : w < 4) (hc : c < 4) (hB : B < 2 ^ 31) (hm : m < 2 ^ 31) : iv (B + m) N P (z_in z w c (nI m)) := by
  obtain ⟨b, d, ⟨e1, e2⟩, ⟨h1, h2, h3⟩, -⟩ := h.2.2.2 w c hw hc
  have a1 : 16 ≤ z_at w c := by unfold z_at; omega
  rw [z_in_N e1 e2 (by omega) hm, va_comm (show z_at w c + 1 ≠ 15 by omega)]
  refine iv.pur (h.cnt (by omega)) hw hc (by omega) (by omega) (by omega) ?_
  rw [show kN (va_up z 15 (z 15 + nI (min d m))) w c N = kN z w c N from kN_cg N fun q _ _ => va_up_ne' _ _ (by omega)]
  omega
theorem iv.z1 (h : iv B N P z) : ∃ a, z 1 = nI a ∧ a ≤ 100 := h.1.2.1
theorem iv.z2 (h : iv B N P z) : ∃ a, z 2 = nI a ∧ a ≤ 50 := h.1.2.2.1
theorem iv.keptN (h : iv B N P z) (w c : Nat) : z_kept z w c N = nI (kN z w c N) := by
  obtain ⟨D, -, h5, -⟩ := h.2.1
  exact z_kept_N N h5
/-- rates -/
theorem iv.rate (h : iv B N P z) {w c : Nat} (hw : w < 4) (hc : c < 4) : ∃ r, z_rate z w c = nI r ∧ 100 ≤ r ∧ r ≤ 2000 := by
  unfold z_rate
  by_cases c0 : c = 0
  · rw [if_pos c0]; exact ⟨1000, rfl, by omega, by omega⟩
  · rw [if_neg c0]
    split
    · rename_i q
      obtain ⟨b, d, -, -, r, l, ⟨h6, h7⟩, h8, -⟩ := h.2.2.2 w c hw hc
      refine ⟨r, h6, ?_⟩
      rcases h8 with h8 | h8
      · rw [h6, h8] at q
        exact absurd q.1 (by decide)
      · exact h8
    · exact h.2.2.1 c (by omega) hc
theorem zr.rate {u : Nat → Int32} (hz : zr N P u z) (h : iv B N P z) {w c : Nat} (hw : w < 4) (hc : c < 4) : k_rate u w c = z_rate z w c := by
  obtain ⟨-, ⟨h3, h4⟩, -⟩ := hz.2.2.1 w c hw hc
  obtain ⟨D, ⟨hD, hD2⟩, -⟩ := h.2.1
  obtain ⟨b, d, -, -, r, l, ⟨h6, h7⟩, h8, h9, -⟩ := h.2.2.2 w c hw hc
  have hn : ¬ nI D ≤ -1 := by
    intro q
    have := nI_pos' (n := D) (by omega)
    exact absurd (Int32.le_trans this q) (by decide)
  unfold k_rate z_rate
  rw [hz.hd (show 4 < 16 by omega), h3, hD]
  by_cases hl : 0 < z (z_at w c + 2)
  · rw [if_pos hl, h4 hl]
    have c0 : ¬ c = 0 := fun q => by
      rw [h6, h9 q] at hl
      exact absurd hl (by decide)
    rw [if_neg c0]
    by_cases hq : nI D ≤ z (z_at w c + 3)
    · rw [if_pos hq, if_pos ⟨hl, hq⟩]
    · rw [if_neg hq, if_neg (fun q => hq q.2)]
      unfold kR
      rw [if_neg c0, if_pos hc, hz.hd (by omega)]
  · rw [if_neg hl, if_neg hn]
    unfold kR
    by_cases c0 : c = 0
    · rw [if_pos c0, if_pos c0]
    · rw [if_neg c0, if_neg c0, if_pos hc, hz.hd (by omega), if_neg (fun q => hl q.1)]
theorem zr.end {u : Nat → Int32} (hz : zr N P u z) (h : iv B N P z) {w c : Nat} (hw : w < 4) (hc : c < 4) : (if u 4 ≤ u (z_at w c + 3) then u (z_at w c + 3) else -1) = (if 0 < z (z_at w c + 2) ∧ z 4 ≤ z (z_at w c + 3) then z (z_at w c + 3) else -1) := by
  obtain ⟨-, ⟨h3, h4⟩, -⟩ := hz.2.2.1 w c hw hc
  rw [hz.hd (show 4 < 16 by omega), h3]
  by_cases hl : 0 < z (z_at w c + 2)
  · rw [if_pos hl]
    by_cases hq : z 4 ≤ z (z_at w c + 3)
    · rw [if_pos hq, if_pos ⟨hl, hq⟩]
    · rw [if_neg hq, if_neg (fun q => hq q.2)]
  · rw [if_neg hl, ite_self, if_neg (fun q => hl q.1)]
/-- what an exchange brings: in longs by the class, in ints by the reference -/
theorem zr.net {u : Nat → Int32} (hz : zr N P u z) (h : iv B N P z) {w f t m : Nat} (hw : w < 4) (hf : f < 4) (ht : t < 4) (hp : (t = 0 ∧ 0 < f ∧ m < 2 ^ 30) ∨ (f = 0 ∧ 0 < t ∧ m ≤ 99999)) :
    k_net u w f t (nI m) = z_brings z w f t (nI m) ∧ k_spread u (k_gross u w f t (nI m)) = z_spread z (z_given z w f t (nI m)) ∧ ∃ g, z_brings z w f t (nI m) = nI g ∧ g < 2 ^ 31 ∧ (m ≤ 99999 → g ≤ 1000000) := by
  obtain ⟨s, hs, hs2⟩ := h.z1
  have us : u 1 = nI s := (hz.hd (by omega)).trans hs
  have key : ∃ g, k_gross u w f t (nI m) = lN g ∧ z_given z w f t (nI m) = nI g ∧ g < 2 ^ 31 ∧ (m ≤ 99999 → g ≤ 1000000) := by
    rcases hp with ⟨h0, h1, h2⟩ | ⟨h0, h1, h2⟩
    · obtain ⟨r, hr, r1, r2⟩ := h.rate hw hf
      have e : k_rate u w f = nI r := (hz.rate h hw hf).trans hr
      have hmr : m * r ≤ m * 2000 := Nat.mul_le_mul_left m r2
      refine ⟨m * r / 1000, ?_, ?_, by omega, by omega⟩
      · unfold k_gross
        rw [if_pos h0, e, z_lt m (by omega), z_lt r (by omega), lN_mul, z_l1000, pk_lDiv (by omega) (by omega) (by omega)]
      · unfold z_given
        rw [if_neg (by omega), hr, z_lt m (by omega), z_lt r (by omega), lN_mul, z_l1000, pk_lDiv (by omega) (by omega) (by omega), lN_i]
    · obtain ⟨r, hr, r1, r2⟩ := h.rate hw ht
      have e : k_rate u w t = nI r := (hz.rate h hw ht).trans hr
      have hq : 1000 * m / r ≤ 1000 * m / 100 := Nat.div_le_div_left r1 (by omega)
      refine ⟨1000 * m / r, ?_, ?_, by omega, by omega⟩
      · unfold k_gross
        rw [if_neg (by omega), e, if_pos (by rw [show (0 : Int32) = nI 0 from rfl, tp_lt (by omega) (by omega)]; omega), z_lt m (by omega), z_lt r (by omega), z_l1000, lN_mul, pk_lDiv (by omega) (by omega) (by omega), Nat.mul_comm]
      · rw [h0]
        exact z_given_eq hr (by omega) (by omega) (by omega)
  obtain ⟨g, g1, g2, g3, g4⟩ := key
  have hgs : g * s ≤ g * 100 := Nat.mul_le_mul_left g hs2
  have es : k_spread u (lN g) = nI (g * s / 1000) := by
    unfold k_spread
    rw [us, z_lt s (by omega), lN_mul, z_l1000, pk_lDiv (by omega) (by omega) (by omega), lN_i]
  have ez : z_spread z (nI g) = nI (g * s / 1000) := z_spread_eq hs (by omega) g3
  refine ⟨?_, by rw [g1, g2, es, ez], g - g * s / 1000, ?_, by omega, fun q => by have := g4 q; omega⟩
  · unfold k_net z_brings
    rw [g1, g2, es, ez, lN_i]
  · unfold z_brings
    rw [g2, ez, tp_sub (by omega)]
end IV
