section ZC
variable {B N P : Nat} {u z : Nat → Int32}
theorem iv.b (h : iv B N P z) {w c : Nat} (hw : w < 4) (hc : c < 4) : ∃ b, z (z_at w c) = nI b ∧ b ≤ B ∧ kN z w c N ≤ b := by
  obtain ⟨b, d, ⟨e1, -⟩, ⟨h1, -, h3⟩, -⟩ := h.2.2.2 w c hw hc
  exact ⟨b, e1, h1, h3⟩
theorem iv.d (h : iv B N P z) {w c : Nat} (hw : w < 4) (hc : c < 4) : ∃ d, z (z_at w c + 1) = nI d ∧ d ≤ B := by
  obtain ⟨b, d, ⟨-, e1⟩, ⟨-, h1, -⟩, -⟩ := h.2.2.2 w c hw hc
  exact ⟨d, e1, h1⟩
theorem iv.free (h : iv B N P z) (h8 : z 8 = nI N) (hN : N ≤ 8) {w c : Nat} (hw : w < 4) (hc : c < 4) : ∃ b, z (z_at w c) = nI b ∧ b ≤ B ∧ kN z w c N ≤ b ∧ z_free z w c = nI (b - kN z w c N) := by
  obtain ⟨b, e1, h1, h3⟩ := h.b hw hc
  refine ⟨b, e1, h1, h3, ?_⟩
  unfold z_free
  rw [e1, h8, z_nI (by omega), h.keptN, tp_sub h3]
/-- load -/
theorem zr.load (hz : zr N P u z) {w : Nat} (hw : w < 4) (a : Int32) : zr N P (k_load u w a) (z_loads z w a) := by
  rw [z_loads_eq]
  unfold k_load
  rw [hz.hd (show 10 < 16 by omega)]
  exact (hz.up (by omega) (by omega)).in hw (by omega) a
theorem zr.loadC (hz : zr N P u z) (h : iv B N P z) (hB : B < 2 ^ 30) {w m : Nat} (hw : w < 4) (hm : m ≤ 99999) : u (z_at w 0) ≤ 1000000 - nI m ↔ z (z_at w 0) + nI m ≤ 1000000 := by
  obtain ⟨b, e1, h1, -⟩ := h.b hw (c := 0) (by omega)
  rw [hz.ba hw (by omega), e1, show (1000000 : Int32) = nI 1000000 from rfl, tp_sub (by omega), tp_add, tp_le (by omega) (by omega), tp_le (by omega) (by omega)]
  omega
theorem iv.load (h : iv B N P z) (hB : B < 2 ^ 30) {w m : Nat} (hw : w < 4) (hm : m ≤ 99999) : iv (B + 1000000) N P (z_loads z w (nI m)) := by
  rw [z_loads_eq]
  exact ((h.cnt (by omega)).in hw (by omega) (by omega) (by omega)).mono (by omega)
theorem iv.loads0 (h : iv B N P z) (hB : B < 2 ^ 30) {w : Nat} (hw : w < 4) : z_loads z w 0 = z := by
  obtain ⟨b, e1, h1, -⟩ := h.b hw (c := 0) (by omega)
  obtain ⟨d, e2, h2⟩ := h.d hw (c := 0) (by omega)
  rw [z_loads_eq]
  unfold k_load
  have a0 : z 10 + 0 = z 10 := Int32.add_zero _
  rw [a0, va_self, show (0 : Int32) = nI 0 from rfl, z_in_N e1 e2 (by omega) (by omega)]
  rw [Nat.min_eq_right (Nat.zero_le d), show d - 0 = d from rfl, show b + (0 - 0) = b from rfl, ← e2, va_self, show z 15 + nI 0 = z 15 from Int32.add_zero _, va_self, ← e1, va_self]
/-- exchange -/
theorem zr.cv (hz : zr N P u z) {w f t : Nat} (hw : w < 4) (hf : f < 4) (ht : t < 4) (a m s : Int32) : zr N P (z_cv u w f t a m s) (z_cv z w f t a m s) := by
  have hX : (if t = 0 then 13 else 14) = 13 ∨ (if t = 0 then 13 else 14) = 14 := by
    split
    · exact Or.inl rfl
    · exact Or.inr rfl
  have k1 : zr N P (k_conv1 u t s) (k_conv1 z t s) := by
    unfold k_conv1
    rw [hz.hd (show 12 < 16 by omega)]
    have z1 := hz.up (q := 12) (v := z 12 + 1) (by omega) (by omega)
    rw [z1.hd (show (if t = 0 then 13 else 14) < 16 by omega)]
    exact z1.up (by omega) (by omega)
  unfold z_cv
  rw [k1.ba hw hf]
  exact (k1.up (by unfold z_at; omega) (by unfold z_at; omega)).in hw ht m
theorem zr.conv (hz : zr N P u z) (h : iv B N P z) {w f t m : Nat} (hw : w < 4) (hf : f < 4) (ht : t < 4) (hp : (t = 0 ∧ 0 < f ∧ m < 2 ^ 30) ∨ (f = 0 ∧ 0 < t ∧ m ≤ 99999)) : zr N P (k_conv u w f t (nI m)) (z_ex z w f t (nI m)) := by
  obtain ⟨e1, e2, -⟩ := hz.net h hw hf ht hp
  rw [z_ex_cv, k_conv_cv, e1, e2]
  exact hz.cv hw hf ht _ _ _
theorem iv.cv (h : iv B N P z) {w f t m b g : Nat} {s : Int32} (hw : w < 4) (hf : f < 4) (ht : t < 4) (hb : z (z_at w f) = nI b) (hbB : b ≤ B) (hk : kN z w f N + m ≤ b) (hB : B < 2 ^ 30) (hg : g < 2 ^ 31) : iv (B + g) N P (z_cv z w f t (nI m) (nI g) s) := by
  have hX : (if t = 0 then 13 else 14) = 13 ∨ (if t = 0 then 13 else 14) = 14 := by
    split
    · exact Or.inl rfl
    · exact Or.inr rfl
  unfold z_cv
  have k1 : iv B N P (k_conv1 z t s) := by
    unfold k_conv1
    exact (h.cnt (by omega)).cnt (by omega)
  have fr : ∀ q, 16 ≤ q → k_conv1 z t s q = z q := fun q hq => by
    unfold k_conv1
    exact (va_up_ne' _ _ (by omega)).trans (va_up_ne' _ _ (by omega))
  rw [fr _ (by unfold z_at; omega), hb, tp_sub (by omega)]
  refine iv.in (k1.bal hw hf (Nat.le_refl _) (by omega) ?_) hw ht (by omega) hg
  rw [show kN (k_conv1 z t s) w f N = kN z w f N from kN_cg N fun q _ _ => fr q (by omega)]
  omega
theorem z_whyEx0 {w f t : Nat} {a : Int32} (h : z_whyEx z w f t a = 0) (hf : f < 4) (ht : t < 4) : ((t = 0 ∧ 0 < f) ∨ (f = 0 ∧ 0 < t)) ∧ ¬ z_free z w f < a := by
  unfold z_whyEx at h
  by_cases q : f = t ∨ (0 < f ∧ 0 < t)
  · rw [if_pos q] at h; exact absurd h (by decide)
  · rw [if_neg q] at h
    by_cases q2 : z_free z w f < a
    · rw [if_pos q2] at h; exact absurd h (by decide)
    · exact ⟨by omega, q2⟩
theorem zr.ex (hz : zr N P u z) (h : iv B N P z) (hB : B < 2 ^ 30) {w f t m : Nat} (hw : w < 4) (hf : f < 4) (ht : t < 4) (hm : m ≤ 99999) (hy : z_whyEx z w f t (nI m) = 0) : zr N P (k_conv u w f t (nI m)) (z_ex z w f t (nI m)) ∧ iv (B + 1000000) N P (z_ex z w f t (nI m)) ∧ k_net u w f t (nI m) = z_brings z w f t (nI m) := by
  obtain ⟨hp, hfr⟩ := z_whyEx0 hy hf ht
  have hp' : (t = 0 ∧ 0 < f ∧ m < 2 ^ 30) ∨ (f = 0 ∧ 0 < t ∧ m ≤ 99999) := by omega
  obtain ⟨e1, e2, g, g1, g2, g3⟩ := hz.net h hw hf ht hp'
  refine ⟨hz.conv h hw hf ht hp', ?_, e1⟩
  obtain ⟨b, b1, b2, b3, b4⟩ := h.free hz.z8 hz.n8 hw hf
  rw [b4, tp_lt (by omega) (by omega)] at hfr
  rw [z_ex_cv, g1]
  have := g3 hm
  exact (h.cv hw hf ht b1 b2 (by omega) hB g2).mono (by omega)
/-- quote, set -/
theorem iv.quote (h : iv B N P z) {c r : Nat} (hc : 0 < c ∧ c < 4) (hr : 100 ≤ r ∧ r ≤ 2000) : iv B N P (va_up z (4 + c) (nI r)) := by
  have g : ∀ j, j ≠ 4 + c → va_up z (4 + c) (nI r) j = z j := fun j hj => va_up_ne' _ _ hj
  obtain ⟨⟨h0, h1, h2, h3⟩, ⟨D, h4, h5, h6⟩, h7, h8⟩ := h
  refine ⟨⟨by rw [g 0 (by omega)]; exact h0, by rw [g 1 (by omega)]; exact h1, by rw [g 2 (by omega)]; exact h2, by rw [g 3 (by omega)]; exact h3⟩, ⟨D, by rw [g 4 (by omega)]; exact h4, fun j hj => rowH_cg (h5 j hj) fun q _ _ => g q (by omega), fun j hj => rowP_cg (h6 j hj) fun q _ _ => g q (by omega)⟩, fun c' c1 c2 => ?_, fun w c hw hc => iv_p_cg (h8 w c hw hc) (Nat.le_refl _) (fun q q1 q2 => g q (by unfold z_at at q1; omega)) fun q _ _ => g q (by omega)⟩
  by_cases e : c' = c
  · subst e
    exact ⟨r, va_up_eq _ _ _, hr⟩
  · rw [g _ (by omega)]; exact h7 c' c1 c2
theorem iv.set (h : iv B N P z) {j v : Nat} (hj : j < 4) (hv : v ≤ (if j = 1 then 100 else if j = 2 then 50 else 60)) : iv B N P (va_up z j (nI v)) := by
  have g : ∀ i, i ≠ j → va_up z j (nI v) i = z i := fun i hi => va_up_ne' _ _ hi
  have e : va_up z j (nI v) j = nI v := va_up_eq _ _ _
  obtain ⟨⟨h0, h1, h2, h3⟩, ⟨D, h4, h5, h6⟩, h7, h8⟩ := h
  refine ⟨?_, ⟨D, by rw [g 4 (by omega)]; exact h4, fun j hj => rowH_cg (h5 j hj) fun q _ _ => g q (by omega), fun j hj => rowP_cg (h6 j hj) fun q _ _ => g q (by omega)⟩, fun c' c1 c2 => by rw [g _ (by omega)]; exact h7 c' c1 c2, fun w c hw hc => iv_p_cg (h8 w c hw hc) (Nat.le_refl _) (fun q q1 q2 => g q (by unfold z_at at q1; omega)) fun q _ _ => g q (by omega)⟩
  rcases (show j = 0 ∨ j = 1 ∨ j = 2 ∨ j = 3 by omega) with rfl | rfl | rfl | rfl
  · exact ⟨⟨v, e, hv⟩, by rw [g 1 (by omega)]; exact h1, by rw [g 2 (by omega)]; exact h2, by rw [g 3 (by omega)]; exact h3⟩
  · exact ⟨by rw [g 0 (by omega)]; exact h0, ⟨v, e, hv⟩, by rw [g 2 (by omega)]; exact h2, by rw [g 3 (by omega)]; exact h3⟩
  · exact ⟨by rw [g 0 (by omega)]; exact h0, by rw [g 1 (by omega)]; exact h1, ⟨v, e, hv⟩, by rw [g 3 (by omega)]; exact h3⟩
  · exact ⟨by rw [g 0 (by omega)]; exact h0, by rw [g 1 (by omega)]; exact h1, by rw [g 2 (by omega)]; exact h2, ⟨v, e, hv⟩⟩
/-- lock -/
theorem zr.lock (hz : zr N P u z) (h : iv B N P z) {w c : Nat} (hw : w < 4) (hc : c < 4) (h0 : 0 < c) : zr N P (va_up (va_up u (z_at w c + 2) (u (4 + c))) (z_at w c + 3) (u 4 + u 0)) (va_up (va_up z (z_at w c + 2) (z (4 + c))) (z_at w c + 3) (z 4 + z 0)) ∧ iv B N P (va_up (va_up z (z_at w c + 2) (z (4 + c))) (z_at w c + 3) (z 4 + z 0)) := by
  rw [hz.hd (show 4 + c < 16 by omega), hz.hd (show 4 < 16 by omega), hz.hd (show 0 < 16 by omega)]
  obtain ⟨r, hr, r1, r2⟩ := h.2.2.1 c h0 hc
  have a1 : 16 ≤ z_at w c ∧ z_at w c + 5 ≤ 96 := by unfold z_at; omega
  have g : ∀ (f : Nat → Int32) j, j ≠ z_at w c + 2 → j ≠ z_at w c + 3 → va_up (va_up f (z_at w c + 2) (z (4 + c))) (z_at w c + 3) (z 4 + z 0) j = f j := fun f j h1 h2 => (va_up_ne' _ _ h2).trans (va_up_ne' _ _ h1)
  have g2 : ∀ (f : Nat → Int32), va_up (va_up f (z_at w c + 2) (z (4 + c))) (z_at w c + 3) (z 4 + z 0) (z_at w c + 2) = z (4 + c) := fun f => (va_up_ne' _ _ (by omega)).trans (va_up_eq _ _ _)
  have g3 : ∀ (f : Nat → Int32), va_up (va_up f (z_at w c + 2) (z (4 + c))) (z_at w c + 3) (z 4 + z 0) (z_at w c + 3) = z 4 + z 0 := fun f => va_up_eq _ _ _
  have hpos : 0 < z (4 + c) := by rw [hr, show (0 : Int32) = nI 0 from rfl, tp_lt (by omega) (by omega)]; omega
  constructor
  · refine ⟨⟨⟨?_, hz.n8⟩, ?_, hz.n9⟩, fun j hj => ?_, fun w' c' hw' hc' => ?_, fun j j1 j2 => ?_, fun j j1 j2 => ?_⟩
    · rw [g z 8 (by omega) (by omega)]; exact hz.z8
    · rw [g z 9 (by omega) (by omega)]; exact hz.z9
    · rw [g u j (by omega) (by omega), g z j (by omega) (by omega)]; exact hz.hd hj
    · obtain ⟨⟨b1, b2⟩, ⟨b3, b4⟩, b5⟩ := hz.2.2.1 w' c' hw' hc'
      have a3 : 16 ≤ z_at w' c' ∧ z_at w' c' + 5 ≤ 96 := by unfold z_at; omega
      have ep : ∀ f : Nat → Int32, k_paid (va_up (va_up f (z_at w c + 2) (z (4 + c))) (z_at w c + 3) (z 4 + z 0)) w' c' P = k_paid f w' c' P := fun f => k_paid_cg P fun q _ _ _ => g f q (by omega) (by omega)
      by_cases e : w' = w ∧ c' = c
      · obtain ⟨rfl, rfl⟩ := e
        rw [g u _ (by omega) (by omega), g z _ (by omega) (by omega), g u _ (by omega) (by omega), g z _ (by omega) (by omega), g2, g2, g3, g3, g z _ (by omega) (by omega), ep, if_pos hpos]
        exact ⟨⟨b1, b2⟩, ⟨rfl, fun _ => rfl⟩, b5⟩
      · have a2 : z_at w' c' + 5 ≤ z_at w c ∨ z_at w c + 5 ≤ z_at w' c' := by unfold z_at; omega
        rw [g u _ (by omega) (by omega), g z _ (by omega) (by omega), g u _ (by omega) (by omega), g z _ (by omega) (by omega), g u _ (by omega) (by omega), g z _ (by omega) (by omega), g z _ (by omega) (by omega), g u _ (by omega) (by omega), g z _ (by omega) (by omega), ep]
        exact ⟨⟨b1, b2⟩, ⟨b3, b4⟩, b5⟩
    · rw [g u j (by omega) (by omega), g z j (by omega) (by omega)]; exact hz.ho j1 j2
    · rw [g u j (by omega) (by omega), g z j (by omega) (by omega)]; exact hz.pa j1 j2
  · obtain ⟨⟨⟨l, h0', l1⟩, h1, h2, h3⟩, ⟨D, ⟨h4, h4'⟩, h5, h6⟩, h7, h8⟩ := h
    refine ⟨⟨⟨l, by rw [g z 0 (by omega) (by omega)]; exact h0', l1⟩, by rw [g z 1 (by omega) (by omega)]; exact h1, by rw [g z 2 (by omega) (by omega)]; exact h2, by rw [g z 3 (by omega) (by omega)]; exact h3⟩, ⟨D, ⟨by rw [g z 4 (by omega) (by omega)]; exact h4, h4'⟩, fun j hj => rowH_cg (h5 j hj) fun q _ _ => g z q (by omega) (by omega), fun j hj => rowP_cg (h6 j hj) fun q _ _ => g z q (by omega) (by omega)⟩, fun c' c1 c2 => by rw [g z _ (by omega) (by omega)]; exact h7 c' c1 c2, fun w' c' hw' hc' => ?_⟩
    have a3 : 16 ≤ z_at w' c' ∧ z_at w' c' + 5 ≤ 96 := by unfold z_at; omega
    by_cases e : w' = w ∧ c' = c
    · obtain ⟨rfl, rfl⟩ := e
      obtain ⟨b, d, ⟨e1, e2⟩, ⟨e3, e4, e5⟩, -⟩ := h8 w' c' hw' hc'
      refine ⟨b, d, ⟨by rw [g z _ (by omega) (by omega)]; exact e1, by rw [g z _ (by omega) (by omega)]; exact e2⟩, ⟨e3, e4, ?_⟩, r, D + l, ⟨by rw [g2]; exact hr, by rw [g3, h4, h0', tp_add]⟩, Or.inr ⟨r1, r2⟩, fun q => absurd q (by omega), by omega⟩
      rw [show kN (va_up (va_up z (z_at w' c' + 2) (z (4 + c'))) (z_at w' c' + 3) (z 4 + z 0)) w' c' N = kN z w' c' N from kN_cg N fun q _ _ => g z q (by omega) (by omega)]
      exact e5
    · have a2 : z_at w' c' + 5 ≤ z_at w c ∨ z_at w c + 5 ≤ z_at w' c' := by unfold z_at; omega
      exact iv_p_cg (h8 w' c' hw' hc') (Nat.le_refl _) (fun q q1 q2 => g z q (by omega) (by omega)) fun q _ _ => g z q (by omega) (by omega)
/-- a payment's status -/
theorem iv.status (h : iv B N P z) {p : Nat} {v : Int32} (hN : N ≤ 8) : iv B N P (va_up z (136 + 5 * p + 4) v) := by
  have g : ∀ j, j ≠ 136 + 5 * p + 4 → va_up z (136 + 5 * p + 4) v j = z j := fun j hj => va_up_ne' _ _ hj
  obtain ⟨⟨h0, h1, h2, h3⟩, ⟨D, h4, h5, h6⟩, h7, h8⟩ := h
  exact ⟨⟨by rw [g 0 (by omega)]; exact h0, by rw [g 1 (by omega)]; exact h1, by rw [g 2 (by omega)]; exact h2, by rw [g 3 (by omega)]; exact h3⟩, ⟨D, by rw [g 4 (by omega)]; exact h4, fun j hj => rowH_cg (h5 j hj) fun q _ _ => g q (by omega), fun j hj => rowP_cg (h6 j hj) fun q _ _ => g q (by omega)⟩, fun c c1 c2 => by rw [g _ (by omega)]; exact h7 c c1 c2, fun w c hw hc => iv_p_cg (h8 w c hw hc) (Nat.le_refl _) (fun q q1 q2 => g q (by unfold z_at at q2; omega)) fun q _ _ => g q (by omega)⟩
/-- credit taken back -/
theorem zr.back (hz : zr N P u z) {w c : Nat} (hw : w < 4) (hc : c < 4) (a : Int32) : zr N P (z_back u w c a) (z_back z w c a) ∧ z_taken u w c a = z_taken z w c a := by
  have e : z_taken u w c a = z_taken z w c a := by
    unfold z_taken
    rw [hz.free hw hc]
  refine ⟨?_, e⟩
  unfold z_back
  rw [va_up_ne' _ _ (show z_at w c + 1 ≠ z_at w c by omega), va_up_ne' _ _ (show z_at w c + 1 ≠ z_at w c by omega), e, hz.ba hw hc, hz.de hw hc]
  exact (hz.up (by unfold z_at; omega) (by unfold z_at; omega)).up (by unfold z_at; omega) (by unfold z_at; omega)
theorem iv.back (h : iv B N P z) (h8 : z 8 = nI N) (hN : N ≤ 8) (hB : B < 2 ^ 30) {w c m : Nat} (hw : w < 4) (hc : c < 4) (hm : m ≤ 200000) : iv (B + 200000) N P (z_back z w c (nI m)) := by
  obtain ⟨b, b1, b2, b3, b4⟩ := h.free h8 hN hw hc
  obtain ⟨d, d1, d2⟩ := h.d hw hc
  have e : ∃ t, z_taken z w c (nI m) = nI t ∧ t ≤ m ∧ t + kN z w c N ≤ b := by
    unfold z_taken
    rw [b4]
    by_cases q : b - kN z w c N < m
    · rw [if_pos ((tp_lt (by omega) (by omega)).mpr q)]
      exact ⟨_, rfl, by omega, by omega⟩
    · rw [if_neg (fun q2 => q ((tp_lt (by omega) (by omega)).mp q2))]
      exact ⟨_, rfl, by omega, by omega⟩
  obtain ⟨t, t1, t2, t3⟩ := e
  unfold z_back
  rw [va_up_ne' _ _ (show z_at w c + 1 ≠ z_at w c by omega), t1, b1, d1, tp_sub (by omega), tp_sub t2, tp_add, va_comm (show z_at w c ≠ z_at w c + 1 by omega)]
  exact h.pur hw hc (by omega) (by omega) (by omega) (by omega)
end ZC
