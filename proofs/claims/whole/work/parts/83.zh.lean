section ZQ
variable {B N P : Nat} {u z : Nat → Int32}
/-- what is asked -/
theorem zr.may (hz : zr N P u z) (h : iv B N P z) {p : Nat} (hp : p < P) : (u (136 + 5 * p + 4) = 0 ∧ u 4 - u (136 + 5 * p + 3) ≤ 30) ↔ (z (136 + 5 * p + 4) = 0 ∧ z 4 ≤ z (136 + 5 * p + 3) + 30) := by
  obtain ⟨D, ⟨h4, hD⟩, -, h6⟩ := h.2.1
  obtain ⟨w, c, a, d, ⟨-, -, -, hd⟩, -, -, e⟩ := h6 p hp
  rw [hz.pa (q := 136 + 5 * p + 4) (by omega) (by omega), hz.pa (q := 136 + 5 * p + 3) (by omega) (by omega), hz.hd (show 4 < 16 by omega), h4, e, tp_sub hd, show (30 : Int32) = nI 30 from rfl, tp_add, tp_le (by omega) (by omega), tp_le (by omega) (by omega)]
  exact ⟨fun q => ⟨q.1, by omega⟩, fun q => ⟨q.1, by omega⟩⟩
theorem zr.payn (hz : zr N P u z) (h : iv B N P z) {p j : Nat} (hp : p < P) : k_payn u p j = z_pay z p j := by
  unfold k_payn z_pay
  split
  · exact hz.pa (by omega) (by omega)
  · exact tp_b_iff (hz.may h hp)
theorem zr.purse (hz : zr N P u z) (h : iv B N P z) {w c : Nat} (hw : w < 4) (hc : c < 4) (j : Nat) : k_purse u w c j = z_purse z w c j := by
  have h9 := hz.n9
  have e6 : z_credit u w c (z_n (u 9)) = z_credit z w c (z_n (z 9)) := by
    rw [hz.u9, hz.z9, z_nI (by omega)]
    exact z_credit_cg P fun q h1 h2 => hz.pa h1 h2
  have e7 : k_paid u w c (z_n (u 9)) = z (z_at w c + 4) := by
    rw [hz.u9, z_nI (by omega), (hz.2.2.1 w c hw hc).2.2]
    exact k_paid_cg P fun q h1 h2 _ => hz.pa h1 h2
  match j with
  | 0 => exact hz.ba hw hc
  | 1 => exact hz.kept w c
  | 2 => exact hz.free hw hc
  | 3 => exact hz.de hw hc
  | 4 => exact hz.rate h hw hc
  | 5 => exact hz.end h hw hc
  | 6 => exact e6
  | n + 7 => exact e7
theorem zr.exThen (hz : zr N P u z) (h : iv B N P z) {w f t m : Nat} (hw : w < 4) (hf : f < 4) (ht : t < 4) (hm : m ≤ 99999) : k_exThen u w f t (nI m) = z_exThen z w f t (nI m) := by
  unfold k_exThen z_exThen
  by_cases q : f = t ∨ (0 < f ∧ 0 < t)
  · rw [if_pos q, if_pos q]
  · rw [if_neg q, if_neg q]
    exact (hz.net h hw hf ht (by omega)).1
theorem zr.need (hz : zr N P u z) (h : iv B N P z) {w c : Nat} (hw : w < 4) (hc : c < 4) (a : Nat) : k_needOf u w c a = z_needOf z w c a := by
  unfold k_needOf z_needOf
  rw [hz.rate h hw hc, hz.hd (show 1 < 16 by omega)]
theorem zr.roomOf (hz : zr N P u z) {w c : Nat} (hw : w < 4) (hc : c < 4) : z_roomOf u w c = z_roomOf z w c := by
  unfold z_roomOf
  rw [hz.free hw hc, hz.hd (show 2 < 16 by omega)]
theorem zr.closed (hz : zr N P u z) (h : iv B N P z) (hB : B < 2 ^ 30) {w : Nat} (hw : w < 4) : k_closed u w = z_closed z w := by
  have n : ∀ c, 0 < c → c < 4 → k_net u w c 0 (u (z_at w c)) = z_brings z w c 0 (z (z_at w c)) := fun c c1 c2 => by
    obtain ⟨b, b1, b2, -⟩ := h.b hw c2
    rw [hz.ba hw c2, b1]
    exact (hz.net h hw c2 (t := 0) (by omega) (Or.inl ⟨rfl, c1, by omega⟩)).1
  unfold k_closed z_closed
  rw [hz.whyClose hw]
  have hcz := z_why_cases z w
  by_cases q : z_whyClose z w = 0
  · rw [if_neg (not_not_intro q), q, if_neg (by decide)]
    show u (z_at w 0) + k_net u w 1 0 (u (z_at w 1)) + k_net u w 2 0 (u (z_at w 2)) + k_net u w 3 0 (u (z_at w 3)) = _
    rw [n 1 (by omega) (by omega), n 2 (by omega) (by omega), n 3 (by omega) (by omega), hz.ba hw (by omega)]
  · rw [if_pos q, if_pos (by
      rcases hcz with e | e | e | e
      · exact absurd e q
      · rw [e]; decide
      · rw [e]; decide
      · rw [e]; decide)]
theorem iv.shr (h : iv B N P z) (h8 : z 8 = nI N) (hN : N ≤ 8) (hB : B < 2 ^ 30) {w c : Nat} (hw : w < 4) (hc : c < 4) : z_shr (z_share z w c) := by
  obtain ⟨b, b1, b2, b3⟩ := h.b hw hc
  unfold z_share
  rw [b1, h8, z_nI (by omega), h.keptN]
  by_cases q : b = 0
  · subst q
    rw [if_pos (show nI 0 = 0 from rfl)]
    exact Or.inl rfl
  · rw [if_neg (fun e : nI b = 0 => q ((tp_eq (b := 0) (by omega) (by omega)).mp e))]
    exact fp_share (by omega) b3 (by omega)
theorem iv.I1 (h : iv B N P z) (h8 : z 8 = nI N) (hN : N ≤ 8) (h9 : z 9 = nI P) (hP : P ≤ 12) : z_I1 z := by
  obtain ⟨s, s1, s2⟩ := h.z1
  obtain ⟨t, t1, t2⟩ := h.z2
  exact ⟨⟨N, h8, hN⟩, ⟨P, h9, hP⟩, ⟨s, s1, s2⟩, ⟨t, t1, by omega⟩⟩
theorem iv.I2 (h : iv B N P z) (h8 : z 8 = nI N) (hN : N ≤ 8) (hB : B < 2 ^ 30) : z_I2 z := fun w c hw hc => by
  obtain ⟨r, r1, r2, r3⟩ := h.rate hw hc
  obtain ⟨b, b1, b2, b3, b4⟩ := h.free h8 hN hw hc
  exact ⟨⟨r, r1, r2, r3⟩, ⟨_, b4, by omega⟩, z_shr_fin (h.shr h8 hN hB hw hc)⟩
theorem zr.I1 (hz : zr N P u z) (h : iv B N P z) : z_I1 u := by
  obtain ⟨s, s1, s2⟩ := h.z1
  obtain ⟨t, t1, t2⟩ := h.z2
  exact ⟨⟨N, hz.u8, hz.n8⟩, ⟨P, hz.u9, hz.n9⟩, ⟨s, (hz.hd (by omega)).trans s1, s2⟩, ⟨t, (hz.hd (by omega)).trans t1, by omega⟩⟩
theorem zr.I2 (hz : zr N P u z) (h : iv B N P z) (hB : B < 2 ^ 30) : k_I2 u := fun w c hw hc => by
  rw [hz.rate h hw hc, hz.free hw hc, hz.share hw hc]
  obtain ⟨r, r1, r2, r3⟩ := h.rate hw hc
  obtain ⟨b, b1, b2, b3, b4⟩ := h.free hz.z8 hz.n8 hw hc
  exact ⟨⟨r, r1, r2, r3⟩, ⟨_, b4, by omega⟩, h.shr hz.z8 hz.n8 hB hw hc⟩
theorem iv.mP (h : iv B N P z) (h8 : z 8 = nI N) (hN : N ≤ 8) (hB : B < 2 ^ 30) : m_P z := by
  refine ⟨⟨N, h8, hN⟩, fun w t hw ht q => ?_, fun w hw => h.loads0 hB hw⟩
  obtain ⟨r, r1, r2, r3⟩ := h.rate hw ht
  rw [r1, z_lt r (by omega), show (0 : Int64) = lN 0 from rfl] at q
  have := (lN_eq (by omega) (by omega)).mp q
  omega
/-- digest -/
theorem z_mixN_cg {f g : Nat → Int64} {h h' : Int64} : ∀ n, (∀ j, j < n → f j = g j) → h = h' → z_mixN f n h = z_mixN g n h'
  | 0, _, e => e
  | n + 1, hf, e => by
    unfold z_mixN
    rw [z_mixN_cg n (fun j hj => hf j (by omega)) e, hf n (by omega)]
theorem z_mixC_cg {f g : Nat → Int64 → Int64} {h h' : Int64} : ∀ n, (∀ j, j < n → ∀ x, f j x = g j x) → h = h' → z_mixC f n h = z_mixC g n h'
  | 0, _, e => e
  | n + 1, hf, e => by
    unfold z_mixC
    rw [z_mixC_cg n (fun j hj => hf j (by omega)) e, hf n (by omega)]
theorem zr.digest (hz : zr N P u z) (h : iv B N P z) (hB : B < 2 ^ 30) (tx : Nat → Int32) (st : Int32) (n : Nat) : k_digest u tx st n = z_digest z tx st n := by
  have h8 := hz.n8
  have h9 := hz.n9
  have eP : ∀ w c, w < 4 → c < 4 → ∀ x, k_mixP u w c x = z_mixP z w c x := fun w c hw hc x => by
    unfold k_mixP z_mixP
    rw [z_mixN_cg (f := fun j => (k_purse u w c j).toInt64) (g := fun j => (z_purse z w c j).toInt64) (h := x) 8 (fun j _ => by rw [hz.purse h hw hc]) rfl, hz.roomOf hw hc, hz.share hw hc]
  have eW : ∀ w, w < 4 → ∀ x, k_mixW u w x = z_mixW z w x := fun w hw x => by
    unfold k_mixW z_mixW
    rw [z_mixC_cg (f := k_mixP u w) (g := z_mixP z w) (h := x) 4 (fun c hc y => eP w c hw hc y) rfl, show (1000 : Int32) = nI 1000 from rfl, hz.exThen h hw (by omega) (by omega) (by omega), hz.exThen h hw (by omega) (by omega) (by omega), hz.need h hw (by omega), hz.whyClose hw, hz.closed h hB hw]
  unfold k_digest z_digest
  refine z_mixN_cg n (fun _ _ => rfl) ?_
  rw [hz.u8, hz.z8, hz.u9, hz.z9, z_nI (by omega), z_nI (by omega)]
  congr 2
  refine z_mixN_cg _ (fun j hj => by rw [hz.payn h (by omega)]) ?_
  refine z_mixN_cg _ (fun j hj => by rw [hz.ho (by omega) (by omega)]) ?_
  refine z_mixC_cg 4 eW ?_
  refine z_mixN_cg 4 (fun j hj => by rw [hz.hd (by omega)]) ?_
  exact z_mixN_cg 14 (fun j hj => by rw [hz.count]) rfl
end ZQ
/-! saved states -/
theorem k_row_at (u u2 : Nat → Int32) (r : Nat) : ∀ n q, k_row u u2 r n q = if r ≤ q ∧ q < r + n then u2 q else u q
  | 0, q => by rw [if_neg (by omega)]; rfl
  | n + 1, q => by
    unfold k_row
    by_cases e : q = r + n
    · subst e
      rw [va_up_eq, if_pos (by omega)]
    · rw [va_up_ne' _ _ e, k_row_at u u2 r n q]
      by_cases c : r ≤ q ∧ q < r + n
      · rw [if_pos c, if_pos (by omega)]
      · rw [if_neg c, if_neg (by omega)]
theorem k_cps_at (u u2 : Nat → Int32) (base m : Nat) (hm : m ≤ 5) : ∀ n q, k_cps u u2 base m n q = if base ≤ q ∧ q < base + 5 * n ∧ (q - base) % 5 < m then u2 q else u q
  | 0, q => by rw [if_neg (by omega)]; rfl
  | n + 1, q => by
    unfold k_cps
    rw [k_row_at, k_cps_at u u2 base m hm n q]
    by_cases c : base + 5 * n ≤ q ∧ q < base + 5 * n + m
    · rw [if_pos c, if_pos (by omega)]
    · rw [if_neg c]
      by_cases d : base ≤ q ∧ q < base + 5 * n ∧ (q - base) % 5 < m
      · rw [if_pos d, if_pos (by omega)]
      · rw [if_neg d, if_neg (by omega)]
theorem k_copy_at (u u2 : Nat → Int32) {N P : Nat} (hN : N ≤ 8) {q : Nat} (h : q < 16 ∨ (16 ≤ q ∧ q < 96 ∧ (q - 16) % 5 < 4) ∨ (96 ≤ q ∧ q < 96 + 5 * N) ∨ (136 ≤ q ∧ q < 136 + 5 * P)) : k_copy u u2 N P q = u2 q := by
  have up : ∀ (f : Nat → Int32) k, (q = k → True) → (q ≠ k → f q = u2 q) → va_up f k (u2 k) q = u2 q := fun f k _ h2 => by
    by_cases e : q = k
    · subst e; exact va_up_eq _ _ _
    · rw [va_up_ne' _ _ e]; exact h2 e
  unfold k_copy
  refine up _ 15 (fun _ => trivial) (fun n15 => up _ 14 (fun _ => trivial) (fun n14 => up _ 13 (fun _ => trivial) (fun n13 => up _ 12 (fun _ => trivial) (fun n12 => up _ 11 (fun _ => trivial) (fun n11 => up _ 10 (fun _ => trivial) (fun n10 => ?_))))))
  rw [k_cps_at _ _ _ _ (by omega)]
  by_cases c1 : 136 ≤ q ∧ q < 136 + 5 * P ∧ (q - 136) % 5 < 5
  · rw [if_pos c1]
  · rw [if_neg c1]
    refine up _ 9 (fun _ => trivial) (fun n9 => ?_)
    rw [k_cps_at _ _ _ _ (by omega)]
    by_cases c2 : 96 ≤ q ∧ q < 96 + 5 * N ∧ (q - 96) % 5 < 5
    · rw [if_pos c2]
    · rw [if_neg c2]
      refine up _ 8 (fun _ => trivial) (fun n8 => ?_)
      rw [k_cps_at _ _ _ _ (by omega)]
      by_cases c3 : 16 ≤ q ∧ q < 16 + 5 * 16 ∧ (q - 16) % 5 < 4
      · rw [if_pos c3]
      · rw [if_neg c3]
        unfold k_ov
        by_cases c4 : 5 ≤ q ∧ q < 8
        · rw [if_pos c4]
        · rw [if_neg c4]
          by_cases c5 : 0 ≤ q ∧ q < 4
          · rw [if_pos c5]
          · rw [if_neg c5]
            have : q = 4 := by omega
            subst this
            exact va_up_eq _ _ _
section ZS
variable {B N P : Nat} {u z : Nat → Int32}
theorem zr.ag {u' : Nat → Int32} (hz : zr N P u z) (h : ∀ q, (q < 16 ∨ (16 ≤ q ∧ q < 96 ∧ (q - 16) % 5 < 4) ∨ (96 ≤ q ∧ q < 96 + 5 * N) ∨ (136 ≤ q ∧ q < 136 + 5 * P)) → u' q = u q) : zr N P u' z := by
  refine ⟨hz.1, fun q hq => (h q (by omega)).trans (hz.hd hq), fun w c hw hc => ?_, fun q h1 h2 => (h q (by omega)).trans (hz.ho h1 h2), fun q h1 h2 => (h q (by omega)).trans (hz.pa h1 h2)⟩
  rw [h _ (by unfold z_at; omega), h _ (by unfold z_at; omega), h _ (by unfold z_at; omega), h _ (by unfold z_at; omega)]
  exact hz.2.2.1 w c hw hc
theorem zr.copy (hz : zr N P u z) (u' : Nat → Int32) : zr N P (k_copy u' u N P) z := hz.ag fun _ h => k_copy_at u' u hz.n8 h
theorem zr.zag {z' : Nat → Int32} (hz : zr N P u z) (h : ∀ q, q < 196 → z' q = z q) : zr N P u z' := by
  have h8 := hz.n8
  have h9 := hz.n9
  refine ⟨⟨⟨(h 8 (by omega)).trans hz.z8, h8⟩, (h 9 (by omega)).trans hz.z9, h9⟩, fun q hq => by rw [h q (by omega)]; exact hz.hd hq, fun w c hw hc => ?_, fun q h1 h2 => by rw [h q (by omega)]; exact hz.ho h1 h2, fun q h1 h2 => by rw [h q (by omega)]; exact hz.pa h1 h2⟩
  rw [h _ (by unfold z_at; omega), h _ (by unfold z_at; omega), h _ (by unfold z_at; omega), h _ (by unfold z_at; omega), h _ (by unfold z_at; omega), show k_paid z' w c P = k_paid z w c P from k_paid_cg P fun q _ _ _ => h q (by omega)]
  exact hz.2.2.1 w c hw hc
theorem iv.zag {z' : Nat → Int32} (hv : iv B N P z) (hN : N ≤ 8) (hP : P ≤ 12) (h : ∀ q, q < 196 → z' q = z q) : iv B N P z' := by
  obtain ⟨⟨h0, h1, h2, h3⟩, ⟨D, h4, h5, h6⟩, h7, h8⟩ := hv
  exact ⟨⟨by rw [h 0 (by omega)]; exact h0, by rw [h 1 (by omega)]; exact h1, by rw [h 2 (by omega)]; exact h2, by rw [h 3 (by omega)]; exact h3⟩, ⟨D, by rw [h 4 (by omega)]; exact h4, fun j hj => rowH_cg (h5 j hj) fun q _ _ => h q (by omega), fun j hj => rowP_cg (h6 j hj) fun q _ _ => h q (by omega)⟩, fun c c1 c2 => by rw [h _ (by omega)]; exact h7 c c1 c2, fun w c hw hc => iv_p_cg (h8 w c hw hc) (Nat.le_refl _) (fun q q1 q2 => h q (by unfold z_at at q2; omega)) fun q _ _ => h q (by omega)⟩
/-- the saved states against the history -/
def h_R1 (B : Nat) (u z : Nat → Int32) : Prop := ∃ N P, zr N P u z ∧ iv B N P z
def h_S (B s : Nat) (us : Nat → Nat → Int32) (hi : Nat → Int32) : Prop := s ≤ 6 ∧ ∀ j, j < s → h_R1 B (us j) (fun q => hi (196 * j + q))
theorem h_R1.mono {B' : Nat} (h : h_R1 B u z) (hB : B ≤ B') : h_R1 B' u z := by
  obtain ⟨N, P, h1, h2⟩ := h
  exact ⟨N, P, h1, h2.mono hB⟩
theorem h_S.mono {B' s : Nat} {us : Nat → Nat → Int32} {hi : Nat → Int32} (h : h_S B s us hi) (hB : B ≤ B') : h_S B' s us hi := ⟨h.1, fun j hj => (h.2 j hj).mono hB⟩
theorem h_R1.zag {z' : Nat → Int32} (h : h_R1 B u z) (e : ∀ q, q < 196 → z' q = z q) : h_R1 B u z' := by
  obtain ⟨N, P, h1, h2⟩ := h
  exact ⟨N, P, h1.zag e, h2.zag h1.n8 h1.n9 e⟩
theorem h_S.save {s : Nat} {us : Nat → Nat → Int32} {hi : Nat → Int32} (h : h_S B s us hi) (hz : zr N P u z) (hv : iv B N P z) : h_S B (z_saveN s) (kx_us us s u N P) (z_saveH hi z s) := by
  obtain ⟨hs, hh⟩ := h
  by_cases e : s = 6
  · subst e
    refine ⟨by show 6 ≤ 6; omega, fun j hj => ?_⟩
    have hj : j < 6 := hj
    show h_R1 B (va_up (fun j => us (k_rot j)) 5 (k_copy (us (k_rot 5)) u N P) j) (fun q => z_store (z_shift hi) z 5 (196 * j + q))
    by_cases j5 : j = 5
    · subst j5
      rw [va_up_eq]
      refine h_R1.zag ⟨N, P, hz.copy _, hv⟩ fun q hq => ?_
      unfold z_store
      rw [if_pos (by omega)]
      exact congrArg z (by omega)
    · rw [va_up_ne' _ _ j5]
      have er : k_rot j = j + 1 := if_pos (by omega)
      rw [er]
      refine (hh (j + 1) (by omega)).zag fun q hq => ?_
      unfold z_store z_shift
      rw [if_neg (by omega), if_pos (by omega)]
      exact congrArg hi (by omega)
  · have en : z_saveN s = s + 1 := if_neg e
    have eu : kx_us us s u N P = va_up us s (k_copy (us s) u N P) := if_neg e
    have eh : z_saveH hi z s = z_store hi z s := if_neg e
    rw [en, eu, eh]
    refine ⟨by omega, fun j hj => ?_⟩
    by_cases js : j = s
    · subst js
      rw [va_up_eq]
      refine h_R1.zag ⟨N, P, hz.copy _, hv⟩ fun q hq => ?_
      unfold z_store
      rw [if_pos (by omega)]
      exact congrArg z (by omega)
    · rw [va_up_ne' _ _ js]
      refine (hh j (by omega)).zag fun q hq => ?_
      unfold z_store
      rw [if_neg (by omega)]
end ZS
