/-! THE HOLDS AS A LIST -/
abbrev h_R : Type := Int32 × Int32 × Int32 × Int32 × Int32
def h_row (z : Nat → Int32) (i : Nat) : h_R := (z (96 + 5 * i), z (96 + 5 * i + 1), z (96 + 5 * i + 2), z (96 + 5 * i + 3), z (96 + 5 * i + 4))
def hL (z : Nat → Int32) (n : Nat) : List h_R := (List.range n).map (h_row z)
def h_c (w c : Nat) (r : h_R) : Nat := if r.1 = nI w ∧ r.2.1 = nI c then z_n r.2.2.2.1 else 0
def kL (w c : Nat) : List h_R → Nat
  | [] => 0
  | r :: l => h_c w c r + kL w c l
def rowR (D : Nat) (r : h_R) : Prop := ∃ w c k d, (w < 4 ∧ c < 4 ∧ k ≤ 200000 ∧ d ≤ D) ∧ (r.1 = nI w ∧ r.2.1 = nI c) ∧ r.2.2.2.1 = nI k ∧ r.2.2.2.2 = nI d
theorem hL_len (z : Nat → Int32) (n : Nat) : (hL z n).length = n := by simp [hL]
theorem hL_at (z : Nat → Int32) {n i : Nat} (h : i < (hL z n).length) : (hL z n)[i] = h_row z i := by simp [hL]
theorem hL_succ (z : Nat → Int32) (n : Nat) : hL z (n + 1) = hL z n ++ [h_row z n] := by simp [hL, List.range_succ]
theorem kL_app (w c : Nat) : ∀ l m, kL w c (l ++ m) = kL w c l + kL w c m
  | [], m => by simp [kL]
  | r :: l, m => by
    show h_c w c r + kL w c (l ++ m) = h_c w c r + kL w c l + kL w c m
    rw [kL_app w c l m]
    omega
theorem kN_L (z : Nat → Int32) (w c : Nat) : ∀ n, kN z w c n = kL w c (hL z n)
  | 0 => rfl
  | n + 1 => by
    rw [hL_succ, kL_app, ← kN_L z w c n]
    rfl
theorem kL_filter (w c : Nat) (p : h_R → Bool) : ∀ l, kL w c (l.filter p) ≤ kL w c l
  | [] => Nat.le_refl _
  | r :: l => by
    have := kL_filter w c p l
    rw [List.filter_cons]
    split
    · show h_c w c r + kL w c (l.filter p) ≤ h_c w c r + kL w c l
      omega
    · show kL w c (l.filter p) ≤ h_c w c r + kL w c l
      omega
theorem kL_erase (w c : Nat) : ∀ (l : List h_R) (j : Nat) (h : j < l.length), kL w c (l.eraseIdx j) + h_c w c l[j] = kL w c l
  | [], j, h => absurd h (Nat.not_lt_zero j)
  | r :: l, 0, h => by
    show kL w c l + h_c w c r = h_c w c r + kL w c l
    omega
  | r :: l, j + 1, h => by
    have := kL_erase w c l j (Nat.lt_of_succ_lt_succ h)
    show h_c w c r + kL w c (l.eraseIdx j) + h_c w c (l[j]'(Nat.lt_of_succ_lt_succ h)) = h_c w c r + kL w c l
    omega
theorem hL_cg {u z : Nat → Int32} {n : Nat} (h : ∀ q, 96 ≤ q → q < 96 + 5 * n → u q = z q) : hL u n = hL z n := by
  unfold hL
  apply List.map_congr_left
  intro i hi
  have hi := List.mem_range.mp hi
  unfold h_row
  rw [h _ (by omega) (by omega), h _ (by omega) (by omega), h _ (by omega) (by omega), h _ (by omega) (by omega), h _ (by omega) (by omega)]
theorem hL_inj {u z : Nat → Int32} {n : Nat} (h : hL u n = hL z n) {q : Nat} (h1 : 96 ≤ q) (h2 : q < 96 + 5 * n) : u q = z q := by
  have hi : (q - 96) / 5 < n := by omega
  have e : h_row u ((q - 96) / 5) = h_row z ((q - 96) / 5) := by
    have a := hL_at u (n := n) (i := (q - 96) / 5) (by rw [hL_len]; exact hi)
    have b := hL_at z (n := n) (i := (q - 96) / 5) (by rw [hL_len]; exact hi)
    rw [← a, ← b]
    exact List.getElem_of_eq h _
  unfold h_row at e
  injection e with e0 e
  injection e with e1 e
  injection e with e2 e
  injection e with e3 e4
  have hq : q = 96 + 5 * ((q - 96) / 5) + (q - 96) % 5 := by omega
  have hr : (q - 96) % 5 < 5 := by omega
  generalize (q - 96) / 5 = i at *
  generalize (q - 96) % 5 = k at *
  subst hq
  rcases (show k = 0 ∨ k = 1 ∨ k = 2 ∨ k = 3 ∨ k = 4 by omega) with rfl | rfl | rfl | rfl | rfl
  · exact e0
  · exact e1
  · exact e2
  · exact e3
  · exact e4
theorem hL_mem {z : Nat → Int32} {D n : Nat} (h : ∀ j, j < n → rowH z D j) : ∀ r ∈ hL z n, rowR D r := by
  intro r hr
  obtain ⟨i, hi, rfl⟩ := List.mem_map.mp hr
  exact h i (List.mem_range.mp hi)
theorem hL_rows {z : Nat → Int32} {D n : Nat} (h : ∀ r ∈ hL z n, rowR D r) : ∀ j, j < n → rowH z D j := fun j hj => h (h_row z j) (List.mem_map.mpr ⟨j, List.mem_range.mpr hj, rfl⟩)
/-- one dropped -/
theorem hL_drop {z : Nat → Int32} {N j : Nat} (h8 : z 8 = nI N) (hN : N ≤ 8) (hj : j < N) : hL (z_drop z j) (N - 1) = (hL z N).eraseIdx j := by
  have hl : ((hL z N).eraseIdx j).length = N - 1 := by rw [List.length_eraseIdx, hL_len, if_pos hj]
  apply List.ext_getElem
  · rw [hl, hL_len]
  · intro i h1 h2
    rw [hL_at, List.getElem_eraseIdx]
    rw [hL_len] at h1
    have f : ∀ k, k < 5 → z_drop z j (96 + 5 * i + k) = if i < j then z (96 + 5 * i + k) else z (96 + 5 * (i + 1) + k) := fun k hk => by
      unfold z_drop
      rw [h8, z_nI (by omega)]
      by_cases q : i < j
      · rw [if_neg (by omega), if_neg (by omega), if_pos q]
      · rw [if_pos (by omega), if_neg q, show 96 + 5 * (i + 1) + k = 96 + 5 * i + k + 5 by omega]
    split
    · rename_i q
      rw [hL_at]
      unfold h_row
      rw [show 96 + 5 * i = 96 + 5 * i + 0 from rfl, f 0 (by omega), f 1 (by omega), f 2 (by omega), f 3 (by omega), f 4 (by omega), if_pos q, if_pos q, if_pos q, if_pos q, if_pos q]
    · rename_i q
      rw [hL_at]
      unfold h_row
      rw [show 96 + 5 * i = 96 + 5 * i + 0 from rfl, f 0 (by omega), f 1 (by omega), f 2 (by omega), f 3 (by omega), f 4 (by omega), if_neg q, if_neg q, if_neg q, if_neg q, if_neg q]
      rfl
theorem k_drop_fr {u : Nat → Int32} {N j q : Nat} (h : q < 96 ∨ 136 ≤ q) (h8 : q ≠ 8) : k_drop u N j q = u q := by
  unfold k_drop
  rw [va_up_ne' _ _ h8]
  unfold k_perm
  rw [if_neg (by omega)]
theorem k_drop_row {u : Nat → Int32} {N j i k : Nat} (hN : N ≤ 8) (hj : j < N) (hi : i < N - 1) (hk : k < 5) : k_drop u N j (96 + 5 * i + k) = if i < j then u (96 + 5 * i + k) else u (96 + 5 * (i + 1) + k) := by
  unfold k_drop
  rw [va_up_ne' _ _ (by omega)]
  unfold k_perm
  rw [if_pos (by omega), show (96 + 5 * i + k - 96) / 5 = i by omega, show (96 + 5 * i + k - 96) % 5 = k by omega]
  unfold k_sig
  by_cases q : i < j
  · rw [if_neg (by omega), if_neg (by omega), if_pos q]
  · rw [if_pos (by omega), if_neg q]
theorem hL_kdrop {u : Nat → Int32} {N j : Nat} (hN : N ≤ 8) (hj : j < N) : hL (k_drop u N j) (N - 1) = (hL u N).eraseIdx j := by
  have hl : ((hL u N).eraseIdx j).length = N - 1 := by rw [List.length_eraseIdx, hL_len, if_pos hj]
  apply List.ext_getElem
  · rw [hl, hL_len]
  · intro i h1 h2
    rw [hL_at, List.getElem_eraseIdx]
    rw [hL_len] at h1
    have f : ∀ k, k < 5 → k_drop u N j (96 + 5 * i + k) = if i < j then u (96 + 5 * i + k) else u (96 + 5 * (i + 1) + k) := fun k hk => k_drop_row hN hj h1 hk
    split
    · rename_i q
      rw [hL_at]
      unfold h_row
      rw [show 96 + 5 * i = 96 + 5 * i + 0 from rfl, f 0 (by omega), f 1 (by omega), f 2 (by omega), f 3 (by omega), f 4 (by omega), if_pos q, if_pos q, if_pos q, if_pos q, if_pos q]
    · rename_i q
      rw [hL_at]
      unfold h_row
      rw [show 96 + 5 * i = 96 + 5 * i + 0 from rfl, f 0 (by omega), f 1 (by omega), f 2 (by omega), f 3 (by omega), f 4 (by omega), if_neg q, if_neg q, if_neg q, if_neg q, if_neg q]
      rfl
theorem z_drop_fr {z : Nat → Int32} {N j q : Nat} (h8 : z 8 = nI N) (hN : N ≤ 8) (h : q < 96 ∨ 136 ≤ q) (hq : q ≠ 8) : z_drop z j q = z q := by
  unfold z_drop
  rw [h8, z_nI (by omega), if_neg (by omega), if_neg hq]
section ZH
variable {B N P : Nat} {u z : Nat → Int32}
/-- other holds, all else as it was -/
theorem zr.hold' {N' : Nat} {u' z' : Nat → Int32} (hz : zr N P u z) (hu : ∀ q, (q < 96 ∨ 136 ≤ q) → q ≠ 8 → u' q = u q) (hz' : ∀ q, (q < 96 ∨ 136 ≤ q) → q ≠ 8 → z' q = z q) (u8 : u' 8 = nI N') (z8 : z' 8 = nI N') (hN : N' ≤ 8) (hl : hL u' N' = hL z' N') : zr N' P u' z' := by
  have h9 := hz.n9
  refine ⟨⟨⟨z8, hN⟩, (hz' 9 (by omega) (by omega)).trans hz.z9, h9⟩, fun q hq => ?_, fun w c hw hc => ?_, fun q h1 h2 => hL_inj hl h1 h2, fun q h1 h2 => ?_⟩
  · by_cases e : q = 8
    · subst e; rw [u8, z8]
    · rw [hu q (by omega) e, hz' q (by omega) e, hz.hd hq]
  · have a : 16 ≤ z_at w c ∧ z_at w c + 5 ≤ 96 := by unfold z_at; omega
    rw [hu _ (by omega) (by omega), hu _ (by omega) (by omega), hu _ (by omega) (by omega), hu _ (by omega) (by omega), hz' _ (by omega) (by omega), hz' _ (by omega) (by omega), hz' _ (by omega) (by omega), hz' _ (by omega) (by omega), hz' _ (by omega) (by omega), show k_paid z' w c P = k_paid z w c P from k_paid_cg P fun q _ _ _ => hz' q (by omega) (by omega)]
    exact hz.2.2.1 w c hw hc
  · rw [hu q (by omega) (by omega), hz' q (by omega) (by omega), hz.pa h1 h2]
theorem iv.hold' {N' : Nat} {z' : Nat → Int32} (h : iv B N P z) (hz' : ∀ q, (q < 96 ∨ 136 ≤ q) → q ≠ 8 → z' q = z q) (hr : ∀ D, z 4 = nI D → D ≤ 5000 → (∀ r ∈ hL z N, rowR D r) → ∀ r ∈ hL z' N', rowR D r) (hk : ∀ w c b, w < 4 → c < 4 → z (z_at w c) = nI b → b ≤ B → kL w c (hL z N) ≤ b → kL w c (hL z' N') ≤ b) : iv B N' P z' := by
  obtain ⟨⟨h0, h1, h2, h3⟩, ⟨D, ⟨h4, h4'⟩, h5, h6⟩, h7, h8⟩ := h
  refine ⟨⟨by rw [hz' 0 (by omega) (by omega)]; exact h0, by rw [hz' 1 (by omega) (by omega)]; exact h1, by rw [hz' 2 (by omega) (by omega)]; exact h2, by rw [hz' 3 (by omega) (by omega)]; exact h3⟩, ⟨D, ⟨by rw [hz' 4 (by omega) (by omega)]; exact h4, h4'⟩, hL_rows (hr D h4 h4' (hL_mem h5)), fun j hj => rowP_cg (h6 j hj) fun q _ _ => hz' q (by omega) (by omega)⟩, fun c c1 c2 => by rw [hz' _ (by omega) (by omega)]; exact h7 c c1 c2, fun w c hw hc => ?_⟩
  obtain ⟨b, d, ⟨e1, e2⟩, ⟨e3, e4, e5⟩, r, l, ⟨e6, e7⟩, e8⟩ := h8 w c hw hc
  have a : 16 ≤ z_at w c ∧ z_at w c + 5 ≤ 96 := by unfold z_at; omega
  refine ⟨b, d, ⟨by rw [hz' _ (by omega) (by omega)]; exact e1, by rw [hz' _ (by omega) (by omega)]; exact e2⟩, ⟨e3, e4, ?_⟩, r, l, ⟨by rw [hz' _ (by omega) (by omega)]; exact e6, by rw [hz' _ (by omega) (by omega)]; exact e7⟩, e8⟩
  rw [kN_L]
  exact hk w c b hw hc e1 e3 (by rw [← kN_L]; exact e5)
/-- letGo -/
theorem zr.drop (hz : zr N P u z) {j : Nat} (hj : j < N) : zr (N - 1) P (k_drop u N j) (z_drop z j) := by
  have h8 := hz.n8
  refine hz.hold' (fun q h1 h2 => k_drop_fr h1 h2) (fun q h1 h2 => z_drop_fr hz.z8 h8 h1 h2) ?_ ?_ (by omega) ?_
  · unfold k_drop
    rw [va_up_eq, hz.u8, tp_m1 (by omega)]
  · rw [z_drop_8, hz.z8, tp_m1 (by omega)]
  · rw [hL_kdrop h8 hj, hL_drop hz.z8 h8 hj, hL_cg fun q h1 h2 => hz.ho h1 h2]
theorem iv.drop (h : iv B N P z) (h8 : z 8 = nI N) (hN : N ≤ 8) {j : Nat} (hj : j < N) : iv B (N - 1) P (z_drop z j) := by
  refine h.hold' (fun q h1 h2 => z_drop_fr h8 hN h1 h2) (fun D _ _ hr r hm => ?_) (fun w c b _ _ _ _ hk => ?_)
  · rw [hL_drop h8 hN hj] at hm
    exact hr r (List.mem_of_mem_eraseIdx hm)
  · rw [hL_drop h8 hN hj]
    have := kL_erase w c (hL z N) j (by rw [hL_len]; exact hj)
    omega
/-- hold -/
theorem z_holds_at {w c : Nat} {a : Int32} (h8 : z 8 = nI N) (hN : N < 8) (q : Nat) : z_holds z w c a q = if q = 96 + 5 * N + 4 then z 4 else if q = 96 + 5 * N + 3 then z_tip z a else if q = 96 + 5 * N + 2 then a else if q = 96 + 5 * N + 1 then nI c else if q = 96 + 5 * N then nI w else if q = 8 then nI (N + 1) else z q := by
  unfold z_holds va_up
  rw [h8, z_nI (by omega), tp_1]
theorem k_hold_at {w c : Nat} {a : Int32} (h8 : u 8 = nI N) (hN : N < 8) (q : Nat) : k_hold u N w c a q = if q = 8 then nI (N + 1) else if q = 96 + 5 * N + 4 then u 4 else if q = 96 + 5 * N + 3 then z_tip u a else if q = 96 + 5 * N + 2 then a else if q = 96 + 5 * N + 1 then nI c else if q = 96 + 5 * N then nI w else u q := by
  unfold k_hold va_up
  rw [h8, tp_1]
theorem hL_holds {w c : Nat} {a : Int32} (h8 : z 8 = nI N) (hN : N < 8) : hL (z_holds z w c a) (N + 1) = hL z N ++ [(nI w, nI c, a, z_tip z a, z 4)] := by
  rw [hL_succ]
  congr 1
  · exact hL_cg fun q h1 h2 => by
      rw [z_holds_at h8 hN, if_neg (by omega), if_neg (by omega), if_neg (by omega), if_neg (by omega), if_neg (by omega), if_neg (by omega)]
  · unfold h_row
    rw [z_holds_at h8 hN, z_holds_at h8 hN, z_holds_at h8 hN, z_holds_at h8 hN, z_holds_at h8 hN]
    simp
theorem hL_khold {w c : Nat} {a : Int32} (h8 : u 8 = nI N) (hN : N < 8) : hL (k_hold u N w c a) (N + 1) = hL u N ++ [(nI w, nI c, a, z_tip u a, u 4)] := by
  rw [hL_succ]
  congr 1
  · exact hL_cg fun q h1 h2 => by
      rw [k_hold_at h8 hN, if_neg (by omega), if_neg (by omega), if_neg (by omega), if_neg (by omega), if_neg (by omega), if_neg (by omega)]
  · unfold h_row
    rw [k_hold_at h8 hN, k_hold_at h8 hN, k_hold_at h8 hN, k_hold_at h8 hN, k_hold_at h8 hN]
    simp
    exact ⟨fun e => absurd e (by omega), fun e => absurd e (by omega), fun e => absurd e (by omega), fun e => absurd e (by omega), fun e => absurd e (by omega)⟩
theorem z_holds_fr {w c : Nat} {a : Int32} (h8 : z 8 = nI N) (hN : N < 8) {q : Nat} (h1 : q < 96 ∨ 136 ≤ q) (h2 : q ≠ 8) : z_holds z w c a q = z q := by
  rw [z_holds_at h8 hN, if_neg (by omega), if_neg (by omega), if_neg (by omega), if_neg (by omega), if_neg (by omega), if_neg (by omega)]
theorem zr.hold (hz : zr N P u z) {w c : Nat} (hN : N < 8) (a : Int32) : zr (N + 1) P (k_hold u N w c a) (z_holds z w c a) := by
  refine hz.hold' (fun q h1 h2 => ?_) (fun q h1 h2 => z_holds_fr hz.z8 hN h1 h2) ?_ ?_ (by omega) ?_
  · rw [k_hold_at hz.u8 hN, if_neg (by omega), if_neg (by omega), if_neg (by omega), if_neg (by omega), if_neg (by omega), if_neg (by omega)]
  · rw [k_hold_at hz.u8 hN, if_pos rfl]
  · rw [z_holds_at hz.z8 hN, if_neg (by omega), if_neg (by omega), if_neg (by omega), if_neg (by omega), if_neg (by omega), if_pos rfl]
  · rw [hL_holds hz.z8 hN, hL_khold hz.u8 hN, hL_cg (fun q h1 h2 => hz.ho h1 h2), hz.tip, hz.hd (show 4 < 16 by omega)]
theorem iv.hold (h : iv B N P z) (h8 : z 8 = nI N) (hN : N < 8) (hB : B < 2 ^ 30) {w c m : Nat} (hw : w < 4) (hc : c < 4) (hm : m ≤ 99999) (hy : z_whyHold z w c (nI m) = 0) : iv B (N + 1) P (z_holds z w c (nI m)) := by
  obtain ⟨t, ht, ht2⟩ := h.z2
  have hmt : m * t ≤ m * 50 := Nat.mul_le_mul_left m ht2
  have et : z_tip z (nI m) = nI (z_tipN t m) := z_tip_eq ht (by omega) (by omega)
  have etn : z_tipN t m ≤ 200000 := by unfold z_tipN; omega
  obtain ⟨b, b1, b2, b3, b4⟩ := h.free h8 (by omega) hw hc
  have hfr : z_tipN t m + kN z w c N ≤ b := by
    unfold z_whyHold at hy
    by_cases q : z_free z w c < z_tip z (nI m)
    · rw [if_pos q] at hy; exact absurd hy (by decide)
    · rw [b4, et, tp_lt (by omega) (by omega)] at q
      omega
  refine h.hold' (fun q h1 h2 => z_holds_fr h8 hN h1 h2) (fun D h4 _ hr r hm => ?_) (fun w' c' b' hw' hc' e1 e2 hk => ?_)
  · rw [hL_holds h8 hN] at hm
    rcases List.mem_append.mp hm with q | q
    · exact hr r q
    · rw [List.mem_singleton.mp q]
      exact ⟨w, c, _, D, ⟨hw, hc, etn, Nat.le_refl D⟩, ⟨rfl, rfl⟩, et, h4⟩
  · rw [hL_holds h8 hN, kL_app]
    show kL w' c' (hL z N) + (h_c w' c' (nI w, nI c, nI m, z_tip z (nI m), z 4) + 0) ≤ b'
    unfold h_c
    dsimp only
    rw [et, z_nI (by omega)]
    by_cases q : nI w = nI w' ∧ nI c = nI c'
    · rw [if_pos q]
      have q1 := (tp_eq (by omega) (by omega)).mp q.1
      have q2 := (tp_eq (by omega) (by omega)).mp q.2
      subst q1 q2
      rw [b1] at e1
      have := (tp_eq (by omega) (by omega)).mp e1
      rw [kN_L] at hfr
      omega
    · rw [if_neg q]
      omega
end ZH
