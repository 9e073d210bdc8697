/-! what the searches find -/
def z_net (r s m : Nat) : Nat := 1000 * m / r - 1000 * m / r * s / 1000
def z_find (p : Nat → Bool) : Nat → Nat → Nat
  | 0, m => m
  | n + 1, m => if p m then m else z_find p n (m + 1)
theorem z_find_eq {p : Nat → Bool} {m : Nat} (hp : p m = true) (hq : ∀ j, j < m → p j = false) : ∀ n i, i ≤ m → m ≤ i + n → z_find p n i = m
  | 0, i, h1, h2 => by rw [z_find]; omega
  | n + 1, i, h1, h2 => by
    rw [z_find]
    by_cases e : i = m
    · subst e; rw [if_pos hp]
    · rw [if_neg (by rw [hq i (by omega)]; decide)]
      exact z_find_eq hp hq n (i + 1) (by omega) (by omega)
def z_need (r s a : Nat) : Nat := z_find (fun m => decide (a ≤ z_net r s m)) 200001 0
theorem z_need_eq {r s a m : Nat} (hm : m ≤ 200000) (h1 : a ≤ z_net r s m) (h2 : ∀ j, j < m → z_net r s j < a) : z_need r s a = m :=
  z_find_eq (decide_eq_true h1) (fun j hj => decide_eq_false (Nat.not_le.mpr (h2 j hj))) _ _ (Nat.zero_le _) (by omega)
theorem z_netg {s g g' : Nat} (hs : s ≤ 1000) (h : g ≤ g') : g - g * s / 1000 ≤ g' - g' * s / 1000 := by
  obtain ⟨d, rfl⟩ : ∃ d, g' = g + d := ⟨g' - g, by omega⟩
  have e : (g + d) * s = g * s + d * s := Nat.add_mul g d s
  have e2 : d * s ≤ d * 1000 := Nat.mul_le_mul_left d hs
  have e3 : g * s ≤ g * 1000 := Nat.mul_le_mul_left g hs
  rw [e]
  omega
theorem z_net_mono {r s m m' : Nat} (hs : s ≤ 1000) (h : m ≤ m') : z_net r s m ≤ z_net r s m' :=
  z_netg hs (Nat.div_le_div_right (Nat.mul_le_mul_left _ h))
theorem z_net0 (r s : Nat) : z_net r s 0 = 0 := by unfold z_net; simp
theorem z_net_top {r s a : Nat} (hr : 0 < r) (hr2 : r ≤ 2000) (hs : s ≤ 100) (ha : a ≤ 9999) : a ≤ z_net r s 200000 := by
  have h1 : 100000 ≤ 1000 * 200000 / r := (Nat.le_div_iff_mul_le hr).mpr (by omega)
  have h2 := z_netg (s := s) (by omega) h1
  have h3 : 100000 * s / 1000 ≤ 10000 := by omega
  unfold z_net
  omega
theorem z_l1000 : (1000 : Int64) = lN 1000 := rfl
theorem z_lt (n : Nat) (h : n < 2 ^ 31) : (nI n).toInt64 = lN n := nI_l h
theorem z_given_eq {z : Nat → Int32} {w c m r : Nat} (hr : z_rate z w c = nI r) (h0 : 0 < r) (hr2 : r < 2 ^ 31) (hm : m < 2 ^ 31) : z_given z w 0 c (nI m) = nI (1000 * m / r) := by
  unfold z_given
  rw [if_pos rfl, hr, z_lt m hm, z_lt r hr2, z_l1000, lN_mul, pk_lDiv (by omega) h0 (by omega), lN_i]
theorem z_spread_eq {z : Nat → Int32} {g s : Nat} (hs : z 1 = nI s) (hs2 : s < 2 ^ 31) (hg : g < 2 ^ 31) : z_spread z (nI g) = nI (g * s / 1000) := by
  unfold z_spread
  have h1 : g * s ≤ 2147483647 * 2147483647 := Nat.mul_le_mul (by omega) (by omega)
  rw [hs, z_lt g hg, z_lt s hs2, z_l1000, lN_mul, pk_lDiv (by omega) (by omega) (by omega), lN_i]
theorem z_brings_eq {z : Nat → Int32} {w c m r s : Nat} (hr : z_rate z w c = nI r) (h0 : 0 < r) (hr2 : r < 2 ^ 31) (hs : z 1 = nI s) (hs2 : s ≤ 1000) (hg : 1000 * m / r < 2 ^ 31) (hm : m < 2 ^ 31) : z_brings z w 0 c (nI m) = nI (z_net r s m) := by
  unfold z_brings
  rw [z_given_eq hr h0 hr2 hm, z_spread_eq hs (by omega) hg]
  unfold z_net
  have : 1000 * m / r * s ≤ 1000 * m / r * 1000 := Nat.mul_le_mul_left _ hs2
  exact tp_sub (by omega)
/-- the greatest hold -/
def z_tipN (t m : Nat) : Nat := m + m * t / 100
def z_room (t f : Nat) : Nat := z_find (fun m => decide (f < z_tipN t (m + 1)) || decide (m = 99999)) 99999 0
theorem z_tipN_mono {t m m' : Nat} (h : m ≤ m') : z_tipN t m ≤ z_tipN t m' := by
  have : m * t ≤ m' * t := Nat.mul_le_mul_right t h
  unfold z_tipN
  omega
theorem z_room_eq {t f m : Nat} (hm : m ≤ 99999) (h1 : z_tipN t m ≤ f) (h2 : m = 99999 ∨ f < z_tipN t (m + 1)) : z_room t f = m := by
  refine z_find_eq ?_ (fun j hj => ?_) _ _ (Nat.zero_le _) (by omega)
  · rcases h2 with h | h
    · simp [h]
    · simp [h]
  · have := z_tipN_mono (t := t) (show j + 1 ≤ m by omega)
    simp only [Bool.or_eq_false_iff, decide_eq_false_iff_not]
    omega
theorem z_tip_eq {z : Nat → Int32} {t m : Nat} (ht : z 2 = nI t) (ht2 : t ≤ 100) (hm : m ≤ 200000) : z_tip z (nI m) = nI (z_tipN t m) := by
  unfold z_tip z_tipN
  have : m * t ≤ 200000 * 100 := Nat.mul_le_mul hm ht2
  rw [ht, tp_mul, show (100 : Int32) = nI 100 from rfl, pk_div (by omega) (by omega) (by omega), tp_add]
theorem z_tipN0 (t : Nat) : z_tipN t 0 = 0 := by simp [z_tipN]
/-- a purse's properties, the counts -/
def z_purse (z : Nat → Int32) (w c : Nat) : Nat → Int32 := fun j => match j with
  | 0 => z (z_at w c)
  | 1 => z_kept z w c (z_n (z 8))
  | 2 => z_free z w c
  | 3 => z (z_at w c + 1)
  | 4 => z_rate z w c
  | 5 => if 0 < z (z_at w c + 2) ∧ z 4 ≤ z (z_at w c + 3) then z (z_at w c + 3) else -1
  | 6 => z_credit z w c (z_n (z 9))
  | _ => z (z_at w c + 4)
def z_count (z : Nat → Int32) (st : Int32) : Nat → Int32 := fun j => match j with
  | 0 => z 4
  | 1 => z 8
  | 2 => z 9
  | 3 => z_disputed z (z_n (z 9))
  | 4 => z 10
  | 5 => z 11
  | 6 => z 12
  | 7 => z 13
  | 8 => z 14
  | 9 => z 5
  | 10 => z 6
  | 11 => z 7
  | 12 => z 15
  | _ => st
def z_exThen (z : Nat → Int32) (w f t : Nat) (a : Int32) : Int32 := if f = t ∨ (0 < f ∧ 0 < t) then -1 else z_brings z w f t a
def z_closed (z : Nat → Int32) (w : Nat) : Int32 := if 0 < z_whyClose z w then -1 else z (z_at w 0) + z_brings z w 1 0 (z (z_at w 1)) + z_brings z w 2 0 (z (z_at w 2)) + z_brings z w 3 0 (z (z_at w 3))
def z_share (z : Nat → Int32) (w c : Nat) : UInt64 := if z (z_at w c) = 0 then FP.dconst0 else FP.ddiv (FP.i2d (z_kept z w c (z_n (z 8)))) (FP.i2d (z (z_at w c)))
def z_closeT (z : Nat → Int32) (w : Nat) : Nat → Nat → Int32
  | 0 => z
  | i + 1 => z_close1 (z_closeT z w i) w (i + 1)
theorem z_drop_8 (z : Nat → Int32) (j : Nat) : z_drop z j 8 = z 8 - 1 := by
  unfold z_drop
  rw [if_neg (by omega), if_pos rfl]
theorem tp_m1 {N : Nat} (h : 1 ≤ N) : nI N - 1 = nI (N - 1) := tp_sub (a := N) (b := 1) h
theorem tp_dec (x : Int32) : x + Int32.ofInt (-1) = x - 1 := by rw [show Int32.ofInt (-1) = -1 from by decide, Int32.sub_eq_add_neg]
