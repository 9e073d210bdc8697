/-! THE VALUE: the reference's row z of 196 ints, and what each call does to it -/
def tp_b (p : Prop) [Decidable p] : Int32 := if p then 1 else 0
theorem tp_b_t {p : Prop} [Decidable p] (h : p) : tp_b p = 1 := if_pos h
theorem tp_b_f {p : Prop} [Decidable p] (h : ¬ p) : tp_b p = 0 := if_neg h
theorem tp_b_0 {p : Prop} [Decidable p] : tp_b p = 0 ↔ ¬ p := by
  unfold tp_b
  by_cases h : p <;> simp [h]
theorem tp_b_n {p : Prop} [Decidable p] (h : ¬ tp_b p = 0) : p := by
  by_cases q : p
  · exact q
  · exact absurd (tp_b_f q) h
theorem tp_b_z {p : Prop} [Decidable p] : narrow .boolean (.int (tp_b p)) = .int (tp_b p) := by
  by_cases h : p
  · rw [tp_b_t h]; rfl
  · rw [tp_b_f h]; rfl
def z_n (x : Int32) : Nat := x.toNatClampNeg
theorem z_nI {a : Nat} (h : a < 2 ^ 31) : z_n (nI a) = a := nI_clamp h
def z_at (w c : Nat) : Nat := 16 + 5 * (4 * w + c)
def z_isOf (z : Nat → Int32) (row w c : Nat) : Prop := z row = nI w ∧ z (row + 1) = nI c
def z_kept (z : Nat → Int32) (w c : Nat) : Nat → Int32
  | 0 => 0
  | i + 1 => z_kept z w c i + (if z (96 + 5 * i) = nI w ∧ z (96 + 5 * i + 1) = nI c then z (96 + 5 * i + 3) else 0)
def z_free (z : Nat → Int32) (w c : Nat) : Int32 := z (z_at w c) - z_kept z w c (z_n (z 8))
def z_paid (z : Nat → Int32) (w c : Nat) (m : Int32) : Int32 := if z (z_at w c + 1) < m then z (z_at w c + 1) else m
def z_in (z : Nat → Int32) (w c : Nat) (m : Int32) : Nat → Int32 :=
  va_up (va_up (va_up z (z_at w c + 1) (z (z_at w c + 1) - z_paid z w c m)) 15 ((va_up z (z_at w c + 1) (z (z_at w c + 1) - z_paid z w c m)) 15 + z_paid z w c m)) (z_at w c)
    ((va_up (va_up z (z_at w c + 1) (z (z_at w c + 1) - z_paid z w c m)) 15 ((va_up z (z_at w c + 1) (z (z_at w c + 1) - z_paid z w c m)) 15 + z_paid z w c m)) (z_at w c) + (m - z_paid z w c m))
def z_loads (z : Nat → Int32) (w : Nat) (a : Int32) : Nat → Int32 := va_up (z_in z w 0 a) 10 ((z_in z w 0 a) 10 + a)
def z_canLoad (z : Nat → Int32) (w : Nat) (a : Int32) : Prop := z (z_at w 0) + a ≤ 1000000
def z_locked (z : Nat → Int32) (w c : Nat) : Prop := 0 < z (z_at w c + 2) ∧ z 4 ≤ z (z_at w c + 3)
def z_rate (z : Nat → Int32) (w c : Nat) : Int32 := if c = 0 then 1000 else if 0 < z (z_at w c + 2) ∧ z 4 ≤ z (z_at w c + 3) then z (z_at w c + 2) else z (4 + c)
def z_given (z : Nat → Int32) (w f t : Nat) (a : Int32) : Int32 := if f = 0 then ((1000 : Int64) * a.toInt64 / (z_rate z w t).toInt64).toInt32 else (a.toInt64 * (z_rate z w f).toInt64 / 1000).toInt32
def z_spread (z : Nat → Int32) (g : Int32) : Int32 := (g.toInt64 * (z 1).toInt64 / 1000).toInt32
def z_brings (z : Nat → Int32) (w f t : Nat) (a : Int32) : Int32 := z_given z w f t a - z_spread z (z_given z w f t a)
def z_wrong (f t : Nat) : Prop := f = t ∨ (0 < f ∧ 0 < t)
def z_whyEx (z : Nat → Int32) (w f t : Nat) (a : Int32) : Int32 := if f = t ∨ (0 < f ∧ 0 < t) then 1 else if z_free z w f < a then 2 else 0
def z_ex (z : Nat → Int32) (w f t : Nat) (a : Int32) : Nat → Int32 :=
  let z2 := z_in (va_up z (z_at w f) (z (z_at w f) - a)) w t (z_brings z w f t a)
  let z3 := va_up z2 12 (z2 12 + 1)
  va_up z3 (if t = 0 then 13 else 14) (z3 (if t = 0 then 13 else 14) + z_spread z (z_given z w f t a))
def z_tip (z : Nat → Int32) (a : Int32) : Int32 := a + a * z 2 / 100
def z_whyHold (z : Nat → Int32) (w c : Nat) (a : Int32) : Int32 := if z_free z w c < z_tip z a then 2 else if z 8 = 8 then 3 else 0
def z_holds (z : Nat → Int32) (w c : Nat) (a : Int32) : Nat → Int32 :=
  va_up (va_up (va_up (va_up (va_up (va_up z 8 (z 8 + 1)) (96 + 5 * z_n (z 8)) (nI w)) (96 + 5 * z_n (z 8) + 1) (nI c)) (96 + 5 * z_n (z 8) + 2) a) (96 + 5 * z_n (z 8) + 3) (z_tip z a)) (96 + 5 * z_n (z 8) + 4) (z 4)
def z_drop (z : Nat → Int32) (j : Nat) : Nat → Int32 := fun q => if 96 + 5 * j ≤ q ∧ q + 5 < 96 + 5 * z_n (z 8) then z (q + 5) else if q = 8 then z 8 - 1 else z q
def z_canDis (z : Nat → Int32) (p : Nat) : Prop := z (136 + 5 * p + 4) = 0 ∧ z 4 ≤ z (136 + 5 * p + 3) + 30
def z_shift (hi : Nat → Int32) : Nat → Int32 := fun q => if q < 980 then hi (q + 196) else hi q
def z_store (hi z : Nat → Int32) (s : Nat) : Nat → Int32 := fun q => if 196 * s ≤ q ∧ q < 196 * s + 196 then z (q - 196 * s) else hi q
def z_saveH (hi z : Nat → Int32) (s : Nat) : Nat → Int32 := if s = 6 then z_store (z_shift hi) z 5 else z_store hi z s
def z_saveN (s : Nat) : Nat := if s = 6 then 6 else s + 1
def z_taken (z : Nat → Int32) (w c : Nat) (a : Int32) : Int32 := if z_free z w c < a then z_free z w c else a
def z_back (z : Nat → Int32) (w c : Nat) (a : Int32) : Nat → Int32 := va_up (va_up z (z_at w c) (z (z_at w c) - z_taken z w c a)) (z_at w c + 1) ((va_up z (z_at w c) (z (z_at w c) - z_taken z w c a)) (z_at w c + 1) + (a - z_taken z w c a))
def z_hasH (z : Nat → Int32) (w : Nat) : Nat → Bool
  | 0 => false
  | i + 1 => z_hasH z w i || decide (z (96 + 5 * i) = nI w)
def z_hasD (z : Nat → Int32) (w : Nat) : Nat → Bool
  | 0 => false
  | i + 1 => z_hasD z w i || decide (z (136 + 5 * i) = nI w ∧ z (136 + 5 * i + 4) = 1)
def z_hasB (z : Nat → Int32) (w : Nat) : Nat → Bool
  | 0 => false
  | i + 1 => z_hasB z w i || decide (0 < z (z_at w i + 1))
def z_whyClose (z : Nat → Int32) (w : Nat) : Int32 := if z_hasH z w (z_n (z 8)) = true then 4 else if z_hasD z w (z_n (z 9)) = true then 5 else if z_hasB z w 4 = true then 6 else 0
def z_close1 (z : Nat → Int32) (w c : Nat) : Nat → Int32 := va_up (if 0 < z (z_at w c) then z_ex z w c 0 (z (z_at w c)) else z) (z_at w c + 2) 0
def z_close3 (z : Nat → Int32) (w : Nat) : Nat → Int32 := z_close1 (z_close1 (z_close1 z w 1) w 2) w 3
def z_closes (z : Nat → Int32) (w : Nat) : Nat → Int32 := va_up (va_up (z_close3 z w) (z_at w 0) 0) 11 ((va_up (z_close3 z w) (z_at w 0) 0) 11 + z_close3 z w (z_at w 0))
def z_sweep : Nat → (Nat → Int32) → Int32 → (Nat → Int32) × Int32
  | 0, z, g => (z, g)
  | i + 1, z, g => if z 3 < z 4 - z (96 + 5 * i + 4) then z_sweep i (z_drop z i) (g + 1) else z_sweep i z g
def z_day (z : Nat → Int32) : (Nat → Int32) × Int32 := z_sweep (z_n (z 8)) (va_up z 4 (z 4 + 1)) 0
def z_days (z : Nat → Int32) : Nat → (Nat → Int32) × Int32
  | 0 => (z, 0)
  | d + 1 => ((z_day (z_days z d).1).1, (z_days z d).2 + (z_day (z_days z d).1).2)
def z_credit (z : Nat → Int32) (w c : Nat) : Nat → Int32
  | 0 => 0
  | i + 1 => z_credit z w c i + (if (z (136 + 5 * i) = nI w ∧ z (136 + 5 * i + 1) = nI c) ∧ z (136 + 5 * i + 4) = 1 then z (136 + 5 * i + 2) else 0)
def z_disputed (z : Nat → Int32) : Nat → Int32
  | 0 => 0
  | i + 1 => z_disputed z i + (if z (136 + 5 * i + 4) = 1 then 1 else 0)
def z_shT (hi : Nat → Int32) (i : Nat) : Nat → Int32 := fun q => if q + 196 < i then hi (q + 196) else hi q
def z_stT (hi z : Nat → Int32) (s i : Nat) : Nat → Int32 := fun q => if 196 * s ≤ q ∧ q < 196 * s + i then z (q - 196 * s) else hi q
theorem va_up_eq {α : Type} (f : Nat → α) (k : Nat) (v : α) : va_up f k v k = v := if_pos rfl
theorem va_up_ne' {α : Type} (f : Nat → α) {k j : Nat} (v : α) (h : j ≠ k) : va_up f k v j = f j := if_neg h
theorem z_shT0 (hi : Nat → Int32) : z_shT hi 196 = hi := funext fun q => if_neg (by omega)
set_option maxRecDepth 4000 in
theorem z_shT1 (hi : Nat → Int32) {i : Nat} (h : 196 ≤ i) : va_up (z_shT hi i) (i - 196) (z_shT hi i i) = z_shT hi (i + 1) := by
  obtain ⟨j, rfl⟩ : ∃ j, i = j + 196 := ⟨i - 196, by omega⟩
  have e1 : j + 196 - 196 = j := by omega
  rw [e1]
  funext q
  have e2 : z_shT hi (j + 196) (j + 196) = hi (j + 196) := if_neg (by omega)
  rw [e2]
  by_cases hq : q = j
  · rw [hq, va_up_eq]
    exact (if_pos (by omega)).symm
  · rw [va_up_ne' _ _ hq]
    unfold z_shT
    by_cases h2 : q + 196 < j + 196
    · rw [if_pos h2, if_pos (by omega)]
    · rw [if_neg h2, if_neg (by omega)]
theorem z_stT0 (hi z : Nat → Int32) (s : Nat) : z_stT hi z s 0 = hi := funext fun q => if_neg (by omega)
theorem z_stT1 (hi z : Nat → Int32) (s i : Nat) : va_up (z_stT hi z s i) (196 * s + i) (z i) = z_stT hi z s (i + 1) := by
  funext q
  by_cases hq : q = 196 * s + i
  · subst hq
    rw [va_up_eq]
    unfold z_stT
    rw [if_pos (by omega), Nat.add_sub_cancel_left]
  · rw [va_up_ne' _ _ hq]
    unfold z_stT
    by_cases h2 : 196 * s ≤ q ∧ q < 196 * s + i
    · rw [if_pos h2, if_pos (by omega)]
    · rw [if_neg h2, if_neg (by omega)]
def z_dropT (z : Nat → Int32) (j i : Nat) : Nat → Int32 := fun q => if 96 + 5 * j ≤ q ∧ q < i then z (q + 5) else z q
theorem z_dropT0 (z : Nat → Int32) (j : Nat) : z_dropT z j (96 + 5 * j) = z := funext fun q => if_neg (by omega)
theorem z_dropT1 (z : Nat → Int32) {j i : Nat} (h : 96 + 5 * j ≤ i) : va_up (z_dropT z j i) i (z_dropT z j i (i + 5)) = z_dropT z j (i + 1) := by
  funext q
  by_cases hq : q = i
  · subst hq
    rw [va_up_eq]
    unfold z_dropT
    rw [if_neg (by omega), if_pos (by omega)]
  · rw [va_up_ne' _ _ hq]
    unfold z_dropT
    by_cases h2 : 96 + 5 * j ≤ q ∧ q < i
    · rw [if_pos h2, if_pos (by omega)]
    · rw [if_neg h2, if_neg (by omega)]
theorem z_rate0 (z : Nat → Int32) (w : Nat) : ¬ (z_rate z w 0).toInt64 = 0 := by
  unfold z_rate
  rw [if_pos rfl]
  decide
theorem z_drop_eq (z : Nat → Int32) {j N : Nat} (hz8 : z 8 = nI N) (hN : N ≤ 8) (hj : j < N) : z_dropT (va_up z 8 (z 8 - 1)) j (96 + 5 * (N - 1)) = z_drop z j := by
  funext q
  unfold z_dropT z_drop
  rw [hz8, z_nI (by omega)]
  by_cases h1 : 96 + 5 * j ≤ q ∧ q < 96 + 5 * (N - 1)
  · rw [if_pos h1, if_pos (by omega), va_up_ne' _ _ (by omega)]
  · rw [if_neg h1, if_neg (by omega)]
    by_cases h2 : q = 8
    · subst h2
      rw [va_up_eq, if_pos rfl]
    · rw [va_up_ne' _ _ h2, if_neg h2]
set_option maxRecDepth 4000 in
theorem z_shT_end (hi : Nat → Int32) : z_shT hi 1176 = z_shift hi := by
  unfold z_shT z_shift
  funext q
  by_cases q1 : q < 980
  · rw [if_pos q1, if_pos (by omega)]
  · rw [if_neg q1, if_neg (by omega)]
theorem va_c1 {z : Nat → Int32} {k : Nat} {v : Int32} (j : Nat) (h : j ≠ k) : va_up z k v j = z j := if_neg h
theorem z_holds_eq {z : Nat → Int32} {w c N : Nat} {a : Int32} (hz8 : z 8 = nI N) (hN : N < 8) :
    let z4 := va_up (va_up (va_up (va_up z 8 (z 8 + 1)) (96 + 5 * N + 0) (nI w)) (96 + 5 * N + 1) (nI c)) (96 + 5 * N + 2) a
    let z5 := va_up z4 (96 + 5 * N + 3) (z_tip z4 a)
    va_up z5 (96 + 5 * N + 4) (z5 4) = z_holds z w c a := by
  intro z4 z5
  have e2 : z4 2 = z 2 := by
    show va_up _ _ _ 2 = _
    rw [va_c1 2 (by omega), va_c1 2 (by omega), va_c1 2 (by omega), va_c1 2 (by omega)]
  have e4 : z5 4 = z 4 := by
    show va_up _ _ _ 4 = _
    rw [va_c1 4 (by omega)]
    show va_up _ _ _ 4 = _
    rw [va_c1 4 (by omega), va_c1 4 (by omega), va_c1 4 (by omega), va_c1 4 (by omega)]
  have et : z_tip z4 a = z_tip z a := by unfold z_tip; rw [e2]
  have e5 : z5 = va_up z4 (96 + 5 * N + 3) (z_tip z a) := by rw [← et]
  rw [e4, e5]
  unfold z_holds
  rw [hz8, z_nI (by omega), ← hz8]
  rfl
theorem z_holds_8 {z : Nat → Int32} {w c N : Nat} {a : Int32} (hz8 : z 8 = nI N) (hN : N < 8) : z_holds z w c a 8 - 1 = z 8 := by
  unfold z_holds
  rw [hz8, z_nI (by omega), va_c1 8 (by omega), va_c1 8 (by omega), va_c1 8 (by omega), va_c1 8 (by omega), va_c1 8 (by omega), va_up_eq, tp_1 N]
  exact tp_sub (a := N + 1) (b := 1) (by omega)
