/-! THE CLASS'S ROW AGAINST THE REFERENCE'S: values alone -/
theorem va_comm {α : Type} {f : Nat → α} {i j : Nat} {v w : α} (h : i ≠ j) : va_up (va_up f i v) j w = va_up (va_up f j w) i v := by
  funext q
  by_cases hi : q = i
  · subst hi
    rw [va_up_ne' _ _ h, va_up_eq, va_up_eq]
  · by_cases hj : q = j
    · subst hj
      rw [va_up_eq, va_up_ne' _ _ hi, va_up_eq]
    · rw [va_up_ne' _ _ hj, va_up_ne' _ _ hi, va_up_ne' _ _ hi, va_up_ne' _ _ hj]
theorem z_in_eq (z : Nat → Int32) (w c : Nat) (m : Int32) : z_in z w c m = va_up (va_up (va_up z (z_at w c + 1) (z (z_at w c + 1) - z_paid z w c m)) 15 (z 15 + z_paid z w c m)) (z_at w c) (z (z_at w c) + (m - z_paid z w c m)) := by
  have h1 : z_at w c ≠ 15 := by unfold z_at; omega
  have h2 : (15 : Nat) ≠ z_at w c + 1 := by unfold z_at; omega
  have h3 : z_at w c ≠ z_at w c + 1 := by omega
  unfold z_in
  rw [va_up_ne' _ _ h1, va_up_ne' _ _ h3, va_up_ne' _ _ h2]
theorem z_in_up {z : Nat → Int32} {w c : Nat} {m v : Int32} {q : Nat} (h1 : q ≠ z_at w c) (h2 : q ≠ z_at w c + 1) (h3 : q ≠ 15) : z_in (va_up z q v) w c m = va_up (z_in z w c m) q v := by
  have e : z_paid (va_up z q v) w c m = z_paid z w c m := by
    unfold z_paid
    rw [va_up_ne' _ _ (Ne.symm h2)]
  rw [z_in_eq, z_in_eq, e, va_up_ne' _ _ (Ne.symm h2), va_up_ne' _ _ (Ne.symm h3), va_up_ne' _ _ (Ne.symm h1), va_comm h2, va_comm h3, va_comm h1]
theorem z_loads_eq (z : Nat → Int32) (w : Nat) (a : Int32) : z_loads z w a = k_load z w a := by
  unfold z_loads k_load
  rw [z_in_up (by unfold z_at; omega) (by unfold z_at; omega) (by omega), z_in_fr (by unfold z_at; omega) (by unfold z_at; omega) (by omega)]
/-- an exchange that brings m, with the spread s -/
def z_cv (u : Nat → Int32) (w f t : Nat) (a m s : Int32) : Nat → Int32 :=
  z_in (va_up (k_conv1 u t s) (z_at w f) (k_conv1 u t s (z_at w f) - a)) w t m
theorem k_conv_cv (u : Nat → Int32) (w f t : Nat) (a : Int32) : k_conv u w f t a = z_cv u w f t a (k_net u w f t a) (k_spread u (k_gross u w f t a)) := rfl
theorem z_cv_eq (u : Nat → Int32) (w f t : Nat) (a m s : Int32) : z_cv u w f t a m s = va_up (va_up (z_in (va_up u (z_at w f) (u (z_at w f) - a)) w t m) 12 (u 12 + 1)) (if t = 0 then 13 else 14) (u (if t = 0 then 13 else 14) + s) := by
  unfold z_cv k_conv1
  generalize hX : (if t = 0 then 13 else 14) = X
  have hX1 : X = 13 ∨ X = 14 := by
    rw [← hX]; split
    · exact Or.inl rfl
    · exact Or.inr rfl
  have a1 : z_at w f ≠ X := by unfold z_at; omega
  have a2 : z_at w f ≠ 12 := by unfold z_at; omega
  rw [va_up_ne' _ _ a1, va_up_ne' _ _ a2, va_up_ne' _ _ (show X ≠ 12 by omega), va_comm (Ne.symm a1), va_comm (Ne.symm a2), z_in_up (by unfold z_at; omega) (by unfold z_at; omega) (by omega), z_in_up (by unfold z_at; omega) (by unfold z_at; omega) (by omega)]
theorem z_ex_cv (z : Nat → Int32) (w f t : Nat) (a : Int32) : z_ex z w f t a = z_cv z w f t a (z_brings z w f t a) (z_spread z (z_given z w f t a)) := by
  rw [z_cv_eq]
  unfold z_ex
  dsimp only
  generalize hX : (if t = 0 then 13 else 14) = X
  have hX1 : X = 13 ∨ X = 14 := by
    rw [← hX]; split
    · exact Or.inl rfl
    · exact Or.inr rfl
  rw [va_up_ne' _ _ (show X ≠ 12 by omega), z_in_fr (q := 12) (by unfold z_at; omega) (by unfold z_at; omega) (by omega), z_in_fr (q := X) (by unfold z_at; omega) (by unfold z_at; omega) (by omega), va_up_ne' _ _ (show 12 ≠ z_at w f by unfold z_at; omega), va_up_ne' _ _ (show X ≠ z_at w f by unfold z_at; omega)]
/-- what a fold over the live rows needs -/
theorem z_kept_cg {u z : Nat → Int32} {w c : Nat} : ∀ n, (∀ q, 96 ≤ q → q < 96 + 5 * n → u q = z q) → z_kept u w c n = z_kept z w c n
  | 0, _ => rfl
  | n + 1, h => by
    unfold z_kept
    rw [z_kept_cg n (fun q h1 h2 => h q h1 (by omega)), h _ (by omega) (by omega), h _ (by omega) (by omega), h _ (by omega) (by omega)]
theorem z_hasH_cg {u z : Nat → Int32} {w : Nat} : ∀ n, (∀ q, 96 ≤ q → q < 96 + 5 * n → u q = z q) → z_hasH u w n = z_hasH z w n
  | 0, _ => rfl
  | n + 1, h => by
    unfold z_hasH
    rw [z_hasH_cg n (fun q h1 h2 => h q h1 (by omega)), h _ (by omega) (by omega)]
theorem z_hasD_cg {u z : Nat → Int32} {w : Nat} : ∀ n, (∀ q, 136 ≤ q → q < 136 + 5 * n → u q = z q) → z_hasD u w n = z_hasD z w n
  | 0, _ => rfl
  | n + 1, h => by
    unfold z_hasD
    rw [z_hasD_cg n (fun q h1 h2 => h q h1 (by omega)), h _ (by omega) (by omega), h _ (by omega) (by omega)]
theorem z_hasB_cg {u z : Nat → Int32} {w : Nat} : ∀ n, (∀ c, c < n → u (z_at w c + 1) = z (z_at w c + 1)) → z_hasB u w n = z_hasB z w n
  | 0, _ => rfl
  | n + 1, h => by
    unfold z_hasB
    rw [z_hasB_cg n (fun q h1 => h q (by omega)), h n (by omega)]
theorem z_credit_cg {u z : Nat → Int32} {w c : Nat} : ∀ n, (∀ q, 136 ≤ q → q < 136 + 5 * n → u q = z q) → z_credit u w c n = z_credit z w c n
  | 0, _ => rfl
  | n + 1, h => by
    unfold z_credit
    rw [z_credit_cg n (fun q h1 h2 => h q h1 (by omega)), h _ (by omega) (by omega), h _ (by omega) (by omega), h _ (by omega) (by omega), h _ (by omega) (by omega)]
theorem z_disputed_cg {u z : Nat → Int32} : ∀ n, (∀ q, 136 ≤ q → q < 136 + 5 * n → u q = z q) → z_disputed u n = z_disputed z n
  | 0, _ => rfl
  | n + 1, h => by
    unfold z_disputed
    rw [z_disputed_cg n (fun q h1 h2 => h q h1 (by omega)), h _ (by omega) (by omega)]
theorem k_paid_cg {u z : Nat → Int32} {w c : Nat} : ∀ n, (∀ q, 136 ≤ q → q < 136 + 5 * n → (q - 136) % 5 < 3 → u q = z q) → k_paid u w c n = k_paid z w c n
  | 0, _ => rfl
  | n + 1, h => by
    unfold k_paid
    rw [k_paid_cg n (fun q h1 h2 h3 => h q h1 (by omega) h3), h _ (by omega) (by omega) (by omega), h _ (by omega) (by omega) (by omega), h _ (by omega) (by omega) (by omega)]
/-- THE RELATION -/
def zr (N P : Nat) (u z : Nat → Int32) : Prop :=
  ((z 8 = nI N ∧ N ≤ 8) ∧ (z 9 = nI P ∧ P ≤ 12)) ∧ (∀ q, q < 16 → u q = z q) ∧
  (∀ w c, w < 4 → c < 4 → (u (z_at w c) = z (z_at w c) ∧ u (z_at w c + 1) = z (z_at w c + 1)) ∧ (u (z_at w c + 3) = (if 0 < z (z_at w c + 2) then z (z_at w c + 3) else -1) ∧ (0 < z (z_at w c + 2) → u (z_at w c + 2) = z (z_at w c + 2))) ∧ z (z_at w c + 4) = k_paid z w c P) ∧
  (∀ q, 96 ≤ q → q < 96 + 5 * N → u q = z q) ∧ ∀ q, 136 ≤ q → q < 136 + 5 * P → u q = z q
section ZR
variable {N P : Nat} {u z : Nat → Int32}
theorem zr.z8 (h : zr N P u z) : z 8 = nI N := h.1.1.1
theorem zr.n8 (h : zr N P u z) : N ≤ 8 := h.1.1.2
theorem zr.z9 (h : zr N P u z) : z 9 = nI P := h.1.2.1
theorem zr.n9 (h : zr N P u z) : P ≤ 12 := h.1.2.2
theorem zr.hd (h : zr N P u z) {q : Nat} (hq : q < 16) : u q = z q := h.2.1 q hq
theorem zr.u8 (h : zr N P u z) : u 8 = nI N := (h.hd (by omega)).trans h.z8
theorem zr.u9 (h : zr N P u z) : u 9 = nI P := (h.hd (by omega)).trans h.z9
theorem zr.ba (h : zr N P u z) {w c : Nat} (hw : w < 4) (hc : c < 4) : u (z_at w c) = z (z_at w c) := (h.2.2.1 w c hw hc).1.1
theorem zr.de (h : zr N P u z) {w c : Nat} (hw : w < 4) (hc : c < 4) : u (z_at w c + 1) = z (z_at w c + 1) := (h.2.2.1 w c hw hc).1.2
theorem zr.ho (h : zr N P u z) {q : Nat} (h1 : 96 ≤ q) (h2 : q < 96 + 5 * N) : u q = z q := h.2.2.2.1 q h1 h2
theorem zr.pa (h : zr N P u z) {q : Nat} (h1 : 136 ≤ q) (h2 : q < 136 + 5 * P) : u q = z q := h.2.2.2.2 q h1 h2
/-- both rows changed alike, where nothing depends on it -/
theorem zr.up (h : zr N P u z) {q : Nat} {v : Int32} (h1 : q < 96 → q ≠ 8 ∧ q ≠ 9 ∧ (16 ≤ q → (q - 16) % 5 < 2)) (h2 : 136 ≤ q → 3 ≤ (q - 136) % 5) : zr N P (va_up u q v) (va_up z q v) := by
  have f : ∀ j, u j = z j → va_up u q v j = va_up z q v j := fun j e => by
    by_cases hj : j = q
    · subst hj; rw [va_up_eq, va_up_eq]
    · rw [va_up_ne' _ _ hj, va_up_ne' _ _ hj, e]
  have g : ∀ (f : Nat → Int32) j, j ≠ q → va_up f q v j = f j := fun f j hj => va_up_ne' _ _ hj
  refine ⟨⟨⟨?_, h.n8⟩, ?_, h.n9⟩, fun j hj => f j (h.hd hj), fun w c hw hc => ?_, fun j j1 j2 => f j (h.ho j1 j2), fun j j1 j2 => f j (h.pa j1 j2)⟩
  · rw [g z 8 (by omega)]; exact h.z8
  · rw [g z 9 (by omega)]; exact h.z9
  · obtain ⟨⟨b1, b2⟩, ⟨b3, b4⟩, b5⟩ := h.2.2.1 w c hw hc
    have e2 : z_at w c + 2 ≠ q := by unfold z_at; omega
    have e3 : z_at w c + 3 ≠ q := by unfold z_at; omega
    have e4 : z_at w c + 4 ≠ q := by unfold z_at; omega
    refine ⟨⟨f _ b1, f _ b2⟩, ⟨?_, ?_⟩, ?_⟩
    · rw [g u _ e3, g z _ e2, g z _ e3]; exact b3
    · rw [g u _ e2, g z _ e2]; exact b4
    · rw [g z _ e4, b5]
      exact (k_paid_cg P fun j j1 j2 j3 => g z j (fun e => by subst e; have := h2 j1; omega)).symm
theorem zr.in (h : zr N P u z) {w c : Nat} (hw : w < 4) (hc : c < 4) (m : Int32) : zr N P (z_in u w c m) (z_in z w c m) := by
  have ep : z_paid u w c m = z_paid z w c m := by unfold z_paid; rw [h.de hw hc]
  rw [z_in_eq, z_in_eq, ep, h.de hw hc, h.ba hw hc, h.hd (show 15 < 16 by omega)]
  refine ((h.up ?_ ?_).up ?_ ?_).up ?_ ?_ <;> (first | omega | (unfold z_at; omega))
theorem zr.kept (h : zr N P u z) (w c : Nat) : z_kept u w c (z_n (u 8)) = z_kept z w c (z_n (z 8)) := by
  rw [h.u8, h.z8, z_nI (by have := h.n8; omega)]
  exact z_kept_cg N fun q h1 h2 => h.ho h1 h2
theorem zr.free (h : zr N P u z) {w c : Nat} (hw : w < 4) (hc : c < 4) : z_free u w c = z_free z w c := by
  unfold z_free
  rw [h.kept, h.ba hw hc]
theorem zr.tip (h : zr N P u z) (a : Int32) : z_tip u a = z_tip z a := by
  unfold z_tip
  rw [h.hd (by omega)]
theorem zr.whyEx (h : zr N P u z) {w f t : Nat} (hw : w < 4) (hf : f < 4) (a : Int32) : z_whyEx u w f t a = z_whyEx z w f t a := by
  unfold z_whyEx
  rw [h.free hw hf]
theorem zr.whyHold (h : zr N P u z) {w c : Nat} (hw : w < 4) (hc : c < 4) (a : Int32) : z_whyHold u w c a = z_whyHold z w c a := by
  unfold z_whyHold
  rw [h.free hw hc, h.tip, h.hd (show 8 < 16 by omega)]
theorem zr.whyClose (h : zr N P u z) {w : Nat} (hw : w < 4) : z_whyClose u w = z_whyClose z w := by
  have h8 := h.n8
  have h9 := h.n9
  unfold z_whyClose
  rw [h.u8, h.z8, h.u9, h.z9, z_nI (by omega), z_nI (by omega), z_hasH_cg N fun q h1 h2 => h.ho h1 h2, z_hasD_cg P fun q h1 h2 => h.pa h1 h2, z_hasB_cg 4 fun c hc => h.de hw hc]
theorem zr.share (h : zr N P u z) {w c : Nat} (hw : w < 4) (hc : c < 4) : z_share u w c = z_share z w c := by
  unfold z_share
  rw [h.kept, h.ba hw hc]
theorem zr.count (h : zr N P u z) (st : Int32) (j : Nat) : z_count u st j = z_count z st j := by
  have h9 := h.n9
  have e3 : z_disputed u (z_n (u 9)) = z_disputed z (z_n (z 9)) := by
    rw [h.u9, h.z9, z_nI (by omega)]
    exact z_disputed_cg P fun q h1 h2 => h.pa h1 h2
  unfold z_count
  split
  all_goals first | exact h.hd (by omega) | exact e3 | rfl
end ZR
