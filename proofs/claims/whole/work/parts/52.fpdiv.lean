theorem fp_i2d {a : Nat} (h0 : 0 < a) (h : a < 2 ^ 31) : ∃ k, k ≤ 30 ∧ 2 ^ k ≤ a ∧ a < 2 ^ (k + 1) ∧ 2 ^ 52 ≤ a * 2 ^ (52 - k) ∧ a * 2 ^ (52 - k) < 2 ^ 53 ∧ FP.i2d (nI a) = fpX (k + 1023) (a * 2 ^ (52 - k) - 2 ^ 52) := by
  obtain ⟨k, hk⟩ : ∃ k, a.log2 = k := ⟨_, rfl⟩
  have hne : a ≠ 0 := by omega
  have k1 : 2 ^ k ≤ a := (Nat.le_log2 hne).mp (by omega)
  have k2 : a < 2 ^ (k + 1) := (Nat.log2_lt hne).mp (by omega)
  have k3 : k ≤ 30 := by
    have : a.log2 < 31 := (Nat.log2_lt hne).mpr h
    omega
  have hp := Nat.two_pow_pos (52 - k)
  have g1 : 2 ^ 52 ≤ a * 2 ^ (52 - k) := by
    have e : 2 ^ 52 = 2 ^ k * 2 ^ (52 - k) := by rw [← Nat.pow_add]; congr 1; omega
    rw [e]
    exact Nat.mul_le_mul_right _ k1
  have g2 : a * 2 ^ (52 - k) < 2 ^ 53 := by
    have e : 2 ^ 53 = 2 ^ (k + 1) * 2 ^ (52 - k) := by rw [← Nat.pow_add]; congr 1; omega
    rw [e]
    exact Nat.mul_lt_mul_of_pos_right k2 hp
  refine ⟨k, k3, k1, k2, g1, g2, ?_⟩
  show UInt64.ofNat (FP.Core.encode fpF (FP.Core.roundRatio fpF (decide ((nI a).toInt < 0)) (nI a).toInt.natAbs 1 0)) = _
  rw [nI_toInt h, decide_eq_false (by omega), Int.natAbs_natCast]
  have r2 := fp_R2 (s := false) (n := a) (a := 52 - k) (q := (k : Int) - 52) g1 g2 (by omega) (by omega) (by omega)
  rw [show (k : Int) - 52 + ((52 - k : Nat) : Int) = 0 by omega] at r2
  rw [r2, fp_encX g1 g2 (by omega), show ((k : Int) - 52 + 1075).toNat = k + 1023 by omega]
theorem fp_nearB {n d lo hi : Nat} (hd : 0 < d) (h1 : lo * d ≤ n) (h2 : n < hi * d) : lo ≤ FP.Core.nearest n d ∧ FP.Core.nearest n d ≤ hi := by
  have a : lo ≤ n / d := (Nat.le_div_iff_mul_le hd).mpr h1
  have b : n / d < hi := (Nat.div_lt_iff_lt_mul hd).mpr h2
  unfold FP.Core.nearest
  split
  · omega
  · split
    · omega
    · omega
/-- a ratio, rounded: between 2^(e - 1) and 2^e -/
theorem fp_ratio {c d s : Nat} {e : Int} (hd : 0 < d) (hc : 0 < c) (hs : s = 52 ∨ s = 53) (hL : FP.Core.leading c d = 52 - (s : Int)) (h1 : 2 ^ 52 * d ≤ c * 2 ^ s) (h2 : c * 2 ^ s < 2 ^ 53 * d) (he : -100 ≤ e ∧ e ≤ 0) (hx : s = 52 → e = 0 → c = d) :
    ∃ e' t, 1 ≤ e' ∧ e' ≤ 1023 ∧ t < 2 ^ 52 ∧ UInt64.ofNat (FP.Core.encode fpF (FP.Core.roundRatio fpF false c d e)) = fpX e' t := by
  have hQ : FP.Core.quantum fpF c d e = e - s := by
    unfold FP.Core.quantum
    rw [hL, fp_qmin, fp_p]
    omega
  obtain ⟨n1, n2⟩ := fp_nearB hd h1 h2
  have hr : FP.Core.roundRatio fpF false c d e = FP.Core.settle fpF false (FP.Core.nearest (c * 2 ^ s) d) (e - s) := by
    unfold FP.Core.roundRatio
    rw [if_neg (by omega), hQ]
    unfold FP.Core.roundAt FP.Core.unitsNum FP.Core.unitsDen
    rw [show (e - (e - (s : Int))).toNat = s by omega, show (e - (s : Int) - e).toNat = 0 by omega, Nat.pow_zero, Nat.mul_one]
  rw [hr]
  by_cases hn : FP.Core.nearest (c * 2 ^ s) d < 2 ^ 53
  · rw [fp_settle hn (by omega), fp_encX n1 hn (by omega)]
    exact ⟨_, _, by omega, by omega, by omega, rfl⟩
  · have hq : FP.Core.settle fpF false (FP.Core.nearest (c * 2 ^ s) d) (e - s) = .fin false (2 ^ 52) (e - s + 1) := by
      unfold FP.Core.settle FP.Core.bound
      rw [fp_p, if_neg hn, fp_qmax, if_pos (by omega), fp_tails]
    rw [hq, fp_encX (Nat.le_refl _) (by decide) (by omega)]
    refine ⟨_, _, by omega, ?_, by omega, rfl⟩
    by_cases hb : s = 52 ∧ e = 0
    · exfalso
      have e1 := hx hb.1 hb.2
      rw [hb.1, e1, Nat.mul_comm] at hn
      apply hn
      have : FP.Core.nearest (2 ^ 52 * d) d = 2 ^ 52 := by
        unfold FP.Core.nearest
        rw [Nat.mul_mod_left, Nat.mul_div_cancel _ hd, if_pos (by omega)]
      rw [this]
      decide
    · omega
theorem fp_lead {c d : Nat} (c1 : 2 ^ 52 ≤ c) (c2 : c < 2 ^ 53) (d1 : 2 ^ 52 ≤ d) (d2 : d < 2 ^ 53) : FP.Core.leading c d = if d ≤ c then 0 else -1 := by
  unfold FP.Core.leading
  rw [fp_log c1 c2, fp_log d1 d2]
  show (if d * 2 ^ (((52 : Nat) : Int) - ((52 : Nat) : Int)).toNat ≤ c * 2 ^ (-(((52 : Nat) : Int) - ((52 : Nat) : Int))).toNat then ((52 : Nat) : Int) - ((52 : Nat) : Int) else ((52 : Nat) : Int) - ((52 : Nat) : Int) - 1) = _
  rw [show (((52 : Nat) : Int) - ((52 : Nat) : Int)).toNat = 0 by omega, show (-(((52 : Nat) : Int) - ((52 : Nat) : Int))).toNat = 0 by omega, Nat.pow_zero, Nat.mul_one, Nat.mul_one]
  by_cases h : d ≤ c
  · rw [if_pos h, if_pos h]; omega
  · rw [if_neg h, if_neg h]; omega
theorem fp_div {a b : Nat} (h0 : 0 < a) (hab : a ≤ b) (hb : b < 2 ^ 31) : ∃ e t, 1 ≤ e ∧ e ≤ 1023 ∧ t < 2 ^ 52 ∧ FP.ddiv (FP.i2d (nI a)) (FP.i2d (nI b)) = fpX e t := by
  obtain ⟨ka, a1, a2, a3, a4, a5, a6⟩ := fp_i2d h0 (by omega : a < 2 ^ 31)
  obtain ⟨kb, b1, b2, b3, b4, b5, b6⟩ := fp_i2d (by omega : 0 < b) hb
  have hk : ka ≤ kb := by
    refine Decidable.byContradiction fun q => ?_
    have : 2 ^ (kb + 1) ≤ 2 ^ ka := Nat.pow_le_pow_right (by omega) (by omega)
    omega
  have hd : FP.ddiv (FP.i2d (nI a)) (FP.i2d (nI b)) = UInt64.ofNat (FP.Core.encode fpF (FP.Core.roundRatio fpF false (a * 2 ^ (52 - ka)) (b * 2 ^ (52 - kb)) ((ka : Int) - kb))) := by
    rw [a6, b6]
    show UInt64.ofNat (FP.Core.encode fpF (FP.Core.quotient fpF (FP.Core.decode fpF (fpX (ka + 1023) (a * 2 ^ (52 - ka) - 2 ^ 52)).toNat) (FP.Core.decode fpF (fpX (kb + 1023) (b * 2 ^ (52 - kb) - 2 ^ 52)).toNat))) = _
    rw [fp_decX (by omega) (by omega) (by omega), fp_decX (by omega) (by omega) (by omega), show 2 ^ 52 + (a * 2 ^ (52 - ka) - 2 ^ 52) = a * 2 ^ (52 - ka) by omega, show 2 ^ 52 + (b * 2 ^ (52 - kb) - 2 ^ 52) = b * 2 ^ (52 - kb) by omega]
    unfold FP.Core.quotient
    dsimp only
    rw [if_neg (by omega), show (((ka + 1023 : Nat) : Int) - 1075 - (((kb + 1023 : Nat) : Int) - 1075)) = (ka : Int) - kb by omega]
    rfl
  rw [hd]
  have hl := fp_lead a4 a5 b4 b5
  have hsame : ka = kb → a * 2 ^ (52 - ka) ≤ b * 2 ^ (52 - kb) := fun q => by rw [q]; exact Nat.mul_le_mul_right _ hab
  generalize a * 2 ^ (52 - ka) = c at hl hsame a4 a5 ⊢
  generalize b * 2 ^ (52 - kb) = d at hl hsame b4 b5 ⊢
  by_cases h : d ≤ c
  · rw [if_pos h] at hl
    refine fp_ratio (s := 52) (by omega) (by omega) (Or.inl rfl) (by rw [hl]; rfl) (by omega) (by omega) (by omega) (fun _ q => by have := hsame (by omega); omega)
  · rw [if_neg h] at hl
    refine fp_ratio (s := 53) (by omega) (by omega) (Or.inr rfl) (by rw [hl]; rfl) (by omega) (by omega) (by omega) (fun q => by omega)
theorem fp_div0 {b : Nat} (h0 : 0 < b) (hb : b < 2 ^ 31) : FP.ddiv (FP.i2d (nI 0)) (FP.i2d (nI b)) = 0 := by
  obtain ⟨kb, b1, b2, b3, b4, b5, b6⟩ := fp_i2d h0 hb
  rw [b6]
  show UInt64.ofNat (FP.Core.encode fpF (FP.Core.quotient fpF (FP.Core.decode fpF (FP.i2d (nI 0)).toNat) (FP.Core.decode fpF (fpX (kb + 1023) (b * 2 ^ (52 - kb) - 2 ^ 52)).toNat))) = _
  rw [fp_decX (by omega) (by omega) (by omega), show (FP.i2d (nI 0)).toNat = 0 by decide +kernel, fp_dec0]
  unfold FP.Core.quotient
  dsimp only
  rw [if_neg (by omega)]
  unfold FP.Core.roundRatio
  rw [if_pos rfl]
  exact fp_enc0
/-- a share: nothing, or a normal number of at most 1 -/
def z_shr (x : UInt64) : Prop := x = 0 ∨ ∃ e t, 1 ≤ e ∧ e ≤ 1023 ∧ t < 2 ^ 52 ∧ x = fpX e t
theorem z_shr_fin {x : UInt64} (h : z_shr x) : z_fin x := by
  rcases h with rfl | ⟨e, t, h1, h2, h3, rfl⟩
  · exact ⟨by unfold vf_n64; decide +kernel, by decide +kernel⟩
  · exact ⟨fp_n64 (by omega) h3, fp_cmpS h1 (by omega) h3⟩
theorem fp_share {a b : Nat} (h0 : 0 < b) (hab : a ≤ b) (hb : b < 2 ^ 31) : z_shr (FP.ddiv (FP.i2d (nI a)) (FP.i2d (nI b))) := by
  by_cases ha : a = 0
  · subst ha
    exact Or.inl (fp_div0 h0 hb)
  · exact Or.inr (fp_div (by omega) hab hb)
