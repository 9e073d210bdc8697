/-! doubles: normal numbers by exponent and fraction -/
abbrev fpF : FP.Core.Fmt := FP.Core.b64
theorem fp_qmin : fpF.qmin = -1074 := by decide +kernel
theorem fp_qmax : fpF.qmax = 971 := by decide +kernel
theorem fp_tails : fpF.tails = 2 ^ 52 := by decide +kernel
theorem fp_exps : fpF.exps = 2048 := by decide +kernel
theorem fp_p : fpF.p = 53 := rfl
def fpX (e t : Nat) : UInt64 := UInt64.ofNat (e * 2 ^ 52 + t)
theorem fpX_n {e t : Nat} (he : e ≤ 2046) (ht : t < 2 ^ 52) : (fpX e t).toNat = e * 2 ^ 52 + t := by
  unfold fpX
  rw [UInt64.toNat_ofNat']
  exact Nat.mod_eq_of_lt (by omega)
theorem fp_dec {e t : Nat} (h1 : 1 ≤ e) (he : e ≤ 2046) (ht : t < 2 ^ 52) : FP.Core.decode fpF (e * 2 ^ 52 + t) = .fin false (2 ^ 52 + t) ((e : Int) - 1075) := by
  have hE : FP.Core.fieldE fpF (e * 2 ^ 52 + t) = e := by
    unfold FP.Core.fieldE
    rw [fp_tails, fp_exps]
    omega
  have hT : FP.Core.fieldT fpF (e * 2 ^ 52 + t) = t := by
    unfold FP.Core.fieldT
    rw [fp_tails]
    omega
  have hS : FP.Core.fieldS fpF (e * 2 ^ 52 + t) = false := by
    unfold FP.Core.fieldS
    rw [fp_tails, fp_exps, show (e * 2 ^ 52 + t) / 2 ^ 52 / 2048 = 0 by omega]
    rfl
  unfold FP.Core.decode
  rw [hE, hT, hS, fp_exps, fp_tails, fp_qmin, if_neg (by omega), if_neg (by omega)]
  congr 1
  omega
theorem fp_decX {e t : Nat} (h1 : 1 ≤ e) (he : e ≤ 2046) (ht : t < 2 ^ 52) : FP.Core.decode fpF (fpX e t).toNat = .fin false (2 ^ 52 + t) ((e : Int) - 1075) := by rw [fpX_n he ht, fp_dec h1 he ht]
theorem fp_dec0 : FP.Core.decode fpF 0 = .fin false 0 (-1074) := by decide +kernel
theorem fp_enc {c : Nat} {q : Int} (h1 : 2 ^ 52 ≤ c) (h2 : c < 2 ^ 53) (q1 : -1074 ≤ q) : FP.Core.encode fpF (.fin false c q) = (q + 1075).toNat * 2 ^ 52 + (c - 2 ^ 52) := by
  unfold FP.Core.encode
  show (if c < fpF.tails then _ else _) = _
  rw [fp_tails, if_neg (by omega), fp_qmin]
  unfold FP.Core.assemble
  rw [fp_tails, fp_exps, show false.toNat = 0 from rfl, show (q - -1074).toNat + 1 = (q + 1075).toNat by omega]
  omega
theorem fp_encX {c : Nat} {q : Int} (h1 : 2 ^ 52 ≤ c) (h2 : c < 2 ^ 53) (q1 : -1074 ≤ q) : UInt64.ofNat (FP.Core.encode fpF (.fin false c q)) = fpX (q + 1075).toNat (c - 2 ^ 52) := by rw [fp_enc h1 h2 q1]; rfl
theorem fp_enc0 {q : Int} : UInt64.ofNat (FP.Core.encode fpF (.fin false 0 q)) = 0 := by
  unfold FP.Core.encode
  show UInt64.ofNat (if 0 < fpF.tails then _ else _) = _
  rw [fp_tails, if_pos (by omega)]
  rfl
theorem fp_log {n k : Nat} (h1 : 2 ^ k ≤ n) (h2 : n < 2 ^ (k + 1)) : n.log2 = k := by
  have hn : n ≠ 0 := by have := Nat.two_pow_pos k; omega
  have a : k ≤ n.log2 := (Nat.le_log2 hn).mpr h1
  have b : n.log2 < k + 1 := (Nat.log2_lt hn).mpr h2
  omega
theorem fp_near1 (c : Nat) : FP.Core.nearest c 1 = c := by
  unfold FP.Core.nearest
  rw [Nat.mod_one, Nat.div_one, if_pos (by omega)]
theorem fp_nearM (c a : Nat) : FP.Core.nearest (c * 2 ^ a) (2 ^ a) = c := by
  have hp := Nat.two_pow_pos a
  unfold FP.Core.nearest
  rw [Nat.mul_mod_left, Nat.mul_div_cancel _ hp, if_pos (by omega)]
theorem fp_lead1 {n k : Nat} (h1 : 2 ^ k ≤ n) (h2 : n < 2 ^ (k + 1)) : FP.Core.leading n 1 = k := by
  unfold FP.Core.leading
  have e1 : Nat.log2 1 = 0 := by decide +kernel
  rw [fp_log h1 h2, e1]
  show (if 1 * 2 ^ ((k : Int) - ((0 : Nat) : Int)).toNat ≤ n * 2 ^ (-((k : Int) - ((0 : Nat) : Int))).toNat then ((k : Int) - ((0 : Nat) : Int)) else _) = _
  have e2 : ((k : Int) - ((0 : Nat) : Int)).toNat = k := by omega
  have e3 : (-((k : Int) - ((0 : Nat) : Int))).toNat = 0 := by omega
  rw [e2, e3, if_pos (by omega)]
  omega
theorem fp_settle {s : Bool} {c : Nat} {q : Int} (h : c < 2 ^ 53) (hq : q ≤ 971) : FP.Core.settle fpF s c q = .fin s c q := by
  unfold FP.Core.settle FP.Core.bound
  rw [fp_p, if_pos h, fp_qmax, if_pos hq]
/-- c * 2^a in units of 2^(q - a) -/
theorem fp_R1 {s : Bool} {c a : Nat} {q : Int} (h1 : 2 ^ 52 ≤ c) (h2 : c < 2 ^ 53) (q1 : -1074 ≤ q) (q2 : q ≤ 971) : FP.Core.roundRatio fpF s (c * 2 ^ a) 1 (q - a) = .fin s c q := by
  have hp := Nat.two_pow_pos a
  have hl : FP.Core.leading (c * 2 ^ a) 1 = ((52 + a : Nat) : Int) := fp_lead1 (by rw [Nat.pow_add]; exact Nat.mul_le_mul_right _ h1) (by rw [show 52 + a + 1 = 53 + a by omega, Nat.pow_add]; exact Nat.mul_lt_mul_of_pos_right h2 hp)
  have hQ : FP.Core.quantum fpF (c * 2 ^ a) 1 (q - a) = q := by
    unfold FP.Core.quantum
    rw [hl, fp_qmin, fp_p]
    omega
  unfold FP.Core.roundRatio
  rw [if_neg (by have : c * 2 ^ a ≥ 1 := Nat.mul_pos (by omega) hp; omega), hQ]
  unfold FP.Core.roundAt FP.Core.unitsNum FP.Core.unitsDen
  rw [show (q - (a : Int) - q).toNat = 0 by omega, show (q - (q - (a : Int))).toNat = a by omega, Nat.pow_zero, Nat.mul_one, Nat.one_mul, fp_nearM, fp_settle h2 q2]
/-- n with c = n * 2^a -/
theorem fp_R2 {s : Bool} {n a : Nat} {q : Int} (h1 : 2 ^ 52 ≤ n * 2 ^ a) (h2 : n * 2 ^ a < 2 ^ 53) (ha : a ≤ 52) (q1 : -1074 ≤ q) (q2 : q ≤ 971) : FP.Core.roundRatio fpF s n 1 (q + a) = .fin s (n * 2 ^ a) q := by
  have hp := Nat.two_pow_pos a
  have e52 : 2 ^ 52 = 2 ^ (52 - a) * 2 ^ a := by rw [← Nat.pow_add]; congr 1; omega
  have e53 : 2 ^ 53 = 2 ^ (52 - a + 1) * 2 ^ a := by rw [← Nat.pow_add]; congr 1; omega
  have g1 : 2 ^ (52 - a) ≤ n := Nat.le_of_mul_le_mul_right (by rw [← e52]; exact h1) hp
  have g2 : n < 2 ^ (52 - a + 1) := Nat.lt_of_mul_lt_mul_right (by rw [← e53]; exact h2)
  have hl : FP.Core.leading n 1 = ((52 - a : Nat) : Int) := fp_lead1 g1 g2
  have hQ : FP.Core.quantum fpF n 1 (q + a) = q := by
    unfold FP.Core.quantum
    rw [hl, fp_qmin, fp_p]
    omega
  unfold FP.Core.roundRatio
  rw [if_neg (by have := Nat.two_pow_pos (52 - a); omega), hQ]
  unfold FP.Core.roundAt FP.Core.unitsNum FP.Core.unitsDen
  rw [show (q + (a : Int) - q).toNat = a by omega, show (q - (q + (a : Int))).toNat = 0 by omega, Nat.pow_zero, Nat.one_mul, fp_near1, fp_settle h2 q2]
theorem fp_mul2 {e t : Nat} (h1 : 1 ≤ e) (he : e ≤ 1022) (ht : t < 2 ^ 52) : FP.dmul (fpX e t) 4611686018427387904 = fpX (e + 1) t := by
  show UInt64.ofNat (FP.Core.encode fpF (FP.Core.round fpF (FP.Core.exactProduct (FP.Core.decode fpF (fpX e t).toNat) (FP.Core.decode fpF (4611686018427387904 : UInt64).toNat)))) = _
  rw [fp_decX h1 (by omega) ht, show (4611686018427387904 : UInt64).toNat = 1024 * 2 ^ 52 + 0 by decide +kernel, fp_dec (by omega) (by omega) (by omega)]
  show UInt64.ofNat (FP.Core.encode fpF (FP.Core.roundRatio fpF false ((2 ^ 52 + t) * (2 ^ 52 + 0)) 1 ((e : Int) - 1075 + (((1024 : Nat) : Int) - 1075)))) = _
  rw [show (2 ^ 52 + 0 : Nat) = 2 ^ 52 from rfl, show ((e : Int) - 1075 + (((1024 : Nat) : Int) - 1075)) = ((e : Int) + 1 - 1075) - ((52 : Nat) : Int) by omega, fp_R1 (by omega) (by omega) (by omega) (by omega), fp_encX (by omega) (by omega) (by omega)]
  rw [show ((e : Int) + 1 - 1075 + 1075).toNat = e + 1 by omega, show 2 ^ 52 + t - 2 ^ 52 = t by omega]
theorem fp_cmpI (a b : Int) : compare a b = if a < b then .lt else if a = b then .eq else .gt := rfl
theorem fp_cmp0 {e t : Nat} (h1 : 1 ≤ e) (he : e ≤ 1023) (ht : t < 2 ^ 52) : FP.dcmp (fpX e t) FP.dconst0 = some .gt := by
  show FP.Core.order (FP.Core.decode fpF (fpX e t).toNat) (FP.Core.decode fpF (FP.dconst0).toNat) = _
  rw [fp_decX h1 (by omega) ht, show (FP.dconst0).toNat = 0 from rfl, fp_dec0]
  show some (compare (FP.Core.signed false (FP.Core.inUnits (2 ^ 52 + t) _ _)) (FP.Core.signed false (FP.Core.inUnits 0 _ _))) = _
  congr 1
  unfold FP.Core.signed FP.Core.inUnits
  rw [Nat.zero_mul]
  have hp : 0 < (2 ^ 52 + t) * 2 ^ ((e : Int) - 1075 - min ((e : Int) - 1075) (-1074)).toNat := Nat.mul_pos (by omega) (Nat.two_pow_pos _)
  rw [if_neg Bool.false_ne_true, if_neg Bool.false_ne_true]
  rw [fp_cmpI, if_neg (fun q => by have := Int.ofNat_lt.mpr hp; omega), if_neg (fun q => by have := Int.ofNat_lt.mpr hp; omega)]
theorem fp_cmpS {e t : Nat} (h1 : 1 ≤ e) (he : e ≤ 2046) (ht : t < 2 ^ 52) : FP.dcmp (fpX e t) (fpX e t) = some .eq := by
  show FP.Core.order (FP.Core.decode fpF (fpX e t).toNat) (FP.Core.decode fpF (fpX e t).toNat) = _
  rw [fp_decX h1 he ht]
  show some (compare _ _) = _
  congr 1
  rw [fp_cmpI, if_neg (Int.lt_irrefl _), if_pos rfl]
theorem fp_cmp1 {e t : Nat} (h1 : 1 ≤ e) (he : e ≤ 1023) (ht : t < 2 ^ 52) : (e ≤ 1022 → FP.dcmp (fpX e t) FP.dconst1 = some .lt) ∧ (e = 1023 → FP.dcmp (fpX e t) FP.dconst1 = some .eq ∨ FP.dcmp (fpX e t) FP.dconst1 = some .gt) := by
  have key : FP.dcmp (fpX e t) FP.dconst1 = some (compare (((2 ^ 52 + t) * 2 ^ ((e : Int) - 1075 - ((e : Int) - 1075)).toNat : Nat) : Int) ((2 ^ 52 * 2 ^ (1023 - e) : Nat) : Int)) := by
    show FP.Core.order (FP.Core.decode fpF (fpX e t).toNat) (FP.Core.decode fpF (FP.dconst1).toNat) = _
    rw [fp_decX h1 (by omega) ht, show (FP.dconst1).toNat = 1023 * 2 ^ 52 + 0 by decide +kernel, fp_dec (by omega) (by omega) (by omega)]
    show some (compare (FP.Core.signed false (FP.Core.inUnits (2 ^ 52 + t) ((e : Int) - 1075) (min ((e : Int) - 1075) (((1023 : Nat) : Int) - 1075)))) (FP.Core.signed false (FP.Core.inUnits (2 ^ 52 + 0) (((1023 : Nat) : Int) - 1075) (min ((e : Int) - 1075) (((1023 : Nat) : Int) - 1075))))) = _
    rw [show min ((e : Int) - 1075) (((1023 : Nat) : Int) - 1075) = (e : Int) - 1075 by omega]
    unfold FP.Core.signed FP.Core.inUnits
    rw [show (((1023 : Nat) : Int) - 1075 - ((e : Int) - 1075)).toNat = 1023 - e by omega]
    rfl
  rw [key, show ((e : Int) - 1075 - ((e : Int) - 1075)).toNat = 0 by omega, Nat.pow_zero, Nat.mul_one]
  constructor
  · intro h
    have h2 : 2 ^ 1 ≤ 2 ^ (1023 - e) := Nat.pow_le_pow_right (by omega) (by omega)
    have h3 : 2 ^ 52 * 2 ^ 1 ≤ 2 ^ 52 * 2 ^ (1023 - e) := Nat.mul_le_mul_left _ h2
    rw [fp_cmpI, if_pos (Int.ofNat_lt.mpr (by omega))]
  · intro h
    rw [show 1023 - e = 0 by omega, Nat.pow_zero, Nat.mul_one, fp_cmpI, if_neg (fun q => by have := Int.ofNat_lt.mp q; omega)]
    by_cases h0 : t = 0
    · subst h0
      left
      rfl
    · right
      rw [if_neg (fun q => by have := Int.ofNat.inj q; omega)]
theorem fp_n64 {e t : Nat} (he : e ≤ 2046) (ht : t < 2 ^ 52) : vf_n64 (fpX e t) := by
  unfold vf_n64
  rw [UInt64.le_iff_toNat_le, UInt64.toNat_and]
  have h1 : (fpX e t).toNat &&& (0x7fffffffffffffff : UInt64).toNat ≤ (fpX e t).toNat := Nat.and_le_left
  rw [fpX_n he ht] at h1 ⊢
  have h2 : (0x7ff0000000000000 : UInt64).toNat = 2047 * 2 ^ 52 := by decide +kernel
  omega
theorem fp_sub1 {t : Nat} (ht : t < 2 ^ 52) : ∃ y : UInt64, FP.dsub (fpX 1023 t) FP.dconst1 = y ∧ vf_n64 y ∧ (∃ z : UInt64, FP.dmul y 4841369599423283200 = z ∧ vf_n64 z ∧ FP.d2l z = lN t) := by
  have hd : FP.dsub (fpX 1023 t) FP.dconst1 = UInt64.ofNat (FP.Core.encode fpF (FP.Core.roundRatio fpF (FP.Core.sumSign false true ((t : Nat) : Int)) t 1 (-52))) := by
    show UInt64.ofNat (FP.Core.encode fpF (FP.Core.round fpF (FP.Core.exactSum (FP.Core.decode fpF (fpX 1023 t).toNat) (FP.Core.negate (FP.Core.decode fpF (FP.dconst1).toNat))))) = _
    rw [fp_decX (by omega) (by omega) ht, show (FP.dconst1).toNat = 1023 * 2 ^ 52 + 0 by decide +kernel, fp_dec (by omega) (by omega) (by omega)]
    have hu : FP.Core.sumUnits false (2 ^ 52 + t) (((1023 : Nat) : Int) - 1075) (!false) (2 ^ 52 + 0) (((1023 : Nat) : Int) - 1075) (min (((1023 : Nat) : Int) - 1075) (((1023 : Nat) : Int) - 1075)) = ((t : Nat) : Int) := by
      unfold FP.Core.sumUnits FP.Core.signed FP.Core.inUnits
      rw [show (((1023 : Nat) : Int) - 1075 - min (((1023 : Nat) : Int) - 1075) (((1023 : Nat) : Int) - 1075)).toNat = 0 by omega, Nat.pow_zero, Nat.mul_one, Nat.mul_one]
      show ((2 ^ 52 + t : Nat) : Int) + -((2 ^ 52 + 0 : Nat) : Int) = _
      omega
    show UInt64.ofNat (FP.Core.encode fpF (FP.Core.round fpF (.fin (FP.Core.sumSign false (!false) (FP.Core.sumUnits false (2 ^ 52 + t) (((1023 : Nat) : Int) - 1075) (!false) (2 ^ 52 + 0) (((1023 : Nat) : Int) - 1075) (min (((1023 : Nat) : Int) - 1075) (((1023 : Nat) : Int) - 1075)))) (FP.Core.sumUnits false (2 ^ 52 + t) (((1023 : Nat) : Int) - 1075) (!false) (2 ^ 52 + 0) (((1023 : Nat) : Int) - 1075) (min (((1023 : Nat) : Int) - 1075) (((1023 : Nat) : Int) - 1075))).natAbs _))) = _
    rw [hu]
    rfl
  by_cases h0 : t = 0
  · subst h0
    have h0n : vf_n64 0 := by unfold vf_n64; decide +kernel
    refine ⟨0, ?_, h0n, 0, by decide +kernel, h0n, by decide +kernel⟩
    rw [hd]
    decide +kernel
  · obtain ⟨k, hk⟩ : ∃ k, t.log2 = k := ⟨_, rfl⟩
    have k1 : 2 ^ k ≤ t := (Nat.le_log2 h0).mp (by omega)
    have k2 : t < 2 ^ (k + 1) := (Nat.log2_lt h0).mp (by omega)
    have k3 : k ≤ 51 := by
      have : t.log2 < 52 := (Nat.log2_lt h0).mpr ht
      omega
    have hp := Nat.two_pow_pos (52 - k)
    have g1 : 2 ^ 52 ≤ t * 2 ^ (52 - k) := by
      have e : 2 ^ 52 = 2 ^ k * 2 ^ (52 - k) := by rw [← Nat.pow_add]; congr 1; omega
      rw [e]
      exact Nat.mul_le_mul_right _ k1
    have g2 : t * 2 ^ (52 - k) < 2 ^ 53 := by
      have e : 2 ^ 53 = 2 ^ (k + 1) * 2 ^ (52 - k) := by rw [← Nat.pow_add]; congr 1; omega
      rw [e]
      exact Nat.mul_lt_mul_of_pos_right k2 hp
    have hs : FP.Core.sumSign false true ((t : Nat) : Int) = false := by
      unfold FP.Core.sumSign
      rw [if_neg (by omega)]
      exact decide_eq_false (by omega)
    have r2 := fp_R2 (s := false) (n := t) (a := 52 - k) (q := (k : Int) - 104) g1 g2 (by omega) (by omega) (by omega)
    rw [show (k : Int) - 104 + ((52 - k : Nat) : Int) = -52 by omega] at r2
    have hy : FP.dsub (fpX 1023 t) FP.dconst1 = fpX (k + 971) (t * 2 ^ (52 - k) - 2 ^ 52) := by
      rw [hd, hs, r2, fp_encX g1 g2 (by omega), show ((k : Int) - 104 + 1075).toNat = k + 971 by omega]
    have hz : FP.dmul (fpX (k + 971) (t * 2 ^ (52 - k) - 2 ^ 52)) 4841369599423283200 = fpX (k + 1023) (t * 2 ^ (52 - k) - 2 ^ 52) := by
      show UInt64.ofNat (FP.Core.encode fpF (FP.Core.round fpF (FP.Core.exactProduct (FP.Core.decode fpF (fpX (k + 971) (t * 2 ^ (52 - k) - 2 ^ 52)).toNat) (FP.Core.decode fpF (4841369599423283200 : UInt64).toNat)))) = _
      rw [fp_decX (by omega) (by omega) (by omega), show (4841369599423283200 : UInt64).toNat = 1075 * 2 ^ 52 + 0 by decide +kernel, fp_dec (by omega) (by omega) (by omega)]
      show UInt64.ofNat (FP.Core.encode fpF (FP.Core.roundRatio fpF false ((2 ^ 52 + (t * 2 ^ (52 - k) - 2 ^ 52)) * (2 ^ 52 + 0)) 1 ((((k + 971 : Nat) : Int) - 1075) + (((1075 : Nat) : Int) - 1075)))) = _
      rw [show (2 ^ 52 + 0 : Nat) = 2 ^ 52 from rfl, show ((((k + 971 : Nat) : Int) - 1075) + (((1075 : Nat) : Int) - 1075)) = ((k : Int) - 52) - ((52 : Nat) : Int) by omega, fp_R1 (by omega) (by omega) (by omega) (by omega), fp_encX (by omega) (by omega) (by omega)]
      rw [show ((k : Int) - 52 + 1075).toNat = k + 1023 by omega, show 2 ^ 52 + (t * 2 ^ (52 - k) - 2 ^ 52) - 2 ^ 52 = t * 2 ^ (52 - k) - 2 ^ 52 by omega]
    refine ⟨_, hy, fp_n64 (by omega) (by omega), _, hz, fp_n64 (by omega) (by omega), ?_⟩
    show FP.Core.toL (FP.Core.decode fpF (fpX (k + 1023) (t * 2 ^ (52 - k) - 2 ^ 52)).toNat) = _
    rw [fp_decX (by omega) (by omega) (by omega)]
    show Int64.ofInt (max (-2 ^ 63) (min (2 ^ 63 - 1) (FP.Core.truncate false (2 ^ 52 + (t * 2 ^ (52 - k) - 2 ^ 52)) (((k + 1023 : Nat) : Int) - 1075)))) = _
    have ht2 : FP.Core.truncate false (2 ^ 52 + (t * 2 ^ (52 - k) - 2 ^ 52)) (((k + 1023 : Nat) : Int) - 1075) = ((t : Nat) : Int) := by
      unfold FP.Core.truncate FP.Core.signed
      rw [show (((k + 1023 : Nat) : Int) - 1075).toNat = 0 by omega, show (-(((k + 1023 : Nat) : Int) - 1075)).toNat = 52 - k by omega, show 2 ^ 52 + (t * 2 ^ (52 - k) - 2 ^ 52) = t * 2 ^ (52 - k) by omega, Nat.pow_zero, Nat.mul_one, Nat.mul_div_cancel _ hp]
      rfl
    rw [ht2, show max (-2 ^ 63) (min (2 ^ 63 - 1) ((t : Nat) : Int)) = ((t : Nat) : Int) by omega]
    rfl
