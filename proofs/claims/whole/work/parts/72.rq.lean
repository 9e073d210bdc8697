/-- one character more, and the relation still has fields -/
theorem rp_step {s : p_S} {rd : Nat → Int32} {t : Nat} (hR : rp_R s rd) (ht : t < 128) (hok : p_ok s (nI t) = true) : ∃ rd', rp_R (p_nx s (nI t)) rd' := by
  obtain ⟨pa, R9, nu, D⟩ := s
  rcases hR with ⟨hD, hz⟩ | ⟨hD1, hD5, hs, h0, m, h5, hm3, hm4, hq, hz, hlow, hhigh⟩
  · have hD : D = 0 := hD
    subst hD
    have hp : nI t = 108 ∨ nI t = 120 ∨ nI t = 104 := of_decide_eq_true hok
    refine ⟨va_up rd 0 (nI t), ?_⟩
    · skip
      refine Or.inr ⟨Nat.le_refl 1, by show 1 ≤ 5; omega, ?_, ?_, 0, ?_, fun _ => ⟨rfl, ?_⟩, fun z => ?_, fun q q1 q2 => ?_, fun q q1 q2 => ?_, fun _ => ⟨?_, rfl, ?_⟩, fun z => ?_⟩
      · rw [va_up_eq]; exact hp
      · rw [va_up_eq]; exact (va_up_eq _ _ _).symm
      · exact (va_up_ne' _ _ (by decide)).trans (hz 5 (by omega))
      · have := (k_due_le (va_up rd 0 (nI t) 0)).1
        omega
      · exact absurd z (by show ¬ 4 ≤ 1; omega)
      · omega
      · exact (va_up_ne' _ _ (by omega)).trans (hz q (by omega))
      · exact (va_up_ne' _ _ (by decide)).trans (hz 6 (by omega))
      · exact (va_up_ne' _ _ (by decide)).trans (hz 4 (by omega))
      · exact absurd z (by show ¬ 1 = 5; omega)
  have hD1 : 1 ≤ D := hD1
  have hD5 : D ≤ 5 := hD5
  have h0 : rd 0 = pa (5 * R9) := h0
  have hm3 : D ≤ 3 → m + 1 = D ∧ m < k_due (rd 0) := hm3
  have hm4 : 4 ≤ D → m = k_due (rd 0) := hm4
  have hq : ∀ q, 1 ≤ q → q ≤ m → rd q = pa (5 * R9 + q) ∧ ∃ v, v < 4 ∧ rd q = nI v := hq
  have hlow : D ≤ 4 → rd 6 = 0 ∧ nu = -1 ∧ rd 4 = 0 := hlow
  have hhigh : D = 5 → rd 6 = 1 ∧ ((nu = -1 ∧ rd 4 = 0) ∨ ∃ v, 1 ≤ v ∧ v ≤ 99999 ∧ nu = nI v ∧ rd 4 = nI v ∧ pa (5 * R9 + 4) = nI v) := hhigh
  have hdu := k_due_le (rd 0)
  by_cases hD3 : D ≤ 3
  · obtain ⟨hm, hmd⟩ := hm3 hD3
    obtain ⟨l6, lnu, l4⟩ := hlow (by omega)
    have e : p_ok (pa, R9, nu, D) (nI t) = decide (48 ≤ nI t ∧ nI t ≤ 51) := by
      unfold p_ok
      dsimp only
      rw [if_neg (by omega), if_neg (by omega), if_neg (by omega)]
    have e2 : p_nx (pa, R9, nu, D) (nI t) = (va_up pa (5 * R9 + D) (nI t - 48), R9, nu, p_du (pa (5 * R9)) D) := by
      unfold p_nx
      dsimp only
      rw [if_neg (by omega), if_neg (by omega), if_neg (by omega)]
    rw [e] at hok
    have hp := of_decide_eq_true hok
    refine ⟨va_up (va_up rd (m + 1) (nI t - 48)) 5 (nI (m + 1)), ?_⟩
    · skip
      have hp2 := (rp_dig ht).mp hp
      rw [e2, ← h0, p_du_due hs hD1 (by omega)]
      have f0 : va_up (va_up rd (m + 1) (nI t - 48)) 5 (nI (m + 1)) 0 = rd 0 := (va_up_ne' _ _ (by decide)).trans (va_up_ne' _ _ (by omega))
      have f4 : va_up (va_up rd (m + 1) (nI t - 48)) 5 (nI (m + 1)) 4 = 0 := ((va_up_ne' _ _ (by decide)).trans (va_up_ne' _ _ (by omega))).trans l4
      have f6 : va_up (va_up rd (m + 1) (nI t - 48)) 5 (nI (m + 1)) 6 = 0 := ((va_up_ne' _ _ (by decide)).trans (va_up_ne' _ _ (by omega))).trans l6
      have eD : (if D = k_due (rd 0) then 4 else D + 1) ≤ 4 := by split <;> omega
      have eD1 : 1 ≤ (if D = k_due (rd 0) then 4 else D + 1) := by split <;> omega
      refine Or.inr ⟨eD1, Nat.le_succ_of_le eD, ?_, ?_, m + 1, va_up_eq _ _ _, fun z => ?_, fun z => ?_, fun q q1 q2 => ?_, fun q q1 q2 => ?_, fun _ => ⟨f6, lnu, f4⟩, fun z => ?_⟩
      · rw [f0]; exact hs
      · rw [f0, h0]; exact (va_up_ne' _ _ (by omega)).symm
      · rw [f0]
        have z : (if D = k_due (rd 0) then 4 else D + 1) ≤ 3 := z
        show m + 1 + 1 = (if D = k_due (rd 0) then 4 else D + 1) ∧ m + 1 < k_due (rd 0)
        by_cases c : D = k_due (rd 0)
        · rw [if_pos c] at z; omega
        · rw [if_neg c] at z ⊢; omega
      · rw [f0]
        have z : 4 ≤ (if D = k_due (rd 0) then 4 else D + 1) := z
        by_cases c : D = k_due (rd 0)
        · omega
        · rw [if_neg c] at z; omega
      · show va_up (va_up rd (m + 1) (nI t - 48)) 5 (nI (m + 1)) q = va_up pa (5 * R9 + D) (nI t - 48) (5 * R9 + q) ∧ _
        rw [va_up_ne' _ _ (show q ≠ 5 by omega)]
        by_cases c : q = m + 1
        · subst c
          rw [va_up_eq, hm, va_up_eq]
          exact ⟨rfl, t - 48, by omega, rp_g hp2.1⟩
        · rw [va_up_ne' _ _ c, va_up_ne' _ _ (by omega)]
          exact hq q q1 (by omega)
      · rw [va_up_ne' _ _ (show q ≠ 5 by omega), va_up_ne' _ _ (by omega)]
        exact hz q (by omega) q2
      · have z : (if D = k_due (rd 0) then 4 else D + 1) = 5 := z
        omega
  have hm := hm4 (by omega)
  by_cases hD4 : D = 4
  · subst hD4
    obtain ⟨l6, lnu, l4⟩ := hlow (by omega)
    refine ⟨va_up rd 6 1, ?_⟩
    · skip
      have f : ∀ q, q ≠ 6 → va_up rd 6 1 q = rd q := fun q hq => va_up_ne' _ _ hq
      refine Or.inr ⟨by show 1 ≤ 5; omega, Nat.le_refl 5, ?_, ?_, m, ?_, fun z => ?_, fun z => ?_, fun q q1 q2 => ?_, fun q q1 q2 => ?_, fun z => ?_, fun z => ⟨va_up_eq _ _ _, Or.inl ⟨lnu, ?_⟩⟩⟩
      · rw [f 0 (by decide)]; exact hs
      · rw [f 0 (by decide)]; exact h0
      · rw [f 5 (by decide)]; exact h5
      · exact absurd z (by show ¬ 5 ≤ 3; omega)
      · rw [f 0 (by decide)]; exact hm
      · rw [f q (by omega)]; exact hq q q1 q2
      · rw [f q (by omega)]; exact hz q q1 q2
      · exact absurd z (by show ¬ 5 ≤ 4; omega)
      · rw [f 4 (by decide)]; exact l4
  have hD : D = 5 := by omega
  subst hD
  obtain ⟨l6, hnu⟩ := hhigh rfl
  by_cases hc9 : nI t = 59 ∧ ¬ nu = -1
  · have e2 : p_nx (pa, R9, nu, 5) (nI t) = (pa, R9 + 1, nu, 0) := if_pos hc9
    exact ⟨fun _ => 0, by rw [e2]; exact Or.inl ⟨rfl, fun q _ => rfl⟩⟩
  · have e : p_ok (pa, R9, nu, 5) (nI t) = decide ((0 ≤ nI t - 48 ∧ nI t - 48 ≤ 9) ∧ (1 ≤ p_v nu (nI t - 48) ∧ p_v nu (nI t - 48) ≤ 99999)) := if_neg hc9
    have e2 : p_nx (pa, R9, nu, 5) (nI t) = (va_up pa (5 * R9 + 4) (p_nu nu (nI t - 48)), R9, p_nu nu (nI t - 48), 5) := if_neg hc9
    rw [e] at hok
    have hp := of_decide_eq_true hok
    refine ⟨va_up rd 4 (rd 4 * 10 + (nI t - 48)), ?_⟩
    · rw [e2]
      have f : ∀ q y, q ≠ 4 → va_up rd 4 y q = rd q := fun q y hq => va_up_ne' _ _ hq
      have hpn : p_nu nu (nI t - 48) = p_v nu (nI t - 48) := if_pos hp
      have h48 : 48 ≤ t := by
        rcases Nat.lt_or_ge t 48 with z | z
        · exact absurd hp.1.1 (rp_low z)
        · exact z
      have hv : ∃ v, 1 ≤ v ∧ v ≤ 99999 ∧ p_v nu (nI t - 48) = nI v ∧ rd 4 * 10 + (nI t - 48) = nI v := by
        rcases hnu with ⟨v3, v4⟩ | ⟨v, v1, v2, v3, v4, -⟩
        · have e9 : p_v nu (nI t - 48) = nI (t - 48) := by rw [v3, rp_g h48]; rfl
          have hp2 := hp.2.1
          have hp3 := hp.1.2
          rw [e9, show (1 : Int32) = nI 1 from rfl, tp_le (by omega) (by omega)] at hp2
          rw [rp_g h48, show (9 : Int32) = nI 9 from rfl, tp_le (by omega) (by omega)] at hp3
          refine ⟨t - 48, hp2, by omega, e9, ?_⟩
          rw [v4, rp_g h48, show (0 : Int32) = nI 0 from rfl, show (10 : Int32) = nI 10 from rfl, tp_mul, tp_add]
          congr 1
          omega
        · have e9 : p_v nu (nI t - 48) = nI (10 * v + (t - 48)) := by rw [v3]; exact rp_vv v2 h48 ht
          have hp2 := hp.2.2
          rw [e9, show (99999 : Int32) = nI 99999 from rfl, tp_le (by omega) (by omega)] at hp2
          refine ⟨10 * v + (t - 48), by omega, hp2, e9, ?_⟩
          rw [v4, rp_g h48, show (10 : Int32) = nI 10 from rfl, tp_mul, tp_add]
          congr 1
          omega
      obtain ⟨v, v1, v2, v3, v4⟩ := hv
      rw [hpn, v3, v4]
      refine Or.inr ⟨by show 1 ≤ 5; omega, Nat.le_refl 5, ?_, ?_, m, ?_, fun z => ?_, fun z => ?_, fun q q1 q2 => ?_, fun q q1 q2 => ?_, fun z => ?_, fun z => ⟨?_, Or.inr ⟨v, v1, v2, rfl, va_up_eq _ _ _, va_up_eq _ _ _⟩⟩⟩
      · rw [f 0 _ (by decide)]; exact hs
      · rw [f 0 _ (by decide), h0]; exact (va_up_ne' _ _ (by omega)).symm
      · rw [f 5 _ (by decide)]; exact h5
      · exact absurd z (by show ¬ 5 ≤ 3; omega)
      · rw [f 0 _ (by decide)]; exact hm
      · rw [f q _ (by omega)]
        show rd q = va_up pa (5 * R9 + 4) (nI v) (5 * R9 + q) ∧ _
        rw [va_up_ne' _ _ (by omega)]
        exact hq q q1 q2
      · rw [f q _ (by omega)]; exact hz q q1 q2
      · exact absurd z (by show ¬ 5 ≤ 4; omega)
      · rw [f 6 _ (by decide)]; exact l6
/-- rows of whole orders -/
def w_row (pa : Nat → Int32) (R : Nat) : Prop :=
  (pa (5 * R) = 108 ∨ pa (5 * R) = 120 ∨ pa (5 * R) = 104) ∧ (∀ q, 1 ≤ q → q ≤ k_due (pa (5 * R)) → ∃ v, v < 4 ∧ pa (5 * R + q) = nI v) ∧ ∃ v, 1 ≤ v ∧ v ≤ 99999 ∧ pa (5 * R + 4) = nI v
def c_wf (pa : Nat → Int32) (R : Nat) (rd : Nat → Int32) : Prop :=
  w_row pa R ∧ rd 0 = pa (5 * R) ∧ (∀ q, 1 ≤ q → q ≤ k_due (pa (5 * R)) → rd q = pa (5 * R + q)) ∧ (∀ q, k_due (pa (5 * R)) < q → q ≤ 3 → rd q = 0) ∧ rd 4 = pa (5 * R + 4)
theorem rp_full {s : p_S} {rd : Nat → Int32} (hR : rp_R s rd) (hD : s.2.2.2 = 5) (hnu : ¬ s.2.2.1 = -1) : c_wf s.1 s.2.1 rd := by
  rcases hR with ⟨hD0, hz⟩ | ⟨hD1, hD5, hs, h0, m, h5, hm3, hm4, hq, hz, hlow, hhigh⟩
  · omega
  · have hm := hm4 (by omega)
    obtain ⟨-, hn⟩ := hhigh hD
    rcases hn with ⟨z, -⟩ | ⟨v, v1, v2, v3, v4, v5⟩
    · exact absurd z hnu
    · rw [h0] at hs hm
      rw [hm] at hq hz
      exact ⟨⟨hs, fun q q1 q2 => by rw [← (hq q q1 q2).1]; exact (hq q q1 q2).2, v, v1, v2, v5⟩, h0, fun q q1 q2 => (hq q q1 q2).1, hz, v4.trans v5.symm⟩
theorem w_row.eq {pa pb : Nat → Int32} {R : Nat} (h : w_row pa R) (e : ∀ q, q < 5 → pb (5 * R + q) = pa (5 * R + q)) : w_row pb R := by
  obtain ⟨h1, h2, h3⟩ := h
  have e0 : pb (5 * R) = pa (5 * R) := e 0 (by omega)
  refine ⟨by rw [e0]; exact h1, fun q q1 q2 => ?_, ?_⟩
  · rw [e0] at q2
    have := (k_due_le (pa (5 * R))).2
    rw [e q (by omega)]
    exact h2 q q1 q2
  · rw [e 4 (by omega)]
    exact h3
theorem c_wf.eq {pa pb : Nat → Int32} {R : Nat} {rd : Nat → Int32} (h : c_wf pa R rd) (e : ∀ q, q < 5 → pb (5 * R + q) = pa (5 * R + q)) : c_wf pb R rd := by
  obtain ⟨h1, h2, h3, h4, h5⟩ := h
  have e0 : pb (5 * R) = pa (5 * R) := e 0 (by omega)
  have hd := (k_due_le (pa (5 * R))).2
  refine ⟨h1.eq e, by rw [e0]; exact h2, fun q q1 q2 => ?_, fun q q1 q2 => ?_, by rw [e 4 (by omega)]; exact h5⟩
  · rw [e0] at q2
    rw [e q (by omega)]
    exact h3 q q1 q2
  · rw [e0] at q1
    exact h4 q q1 q2
/-- what was read stays -/
theorem p_nx_R (s : p_S) (c : Int32) : s.2.1 ≤ (p_nx s c).2.1 ∧ (p_nx s c).2.1 ≤ s.2.1 + 1 := by
  unfold p_nx
  split
  · exact ⟨Nat.le_refl _, Nat.le_succ _⟩
  · split
    · exact ⟨Nat.le_refl _, Nat.le_succ _⟩
    · split
      · split
        · exact ⟨Nat.le_succ _, Nat.le_refl _⟩
        · exact ⟨Nat.le_refl _, Nat.le_succ _⟩
      · exact ⟨Nat.le_refl _, Nat.le_succ _⟩
theorem p_nx_fr (s : p_S) (c : Int32) {q : Nat} (hq : q < 5 * s.2.1) : (p_nx s c).1 q = s.1 q := by
  unfold p_nx
  split
  · exact va_up_ne' _ _ (by omega)
  · split
    · rfl
    · split
      · split
        · rfl
        · exact va_up_ne' _ _ (by omega)
      · exact va_up_ne' _ _ (by omega)
theorem p_it_R (tx : Nat → Int32) (s0 : p_S) (k : Nat) : ∀ d, (p_it tx s0 k).2.1 ≤ (p_it tx s0 (k + d)).2.1
  | 0 => Nat.le_refl _
  | d + 1 => Nat.le_trans (p_it_R tx s0 k d) (p_nx_R _ _).1
theorem p_it_fr (tx : Nat → Int32) (s0 : p_S) (k : Nat) {q : Nat} (hq : q < 5 * (p_it tx s0 k).2.1) : ∀ d, (p_it tx s0 (k + d)).1 q = (p_it tx s0 k).1 q
  | 0 => rfl
  | d + 1 => by
    have h1 := p_it_R tx s0 k d
    exact (p_nx_fr _ _ (by show q < 5 * (p_it tx s0 (k + d)).2.1; omega)).trans (p_it_fr tx s0 k hq d)
/-- a ';' stands behind a whole order only -/
theorem p_semi {s : p_S} {t : Nat} (hok : p_ok s (nI t) = true) (h : nI t = 59) (hD5 : s.2.2.2 ≤ 5) : s.2.2.2 = 5 ∧ ¬ s.2.2.1 = -1 := by
  obtain ⟨pa, R, nu, D⟩ := s
  have hD5 : D ≤ 5 := hD5
  rw [h] at hok
  rcases (show D = 0 ∨ D = 1 ∨ D = 2 ∨ D = 3 ∨ D = 4 ∨ D = 5 by omega) with rfl | rfl | rfl | rfl | rfl | rfl
  · exact absurd (of_decide_eq_true (show decide ((59 : Int32) = 108 ∨ (59 : Int32) = 120 ∨ (59 : Int32) = 104) = true from hok)) (by decide)
  · exact absurd (of_decide_eq_true (show decide ((48 : Int32) ≤ 59 ∧ (59 : Int32) ≤ 51) = true from hok)) (by decide)
  · exact absurd (of_decide_eq_true (show decide ((48 : Int32) ≤ 59 ∧ (59 : Int32) ≤ 51) = true from hok)) (by decide)
  · exact absurd (of_decide_eq_true (show decide ((48 : Int32) ≤ 59 ∧ (59 : Int32) ≤ 51) = true from hok)) (by decide)
  · have := of_decide_eq_true (show decide ((59 : Int32) = if pa (5 * R) = 108 then 43 else 58) = true from hok)
    by_cases c : pa (5 * R) = 108
    · rw [if_pos c] at this; exact absurd this (by decide)
    · rw [if_neg c] at this; exact absurd this (by decide)
  · refine ⟨rfl, fun z => ?_⟩
    have z : nu = -1 := z
    subst z
    have h2 := of_decide_eq_true (show decide (((0 : Int32) ≤ 59 - 48 ∧ (59 : Int32) - 48 ≤ 9) ∧ (1 ≤ p_v (-1) (59 - 48) ∧ p_v (-1) (59 - 48) ≤ 99999)) = true from hok)
    exact absurd h2.1.2 (by decide)
/-- all rows that were read through are whole -/
theorem p_rows {tx : Nat → Int32} {s0 : p_S} {n : Nat} (htx : ∀ i, i < n → ∃ t, t < 128 ∧ tx i = nI t) (hok : ∀ j, j < n → p_ok (p_it tx s0 j) (tx j) = true) (h0 : ∃ rd, rp_R s0 rd) (hR0 : s0.2.1 = 0) : ∀ k, k ≤ n → (∃ rd, rp_R (p_it tx s0 k) rd) ∧ ∀ R, R < (p_it tx s0 k).2.1 → w_row (p_it tx s0 k).1 R
  | 0, _ => ⟨h0, fun R hR => absurd hR (by rw [show (p_it tx s0 0).2.1 = 0 from hR0]; omega)⟩
  | k + 1, hk => by
    obtain ⟨⟨rd, h1⟩, h2⟩ := p_rows htx hok h0 hR0 k (by omega)
    obtain ⟨t, ht, et⟩ := htx k (by omega)
    have hokk := hok k (by omega)
    rw [et] at hokk
    refine ⟨by rw [show p_it tx s0 (k + 1) = p_nx (p_it tx s0 k) (tx k) from rfl, et]; exact rp_step h1 ht hokk, fun R hR => ?_⟩
    by_cases hR2 : R < (p_it tx s0 k).2.1
    · exact (h2 R hR2).eq fun q hq => p_nx_fr _ _ (by omega)
    · have e1 : p_it tx s0 (k + 1) = p_nx (p_it tx s0 k) (nI t) := by rw [← et]; rfl
      rw [e1] at hR ⊢
      have hs : (p_it tx s0 k).2.2.2 ≤ 5 := by
        rcases h1 with ⟨z, -⟩ | ⟨-, z, -⟩ <;> omega
      generalize p_it tx s0 k = s at *
      by_cases hc : nI t = 59
      · obtain ⟨d5, dn⟩ := p_semi hokk hc hs
        have e2 : p_nx s (nI t) = (s.1, s.2.1 + 1, s.2.2.1, 0) := by
          unfold p_nx
          rw [if_neg (by omega), if_neg (by omega), if_pos d5, if_pos ⟨hc, dn⟩]
        rw [e2] at hR ⊢
        have hR : R < s.2.1 + 1 := hR
        have e3 : R = s.2.1 := by omega
        subst e3
        exact (rp_full h1 d5 dn).1
      · exfalso
        revert hR
        unfold p_nx
        split
        · exact hR2
        · split
          · exact hR2
          · split
            · rw [if_neg (fun z => hc z.1)]
              exact hR2
            · exact hR2
