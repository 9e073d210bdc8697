/-! THE READER'S FIELDS AGAINST WHAT THE REFERENCE HAS READ -/
def rp_R (s : p_S) (rd : Nat → Int32) : Prop :=
  (s.2.2.2 = 0 ∧ ∀ q, q ≤ 6 → rd q = 0) ∨
  (1 ≤ s.2.2.2 ∧ s.2.2.2 ≤ 5 ∧ (rd 0 = 108 ∨ rd 0 = 120 ∨ rd 0 = 104) ∧ rd 0 = s.1 (5 * s.2.1) ∧
    ∃ m, rd 5 = nI m ∧ (s.2.2.2 ≤ 3 → m + 1 = s.2.2.2 ∧ m < k_due (rd 0)) ∧ (4 ≤ s.2.2.2 → m = k_due (rd 0)) ∧
      (∀ q, 1 ≤ q → q ≤ m → rd q = s.1 (5 * s.2.1 + q) ∧ ∃ v, v < 4 ∧ rd q = nI v) ∧ (∀ q, m < q → q ≤ 3 → rd q = 0) ∧
      (s.2.2.2 ≤ 4 → rd 6 = 0 ∧ s.2.2.1 = -1 ∧ rd 4 = 0) ∧ (s.2.2.2 = 5 → rd 6 = 1 ∧ ((s.2.2.1 = -1 ∧ rd 4 = 0) ∨ ∃ v, 1 ≤ v ∧ v ≤ 99999 ∧ s.2.2.1 = nI v ∧ rd 4 = nI v ∧ s.1 (5 * s.2.1 + 4) = nI v)))
theorem k_due_le (s : Int32) : 1 ≤ k_due s ∧ k_due s ≤ 3 := by
  unfold k_due
  split
  · omega
  · split <;> omega
theorem p_du_due {l : Int32} {D : Nat} (hl : l = 108 ∨ l = 120 ∨ l = 104) (h1 : 1 ≤ D) (h2 : D ≤ k_due l) : p_du l D = if D = k_due l then 4 else D + 1 := by
  rcases hl with rfl | rfl | rfl
  · rfl
  · rfl
  · rfl
theorem tp_b_iff {p q : Prop} [Decidable p] [Decidable q] (h : p ↔ q) : tp_b p = tp_b q := by
  by_cases hp : p
  · rw [tp_b_t hp, tp_b_t (h.mp hp)]
  · rw [tp_b_f hp, tp_b_f (fun z => hp (h.mpr z))]
theorem rp_low {t : Nat} (h : t < 48) : ¬ (0 : Int32) ≤ nI t - 48 := by
  have : ∀ t : Fin 48, ¬ (0 : Int32) ≤ nI t.val - 48 := by decide
  exact this ⟨t, h⟩
theorem rp_n1 {v : Nat} (h : v < 2 ^ 31) : ¬ nI v = -1 := by
  intro e
  have h0 := nI_pos h
  rw [e] at h0
  exact h0 (by decide)
theorem rp_dig {t : Nat} (ht : t < 128) : (48 ≤ nI t ∧ nI t ≤ 51) ↔ (48 ≤ t ∧ t ≤ 51) := by
  rw [show (48 : Int32) = nI 48 from rfl, show (51 : Int32) = nI 51 from rfl, tp_le (by omega) (by omega), tp_le (by omega) (by omega)]
theorem rp_g {t : Nat} (h : 48 ≤ t) : nI t - 48 = nI (t - 48) := tp_sub (a := t) (b := 48) h
theorem rp_v0 {t : Nat} (ht : t < 128) : ((49 : Int32) ≤ nI t ∧ nI t ≤ 57) ↔ ((0 ≤ nI t - 48 ∧ nI t - 48 ≤ 9) ∧ (1 ≤ nI t - 48 ∧ nI t - 48 ≤ 99999)) := by
  rw [show (49 : Int32) = nI 49 from rfl, show (57 : Int32) = nI 57 from rfl, tp_le (by omega) (by omega), tp_le (by omega) (by omega)]
  by_cases h : 48 ≤ t
  · rw [rp_g h, show (0 : Int32) = nI 0 from rfl, show (9 : Int32) = nI 9 from rfl, show (1 : Int32) = nI 1 from rfl, show (99999 : Int32) = nI 99999 from rfl, tp_le (by omega) (by omega), tp_le (by omega) (by omega), tp_le (by omega) (by omega), tp_le (by omega) (by omega)]
    omega
  · exact ⟨fun z => absurd z (by omega), fun z => absurd z.1.1 (rp_low (by omega))⟩
theorem rp_vv {v t : Nat} (hv : v ≤ 99999) (h : 48 ≤ t) (ht : t < 128) : p_v (nI v) (nI t - 48) = nI (10 * v + (t - 48)) := by
  unfold p_v
  rw [if_neg (rp_n1 (by omega)), rp_g h, show (10 : Int32) = nI 10 from rfl, tp_mul, tp_add]
theorem rp_vn {v t : Nat} (h1 : 1 ≤ v) (hv : v ≤ 99999) (ht : t < 128) : ((48 : Int32) ≤ nI t ∧ nI t ≤ 57 ∧ nI v ≤ 9999) ↔ ((0 ≤ nI t - 48 ∧ nI t - 48 ≤ 9) ∧ (1 ≤ p_v (nI v) (nI t - 48) ∧ p_v (nI v) (nI t - 48) ≤ 99999)) := by
  rw [show (48 : Int32) = nI 48 from rfl, show (57 : Int32) = nI 57 from rfl, show (9999 : Int32) = nI 9999 from rfl, tp_le (by omega) (by omega), tp_le (by omega) (by omega), tp_le (by omega) (by omega)]
  by_cases h : 48 ≤ t
  · rw [show nI 48 = (48 : Int32) from rfl, rp_vv hv h ht, rp_g h, show (0 : Int32) = nI 0 from rfl, show (9 : Int32) = nI 9 from rfl, show (1 : Int32) = nI 1 from rfl, show (99999 : Int32) = nI 99999 from rfl, tp_le (by omega) (by omega), tp_le (by omega) (by omega), tp_le (by omega) (by omega), tp_le (by omega) (by omega)]
    omega
  · exact ⟨fun z => absurd z.1 h, fun z => absurd z.1.1 (rp_low (by omega))⟩
section RPR
variable {l : Launch} {G : tp_G} {M : tp_M} {R : Room} {Q : tp_Q} {k n : Nat} {h : tp_H} {pc : Nat} {L : List (Option Value)}
set_option maxHeartbeats 2000000 in
/-- one character read by the class's reader -/
theorem r_reads {ix r : Nat} {s : p_S} {rd : Nat → Int32} {t : Nat} {rest : List Value} (hl : l.stackTraces = false) (hd : decode M.2.1 pc = .ok (.invokevirtual ix, 3)) (hc : tp_CV M.1.cls ix mX2_reads 1) (hT : kr_S G r h rd h) (hR : rp_R s rd) (ht : t < 128) (hcat : (rest.map fun v => v.category).sum ≤ 8) (hrm : tp_RM R mX2_reads) (hk : k ≤ R.cells ∧ n ≤ R.slots)
    (kk : ∀ h1 rd', kr_S G r h rd' h1 → (p_ok s (nI t) = true → rp_R (p_nx s (nI t)) rd') → tp_Run l G M R Q k n h1 (pc + 3) L (.int (tp_b (p_ok s (nI t) = true)) :: rest)) : tp_Run l G M R Q k n h pc L (.int (nI t) :: .ref r :: rest) := by
  obtain ⟨pa, R9, nu, D⟩ := s
  rcases hR with ⟨hD, hz⟩ | ⟨hD1, hD5, hs, h0, m, h5, hm3, hm4, hq, hz, hlow, hhigh⟩
  · have hD : D = 0 := hD
    subst hD
    refine r_sV1 hd hc (R_reads0 hl hT (hz 0 (by omega))) rfl hT.1 rfl rfl rfl hcat hrm hk (fun h1 hP => ?_)
    have e : p_ok (pa, R9, nu, 0) (nI t) = decide (nI t = 108 ∨ nI t = 120 ∨ nI t = 104) := rfl
    have := kk h1 _ hP (fun hok => ?_)
    · rw [e, tp_b_dec] at this
      exact this
    · rw [e] at hok
      have hp := of_decide_eq_true hok
      rw [if_pos hp]
      refine Or.inr ⟨Nat.le_refl 1, by show 1 ≤ 5; omega, ?_, ?_, 0, ?_, fun _ => ⟨rfl, ?_⟩, fun z => ?_, fun q q1 q2 => ?_, fun q q1 q2 => ?_, fun _ => ⟨?_, rfl, ?_⟩, fun z => ?_⟩
      · rw [va_up_eq]; exact hp
      · rw [va_up_eq]; exact (va_up_eq _ _ _).symm
      · exact (va_up_ne' _ _ (by decide)).trans (hz 5 (by omega))
      · have := (k_due_le (va_up rd 0 (nI t) 0)).1
        omega
      · exact absurd z (by show ¬ 4 ≤ 1; omega)
      · omega
      · exact (va_up_ne' _ _ (by omega)).trans (hz q (by omega))
      · exact (va_up_ne' _ _ (by decide)).trans (hz 6 (by omega))
      · exact (va_up_ne' _ _ (by decide)).trans (hz 4 (by omega))
      · exact absurd z (by show ¬ 1 = 5; omega)
  have hD1 : 1 ≤ D := hD1
  have hD5 : D ≤ 5 := hD5
  have h0 : rd 0 = pa (5 * R9) := h0
  have hm3 : D ≤ 3 → m + 1 = D ∧ m < k_due (rd 0) := hm3
  have hm4 : 4 ≤ D → m = k_due (rd 0) := hm4
  have hq : ∀ q, 1 ≤ q → q ≤ m → rd q = pa (5 * R9 + q) ∧ ∃ v, v < 4 ∧ rd q = nI v := hq
  have hlow : D ≤ 4 → rd 6 = 0 ∧ nu = -1 ∧ rd 4 = 0 := hlow
  have hhigh : D = 5 → rd 6 = 1 ∧ ((nu = -1 ∧ rd 4 = 0) ∨ ∃ v, 1 ≤ v ∧ v ≤ 99999 ∧ nu = nI v ∧ rd 4 = nI v ∧ pa (5 * R9 + 4) = nI v) := hhigh
  have hs0 : ¬ rd 0 = 0 := by
    rcases hs with e | e | e <;> (rw [e]; decide)
  have hdu := k_due_le (rd 0)
  by_cases hD3 : D ≤ 3
  · obtain ⟨hm, hmd⟩ := hm3 hD3
    obtain ⟨l6, lnu, l4⟩ := hlow (by omega)
    refine r_sV1 hd hc (R_readsD hl hT hs0 h5 hmd hdu.2) rfl hT.1 rfl rfl rfl hcat hrm hk (fun h1 hP => ?_)
    have e : p_ok (pa, R9, nu, D) (nI t) = decide (48 ≤ nI t ∧ nI t ≤ 51) := by
      unfold p_ok
      dsimp only
      rw [if_neg (by omega), if_neg (by omega), if_neg (by omega)]
    have e2 : p_nx (pa, R9, nu, D) (nI t) = (va_up pa (5 * R9 + D) (nI t - 48), R9, nu, p_du (pa (5 * R9)) D) := by
      unfold p_nx
      dsimp only
      rw [if_neg (by omega), if_neg (by omega), if_neg (by omega)]
    have := kk h1 _ hP (fun hok => ?_)
    · rw [e, tp_b_dec] at this
      exact this
    · rw [e] at hok
      have hp := of_decide_eq_true hok
      have hp2 := (rp_dig ht).mp hp
      rw [if_pos hp, e2, ← h0, p_du_due hs hD1 (by omega)]
      have f0 : va_up (va_up rd (m + 1) (nI t - 48)) 5 (nI (m + 1)) 0 = rd 0 := (va_up_ne' _ _ (by decide)).trans (va_up_ne' _ _ (by omega))
      have f4 : va_up (va_up rd (m + 1) (nI t - 48)) 5 (nI (m + 1)) 4 = 0 := ((va_up_ne' _ _ (by decide)).trans (va_up_ne' _ _ (by omega))).trans l4
      have f6 : va_up (va_up rd (m + 1) (nI t - 48)) 5 (nI (m + 1)) 6 = 0 := ((va_up_ne' _ _ (by decide)).trans (va_up_ne' _ _ (by omega))).trans l6
      have eD : (if D = k_due (rd 0) then 4 else D + 1) ≤ 4 := by split <;> omega
      have eD1 : 1 ≤ (if D = k_due (rd 0) then 4 else D + 1) := by split <;> omega
      refine Or.inr ⟨eD1, Nat.le_succ_of_le eD, ?_, ?_, m + 1, va_up_eq _ _ _, fun z => ?_, fun z => ?_, fun q q1 q2 => ?_, fun q q1 q2 => ?_, fun _ => ⟨f6, lnu, f4⟩, fun z => ?_⟩
      · rw [f0]; exact hs
      · rw [f0, h0]; exact (va_up_ne' _ _ (by omega)).symm
      · rw [f0]
        have z : (if D = k_due (rd 0) then 4 else D + 1) ≤ 3 := z
        show m + 1 + 1 = (if D = k_due (rd 0) then 4 else D + 1) ∧ m + 1 < k_due (rd 0)
        by_cases c : D = k_due (rd 0)
        · rw [if_pos c] at z; omega
        · rw [if_neg c] at z ⊢; omega
      · rw [f0]
        have z : 4 ≤ (if D = k_due (rd 0) then 4 else D + 1) := z
        by_cases c : D = k_due (rd 0)
        · omega
        · rw [if_neg c] at z; omega
      · show va_up (va_up rd (m + 1) (nI t - 48)) 5 (nI (m + 1)) q = va_up pa (5 * R9 + D) (nI t - 48) (5 * R9 + q) ∧ _
        rw [va_up_ne' _ _ (show q ≠ 5 by omega)]
        by_cases c : q = m + 1
        · subst c
          rw [va_up_eq, hm, va_up_eq]
          exact ⟨rfl, t - 48, by omega, rp_g hp2.1⟩
        · rw [va_up_ne' _ _ c, va_up_ne' _ _ (by omega)]
          exact hq q q1 (by omega)
      · rw [va_up_ne' _ _ (show q ≠ 5 by omega), va_up_ne' _ _ (by omega)]
        exact hz q (by omega) q2
      · have z : (if D = k_due (rd 0) then 4 else D + 1) = 5 := z
        omega
  have hm := hm4 (by omega)
  by_cases hD4 : D = 4
  · subst hD4
    obtain ⟨l6, lnu, l4⟩ := hlow (by omega)
    refine r_sV1 hd hc (R_readsM hl hT hs0 h5 (by omega) (by omega) l6) rfl hT.1 rfl rfl rfl hcat hrm hk (fun h1 hP => ?_)
    have e : p_ok (pa, R9, nu, 4) (nI t) = decide (nI t = if rd 0 = 108 then 43 else 58) := by rw [h0]; rfl
    have := kk h1 _ hP (fun hok => ?_)
    · rw [e, tp_b_dec] at this
      exact this
    · rw [e] at hok
      have hp := of_decide_eq_true hok
      rw [tp_b_t hp]
      have f : ∀ q, q ≠ 6 → va_up rd 6 1 q = rd q := fun q hq => va_up_ne' _ _ hq
      refine Or.inr ⟨by show 1 ≤ 5; omega, Nat.le_refl 5, ?_, ?_, m, ?_, fun z => ?_, fun z => ?_, fun q q1 q2 => ?_, fun q q1 q2 => ?_, fun z => ?_, fun z => ⟨va_up_eq _ _ _, Or.inl ⟨lnu, ?_⟩⟩⟩
      · rw [f 0 (by decide)]; exact hs
      · rw [f 0 (by decide)]; exact h0
      · rw [f 5 (by decide)]; exact h5
      · exact absurd z (by show ¬ 5 ≤ 3; omega)
      · rw [f 0 (by decide)]; exact hm
      · rw [f q (by omega)]; exact hq q q1 q2
      · rw [f q (by omega)]; exact hz q q1 q2
      · exact absurd z (by show ¬ 5 ≤ 4; omega)
      · rw [f 4 (by decide)]; exact l4
  have hD : D = 5 := by omega
  subst hD
  obtain ⟨l6, hnu⟩ := hhigh rfl
  have l6' : ¬ rd 6 = 0 := by rw [l6]; decide
  by_cases hc9 : nI t = 59 ∧ ¬ nu = -1
  · have e : p_ok (pa, R9, nu, 5) (nI t) = true := if_pos hc9
    have e2 : p_nx (pa, R9, nu, 5) (nI t) = (pa, R9 + 1, nu, 0) := if_pos hc9
    have h4 : 0 < rd 4 := by
      rcases hnu with ⟨z, -⟩ | ⟨v, v1, v2, -, v4, -⟩
      · exact absurd z hc9.2
      · rw [v4, show (0 : Int32) = nI 0 from rfl, tp_lt (by omega) (by omega)]; omega
    refine r_sV1 hd hc (R_readsS hl hT hs0 h5 (by omega) (by omega) l6' hc9.1 h4) rfl hT.1 rfl rfl rfl hcat hrm hk (fun h1 hP => ?_)
    have := kk h1 _ hP (fun _ => by rw [e2]; exact Or.inl ⟨rfl, fun q _ => rfl⟩)
    rw [e, tp_b_t rfl] at this
    exact this
  · have hc8 : ¬ (nI t = 59 ∧ 0 < rd 4) := by
      rintro ⟨z1, z2⟩
      refine hc9 ⟨z1, fun z3 => ?_⟩
      rcases hnu with ⟨-, z⟩ | ⟨v, v1, v2, v3, -, -⟩
      · rw [z] at z2; exact absurd z2 (by decide)
      · rw [v3] at z3; exact rp_n1 (by omega) z3
    have e : p_ok (pa, R9, nu, 5) (nI t) = decide ((0 ≤ nI t - 48 ∧ nI t - 48 ≤ 9) ∧ (1 ≤ p_v nu (nI t - 48) ∧ p_v nu (nI t - 48) ≤ 99999)) := if_neg hc9
    have e2 : p_nx (pa, R9, nu, 5) (nI t) = (va_up pa (5 * R9 + 4) (p_nu nu (nI t - 48)), R9, p_nu nu (nI t - 48), 5) := if_neg hc9
    refine r_sV1 hd hc (R_readsA hl hT hs0 h5 (by omega) (by omega) l6' hc8) rfl hT.1 rfl rfl rfl hcat hrm hk (fun h1 hP => ?_)
    have eI : ((if 0 < rd 4 then 48 else 49) ≤ nI t ∧ nI t ≤ 57 ∧ rd 4 ≤ 9999) ↔ ((0 ≤ nI t - 48 ∧ nI t - 48 ≤ 9) ∧ (1 ≤ p_v nu (nI t - 48) ∧ p_v nu (nI t - 48) ≤ 99999)) := by
      rcases hnu with ⟨v3, v4⟩ | ⟨v, v1, v2, v3, v4, -⟩
      · rw [v3, v4, if_neg (by decide)]
        refine Iff.trans ?_ (rp_v0 ht)
        exact ⟨fun z => ⟨z.1, z.2.1⟩, fun z => ⟨z.1, z.2, by decide⟩⟩
      · rw [v3, v4, if_pos (by rw [show (0 : Int32) = nI 0 from rfl, tp_lt (by omega) (by omega)]; omega)]
        exact rp_vn v1 v2 ht
    have := kk h1 _ hP (fun hok => ?_)
    · rw [e, tp_b_dec, ← tp_b_iff eI] at this
      exact this
    · rw [e] at hok
      have hp := of_decide_eq_true hok
      rw [if_pos (eI.mpr hp), e2]
      have f : ∀ q y, q ≠ 4 → va_up rd 4 y q = rd q := fun q y hq => va_up_ne' _ _ hq
      have hpn : p_nu nu (nI t - 48) = p_v nu (nI t - 48) := if_pos hp
      have h48 : 48 ≤ t := by
        rcases Nat.lt_or_ge t 48 with z | z
        · exact absurd hp.1.1 (rp_low z)
        · exact z
      have hv : ∃ v, 1 ≤ v ∧ v ≤ 99999 ∧ p_v nu (nI t - 48) = nI v ∧ rd 4 * 10 + (nI t - 48) = nI v := by
        rcases hnu with ⟨v3, v4⟩ | ⟨v, v1, v2, v3, v4, -⟩
        · have e9 : p_v nu (nI t - 48) = nI (t - 48) := by rw [v3, rp_g h48]; rfl
          have hp2 := hp.2.1
          have hp3 := hp.1.2
          rw [e9, show (1 : Int32) = nI 1 from rfl, tp_le (by omega) (by omega)] at hp2
          rw [rp_g h48, show (9 : Int32) = nI 9 from rfl, tp_le (by omega) (by omega)] at hp3
          refine ⟨t - 48, hp2, by omega, e9, ?_⟩
          rw [v4, rp_g h48, show (0 : Int32) = nI 0 from rfl, show (10 : Int32) = nI 10 from rfl, tp_mul, tp_add]
          congr 1
          omega
        · have e9 : p_v nu (nI t - 48) = nI (10 * v + (t - 48)) := by rw [v3]; exact rp_vv v2 h48 ht
          have hp2 := hp.2.2
          rw [e9, show (99999 : Int32) = nI 99999 from rfl, tp_le (by omega) (by omega)] at hp2
          refine ⟨10 * v + (t - 48), by omega, hp2, e9, ?_⟩
          rw [v4, rp_g h48, show (10 : Int32) = nI 10 from rfl, tp_mul, tp_add]
          congr 1
          omega
      obtain ⟨v, v1, v2, v3, v4⟩ := hv
      rw [hpn, v3, v4]
      refine Or.inr ⟨by show 1 ≤ 5; omega, Nat.le_refl 5, ?_, ?_, m, ?_, fun z => ?_, fun z => ?_, fun q q1 q2 => ?_, fun q q1 q2 => ?_, fun z => ?_, fun z => ⟨?_, Or.inr ⟨v, v1, v2, rfl, va_up_eq _ _ _, va_up_eq _ _ _⟩⟩⟩
      · rw [f 0 _ (by decide)]; exact hs
      · rw [f 0 _ (by decide), h0]; exact (va_up_ne' _ _ (by omega)).symm
      · rw [f 5 _ (by decide)]; exact h5
      · exact absurd z (by show ¬ 5 ≤ 3; omega)
      · rw [f 0 _ (by decide)]; exact hm
      · rw [f q _ (by omega)]
        show rd q = va_up pa (5 * R9 + 4) (nI v) (5 * R9 + q) ∧ _
        rw [va_up_ne' _ _ (by omega)]
        exact hq q q1 q2
      · rw [f q _ (by omega)]; exact hz q q1 q2
      · exact absurd z (by show ¬ 5 ≤ 4; omega)
      · rw [f 6 _ (by decide)]; exact l6
end RPR
