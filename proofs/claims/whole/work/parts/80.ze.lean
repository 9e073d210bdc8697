/-! PAY, PASS -/
def z_papp (z : Nat → Int32) (P w c : Nat) (a : Int32) : Nat → Int32 := va_up (z_payR z P w c a) (z_at w c + 4) (z (z_at w c + 4) + a)
theorem z_drop_up {z : Nat → Int32} {N j k : Nat} {v : Int32} (h8 : z 8 = nI N) (hN : N ≤ 8) (hk : (k < 96 ∧ k ≠ 8) ∨ 136 ≤ k) : z_drop (va_up z k v) j = va_up (z_drop z j) k v := by
  funext q
  by_cases e : q = k
  · subst e
    rw [va_up_eq]
    unfold z_drop
    rw [va_up_ne' _ _ (show 8 ≠ q by omega), h8, z_nI (by omega), if_neg (by omega), if_neg (by omega), va_up_eq]
  · rw [va_up_ne' _ _ e]
    unfold z_drop
    rw [va_up_ne' _ _ (show 8 ≠ k by omega), h8, z_nI (by omega)]
    by_cases c : 96 + 5 * j ≤ q ∧ q + 5 < 96 + 5 * N
    · rw [if_pos c, if_pos c, va_up_ne' _ _ (by omega)]
    · rw [if_neg c, if_neg c, va_up_ne' _ _ e]
theorem z_pays_eq {z : Nat → Int32} {N P j w c : Nat} {a : Int32} (h8 : z 8 = nI N) (hN : N ≤ 8) (hw : w < 4) (hc : c < 4) : z_pays z j P w c a = z_papp (va_up (z_drop z j) (z_at w c) (z (z_at w c) - a)) P w c a := by
  have hat : 16 ≤ z_at w c := by unfold z_at; omega
  have hat2 : z_at w c + 5 ≤ 96 := by unfold z_at; omega
  · have e8 : ∀ (z' : Nat → Int32) k v, z' 8 = nI N → k ≠ 8 → va_up z' k v 8 = nI N := fun z' k v h hk => (va_up_ne' _ _ (Ne.symm hk)).trans h
    have eD : z_payD z j P w c a = z_payR (z_drop z j) P w c a := by
      unfold z_payD z_payR
      rw [z_drop_up (e8 _ _ _ (e8 _ _ _ (e8 _ _ _ (e8 _ _ _ (e8 _ _ _ h8 (by omega)) (by omega)) (by omega)) (by omega)) (by omega)) hN (by omega),
        z_drop_up (e8 _ _ _ (e8 _ _ _ (e8 _ _ _ (e8 _ _ _ h8 (by omega)) (by omega)) (by omega)) (by omega)) hN (by omega),
        z_drop_up (e8 _ _ _ (e8 _ _ _ (e8 _ _ _ h8 (by omega)) (by omega)) (by omega)) hN (by omega),
        z_drop_up (e8 _ _ _ (e8 _ _ _ h8 (by omega)) (by omega)) hN (by omega), z_drop_up (e8 _ _ _ h8 (by omega)) hN (by omega), z_drop_up h8 hN (by omega), z_drop_fr h8 hN (by omega) (show 9 ≠ 8 by omega), z_drop_fr h8 hN (by omega) (show 4 ≠ 8 by omega)]
    have fr : ∀ (f : Nat → Int32) q, 16 ≤ q → q < 96 → z_payR f P w c a q = f q := fun f q q1 q2 => by
      unfold z_payR
      rw [va_up_ne' _ _ (by omega), va_up_ne' _ _ (by omega), va_up_ne' _ _ (by omega), va_up_ne' _ _ (by omega), va_up_ne' _ _ (by omega), va_up_ne' _ _ (by omega)]
    have eR : ∀ v, z_payR (va_up (z_drop z j) (z_at w c) v) P w c a = va_up (z_payR (z_drop z j) P w c a) (z_at w c) v := fun v => by
      unfold z_payR
      rw [va_up_ne' _ _ (show 9 ≠ z_at w c by omega), va_up_ne' _ _ (show 4 ≠ z_at w c by omega)]
      rw [va_comm (show z_at w c ≠ 9 by omega), va_comm (show z_at w c ≠ 136 + 5 * P + 0 by omega), va_comm (show z_at w c ≠ 136 + 5 * P + 1 by omega), va_comm (show z_at w c ≠ 136 + 5 * P + 2 by omega), va_comm (show z_at w c ≠ 136 + 5 * P + 3 by omega), va_comm (show z_at w c ≠ 136 + 5 * P + 4 by omega)]
    unfold z_pays z_papp
    rw [eD, eR, show z_at w c + 0 = z_at w c from rfl, fr _ _ hat (by omega), va_up_ne' _ _ (show z_at w c + 4 ≠ z_at w c by omega), va_up_ne' _ _ (show z_at w c + 4 ≠ z_at w c by omega), fr _ _ (by omega) (by omega), z_drop_fr h8 hN (by omega) (show z_at w c ≠ 8 by omega)]
theorem z_papp_at {z : Nat → Int32} {P w c : Nat} {a : Int32} (h9 : z 9 = nI P) (q : Nat) : z_papp z P w c a q = if q = z_at w c + 4 then z (z_at w c + 4) + a else if q = 136 + 5 * P + 4 then 0 else if q = 136 + 5 * P + 3 then z 4 else if q = 136 + 5 * P + 2 then a else if q = 136 + 5 * P + 1 then nI c else if q = 136 + 5 * P then nI w else if q = 9 then nI (P + 1) else z q := by
  unfold z_papp z_payR va_up
  rw [h9, tp_1]
  rfl
theorem k_pay_at {u : Nat → Int32} {P w c : Nat} {a : Int32} (h9 : u 9 = nI P) (q : Nat) : k_pay u P w c a q = if q = 9 then nI (P + 1) else if q = 136 + 5 * P + 4 then 0 else if q = 136 + 5 * P + 3 then u 4 else if q = 136 + 5 * P + 2 then a else if q = 136 + 5 * P + 1 then nI c else if q = 136 + 5 * P then nI w else u q := by
  unfold k_pay va_up
  rw [h9, tp_1]
section ZP
variable {B N P : Nat} {u z : Nat → Int32}
theorem zr.papp (hz : zr N P u z) (hP : P < 12) {w c : Nat} (hw : w < 4) (hc : c < 4) (a : Int32) : zr N (P + 1) (k_pay u P w c a) (z_papp z P w c a) := by
  have h8 := hz.n8
  have a0 : 16 ≤ z_at w c ∧ z_at w c + 5 ≤ 96 := by unfold z_at; omega
  have fz : ∀ q, q ≠ 9 → q ≠ z_at w c + 4 → q < 136 + 5 * P → z_papp z P w c a q = z q := fun q q1 q2 q3 => by
    rw [z_papp_at hz.z9, if_neg q2, if_neg (by omega), if_neg (by omega), if_neg (by omega), if_neg (by omega), if_neg (by omega), if_neg q1]
  have fu : ∀ q, q ≠ 9 → q < 136 + 5 * P → k_pay u P w c a q = u q := fun q q1 q3 => by
    rw [k_pay_at hz.u9, if_neg q1, if_neg (by omega), if_neg (by omega), if_neg (by omega), if_neg (by omega), if_neg (by omega)]
  have z9 : z_papp z P w c a 9 = nI (P + 1) := by
    rw [z_papp_at hz.z9, if_neg (by omega), if_neg (by omega), if_neg (by omega), if_neg (by omega), if_neg (by omega), if_neg (by omega), if_pos rfl]
  have ep : ∀ w' c', k_paid (z_papp z P w c a) w' c' (P + 1) = k_paid z w' c' P + (if nI w = nI w' ∧ nI c = nI c' then a else 0) := fun w' c' => by
    show k_paid (z_papp z P w c a) w' c' P + _ = _
    rw [k_paid_cg (u := z_papp z P w c a) (z := z) P fun q q1 q2 _ => fz q (by omega) (by omega) q2]
    congr 1
    have r0 : z_papp z P w c a (136 + 5 * P) = nI w := by rw [z_papp_at hz.z9, if_neg (by omega), if_neg (by omega), if_neg (by omega), if_neg (by omega), if_neg (by omega), if_pos rfl]
    have r1 : z_papp z P w c a (136 + 5 * P + 1) = nI c := by rw [z_papp_at hz.z9, if_neg (by omega), if_neg (by omega), if_neg (by omega), if_neg (by omega), if_pos rfl]
    have r2 : z_papp z P w c a (136 + 5 * P + 2) = a := by rw [z_papp_at hz.z9, if_neg (by omega), if_neg (by omega), if_neg (by omega), if_pos rfl]
    rw [r0, r1, r2]
  refine ⟨⟨⟨(fz 8 (by omega) (by omega) (by omega)).trans hz.z8, h8⟩, z9, by omega⟩, fun q hq => ?_, fun w' c' hw' hc' => ?_, fun q h1 h2 => ?_, fun q h1 h2 => ?_⟩
  · by_cases e : q = 9
    · subst e
      rw [z9, k_pay_at hz.u9, if_pos rfl]
    · rw [fz q e (by omega) (by omega), fu q e (by omega), hz.hd hq]
  · obtain ⟨⟨b1, b2⟩, ⟨b3, b4⟩, b5⟩ := hz.2.2.1 w' c' hw' hc'
    have a1 : 16 ≤ z_at w' c' ∧ z_at w' c' + 5 ≤ 96 := by unfold z_at; omega
    have n4 : z_at w' c' ≠ z_at w c + 4 ∧ z_at w' c' + 1 ≠ z_at w c + 4 ∧ z_at w' c' + 2 ≠ z_at w c + 4 ∧ z_at w' c' + 3 ≠ z_at w c + 4 := by unfold z_at; omega
    rw [fu _ (by omega) (by omega), fu _ (by omega) (by omega), fu _ (by omega) (by omega), fu _ (by omega) (by omega), fz _ (by omega) n4.1 (by omega), fz _ (by omega) n4.2.1 (by omega), fz _ (by omega) n4.2.2.1 (by omega), fz _ (by omega) n4.2.2.2 (by omega), ep]
    refine ⟨⟨b1, b2⟩, ⟨b3, b4⟩, ?_⟩
    by_cases e : nI w = nI w' ∧ nI c = nI c'
    · rw [if_pos e]
      have e1 := (tp_eq (by omega) (by omega)).mp e.1
      have e2 := (tp_eq (by omega) (by omega)).mp e.2
      subst e1 e2
      rw [z_papp_at hz.z9, if_pos rfl, b5]
    · rw [if_neg e, fz _ (by omega) (fun q => e (by
        have : w' = w ∧ c' = c := by unfold z_at at q; omega
        rw [this.1, this.2]
        exact ⟨rfl, rfl⟩)) (by omega), b5]
      exact (Int32.add_zero _).symm
  · rw [fu q (by omega) (by omega), fz q (by omega) (by omega) (by omega)]
    exact hz.ho h1 h2
  · by_cases e : q < 136 + 5 * P
    · rw [fu q (by omega) e, fz q (by omega) (by omega) e]
      exact hz.pa h1 e
    · rw [k_pay_at hz.u9, z_papp_at hz.z9, if_neg (by omega), if_neg (show q ≠ z_at w c + 4 by omega), hz.hd (show 4 < 16 by omega)]
      by_cases e4 : q = 136 + 5 * P + 4
      · rw [if_pos e4, if_pos e4]
      · by_cases e3 : q = 136 + 5 * P + 3
        · rw [if_neg e4, if_neg e4, if_pos e3, if_pos e3]
        · by_cases e2 : q = 136 + 5 * P + 2
          · rw [if_neg e4, if_neg e4, if_neg e3, if_neg e3, if_pos e2, if_pos e2]
          · by_cases e1 : q = 136 + 5 * P + 1
            · rw [if_neg e4, if_neg e4, if_neg e3, if_neg e3, if_neg e2, if_neg e2, if_pos e1, if_pos e1]
            · have e0 : q = 136 + 5 * P := by omega
              rw [if_neg e4, if_neg e4, if_neg e3, if_neg e3, if_neg e2, if_neg e2, if_neg e1, if_neg e1, if_pos e0, if_pos e0]
theorem iv.papp (h : iv B N P z) (h9 : z 9 = nI P) (hN : N ≤ 8) {w c m : Nat} (hw : w < 4) (hc : c < 4) (hm : m ≤ 200000) : iv B N (P + 1) (z_papp z P w c (nI m)) := by
  have a0 : 16 ≤ z_at w c ∧ z_at w c + 5 ≤ 96 := by unfold z_at; omega
  have fz : ∀ q, q ≠ 9 → q ≠ z_at w c + 4 → q < 136 + 5 * P → z_papp z P w c (nI m) q = z q := fun q q1 q2 q3 => by
    rw [z_papp_at h9, if_neg q2, if_neg (by omega), if_neg (by omega), if_neg (by omega), if_neg (by omega), if_neg (by omega), if_neg q1]
  obtain ⟨⟨h0, h1, h2, h3⟩, ⟨D, ⟨h4, h4'⟩, h5, h6⟩, h7, h8⟩ := h
  refine ⟨⟨by rw [fz 0 (by omega) (by omega) (by omega)]; exact h0, by rw [fz 1 (by omega) (by omega) (by omega)]; exact h1, by rw [fz 2 (by omega) (by omega) (by omega)]; exact h2, by rw [fz 3 (by omega) (by omega) (by omega)]; exact h3⟩, ⟨D, ⟨by rw [fz 4 (by omega) (by omega) (by omega)]; exact h4, h4'⟩, fun j hj => rowH_cg (h5 j hj) fun q _ _ => fz q (by omega) (by omega) (by omega), fun j hj => ?_⟩, fun c c1 c2 => by rw [fz _ (by omega) (by omega) (by omega)]; exact h7 c c1 c2, fun w' c' hw' hc' => ?_⟩
  · by_cases e : j = P
    · subst e
      refine ⟨w, c, m, D, ⟨hw, hc, hm, Nat.le_refl D⟩, ⟨?_, ?_⟩, ?_, ?_⟩
      · rw [z_papp_at h9, if_neg (by omega), if_neg (by omega), if_neg (by omega), if_neg (by omega), if_neg (by omega), if_pos rfl]
      · rw [z_papp_at h9, if_neg (by omega), if_neg (by omega), if_neg (by omega), if_neg (by omega), if_pos rfl]
      · rw [z_papp_at h9, if_neg (by omega), if_neg (by omega), if_neg (by omega), if_pos rfl]
      · rw [z_papp_at h9, if_neg (by omega), if_neg (by omega), if_pos rfl]
        exact h4
    · exact rowP_cg (h6 j (by omega)) fun q _ _ => fz q (by omega) (by omega) (by omega)
  · have a1 : 16 ≤ z_at w' c' ∧ z_at w' c' + 5 ≤ 96 := by unfold z_at; omega
    refine iv_p_cg (h8 w' c' hw' hc') (Nat.le_refl _) (fun q q1 q2 => fz q (by omega) ?_ (by omega)) fun q _ _ => fz q (by omega) (by omega) (by omega)
    unfold z_at at *
    omega
theorem zr.pay (hz : zr N P u z) {j w c : Nat} (hj : j < N) (hP : P < 12) (hw : w < 4) (hc : c < 4) (a : Int32) : zr (N - 1) (P + 1) (k_pay (k_drop (va_up u (z_at w c) (u (z_at w c) - a)) N j) P w c a) (z_pays z j P w c a) := by
  rw [z_pays_eq hz.z8 hz.n8 hw hc, ← z_drop_up hz.z8 hz.n8 (by unfold z_at; omega), hz.ba hw hc]
  exact ((hz.up (by unfold z_at; omega) (by unfold z_at; omega)).drop hj).papp hP hw hc a
theorem iv.pay (h : iv B N P z) (h8 : z 8 = nI N) (hN : N ≤ 8) (h9 : z 9 = nI P) {j w c k m : Nat} (hj : j < N) (hw : w < 4) (hc : c < 4) (hw0 : z (96 + 5 * j) = nI w) (hc0 : z (96 + 5 * j + 1) = nI c) (hk : z (96 + 5 * j + 3) = nI k) (hk2 : k ≤ 200000) (hm : m ≤ k) : iv B (N - 1) (P + 1) (z_pays z j P w c (nI m)) := by
  obtain ⟨b, b1, b2, b3⟩ := h.b hw hc
  have e := kL_erase w c (hL z N) j (by rw [hL_len]; exact hj)
  rw [hL_at, ← hL_drop h8 hN hj, ← kN_L, ← kN_L] at e
  have ec : h_c w c (h_row z j) = k := by
    unfold h_c h_row
    rw [if_pos ⟨hw0, hc0⟩]
    show z_n (z (96 + 5 * j + 3)) = k
    rw [hk, z_nI (by omega)]
  have d := h.drop h8 hN hj
  have hat : 16 ≤ z_at w c ∧ z_at w c + 5 ≤ 96 := by unfold z_at; omega
  rw [z_pays_eq h8 hN hw hc, b1, tp_sub (by omega)]
  refine iv.papp (d.bal hw hc (Nat.le_refl _) (by omega) (by omega)) ?_ (by omega) hw hc (by omega)
  rw [va_up_ne' _ _ (by omega), z_drop_fr h8 hN (by omega) (by omega), h9]
end ZP
/-! sweeps -/
def g_sw (dr : (Nat → Int32) → Nat → Nat → Int32) : Nat → (Nat → Int32) → Int32 → (Nat → Int32) × Int32
  | 0, z, g => (z, g)
  | i + 1, z, g => if z 3 < z 4 - z (96 + 5 * i + 4) then g_sw dr i (dr z i) (g + 1) else g_sw dr i z g
theorem z_sweep_g : ∀ i z g, z_sweep i z g = g_sw z_drop i z g
  | 0, _, _ => rfl
  | i + 1, z, g => by
    unfold z_sweep g_sw
    rw [z_sweep_g i, z_sweep_g i]
theorem k_sweep_g : ∀ i z g, k_sweep i z g = g_sw (fun u j => k_drop u (z_n (u 8)) j) i z g
  | 0, _, _ => rfl
  | i + 1, z, g => by
    unfold k_sweep g_sw
    rw [k_sweep_g i, k_sweep_g i]
def h_new (s D : Int32) (r : h_R) : Bool := !decide (s < D - r.2.2.2.2)
def g_dr (dr : (Nat → Int32) → Nat → Nat → Int32) : Prop := ∀ z N j, z 8 = nI N → N ≤ 8 → j < N → dr z j 8 = nI (N - 1) ∧ hL (dr z j) (N - 1) = (hL z N).eraseIdx j ∧ ∀ q, (q < 96 ∨ 136 ≤ q) → q ≠ 8 → dr z j q = z q
theorem z_drop_gd : g_dr z_drop := fun z N j h8 hN hj => ⟨by rw [z_drop_8, h8, tp_m1 (by omega)], hL_drop h8 hN hj, fun q h1 h2 => z_drop_fr h8 hN h1 h2⟩
theorem k_drop_gd : g_dr (fun u j => k_drop u (z_n (u 8)) j) := fun u N j h8 hN hj => by
  have e : z_n (u 8) = N := by rw [h8, z_nI (by omega)]
  show k_drop u (z_n (u 8)) j 8 = _ ∧ hL (k_drop u (z_n (u 8)) j) (N - 1) = _ ∧ ∀ q, (q < 96 ∨ 136 ≤ q) → q ≠ 8 → k_drop u (z_n (u 8)) j q = u q
  rw [e]
  refine ⟨?_, hL_kdrop hN hj, fun q h1 h2 => k_drop_fr h1 h2⟩
  unfold k_drop
  rw [va_up_eq, h8, tp_m1 (by omega)]
theorem g_sw_spec {dr : (Nat → Int32) → Nat → Nat → Int32} (hd : g_dr dr) : ∀ i z g N, z 8 = nI N → N ≤ 8 → i ≤ N → ∃ N', ((g_sw dr i z g).1 8 = nI N' ∧ N' ≤ N) ∧ hL (g_sw dr i z g).1 N' = ((hL z N).take i).filter (h_new (z 3) (z 4)) ++ (hL z N).drop i ∧ (g_sw dr i z g).2 = g + nI (N - N') ∧ ∀ q, (q < 96 ∨ 136 ≤ q) → q ≠ 8 → (g_sw dr i z g).1 q = z q
  | 0, z, g, N, h8, hN, hi => by
    refine ⟨N, ⟨h8, Nat.le_refl _⟩, by simp [g_sw], ?_, fun q _ _ => rfl⟩
    rw [Nat.sub_self]
    exact (Int32.add_zero g).symm
  | i + 1, z, g, N, h8, hN, hi => by
    have hlen : i < (hL z N).length := by rw [hL_len]; omega
    have et : (hL z N).take (i + 1) = (hL z N).take i ++ [h_row z i] := by rw [List.take_succ_eq_append_getElem hlen, hL_at]
    unfold g_sw
    by_cases c : z 3 < z 4 - z (96 + 5 * i + 4)
    · rw [if_pos c]
      obtain ⟨d1, d2, d3⟩ := hd z N i h8 hN (by omega)
      obtain ⟨N', ⟨e1, e2⟩, e3, e4, e5⟩ := g_sw_spec hd i (dr z i) (g + 1) (N - 1) d1 (by omega) (by omega)
      refine ⟨N', ⟨e1, by omega⟩, ?_, ?_, fun q q1 q2 => (e5 q q1 q2).trans (d3 q q1 q2)⟩
      · rw [e3, d2, d3 3 (by omega) (by omega), d3 4 (by omega) (by omega), et, List.filter_append]
        have en : h_new (z 3) (z 4) (h_row z i) = false := by
          unfold h_new h_row
          rw [decide_eq_true c]
          rfl
        rw [List.eraseIdx_eq_take_drop_succ, List.take_left' (by rw [List.length_take, hL_len]; omega), List.drop_left' (by rw [List.length_take, hL_len]; omega), List.filter_cons_of_neg (by rw [en]; decide), List.filter_nil, List.append_nil]
      · rw [e4, Int32.add_assoc, show (1 : Int32) = nI 1 from rfl, tp_add]
        congr 2
        omega
    · rw [if_neg c]
      obtain ⟨N', ⟨e1, e2⟩, e3, e4, e5⟩ := g_sw_spec hd i z g N h8 hN (by omega)
      refine ⟨N', ⟨e1, e2⟩, ?_, e4, e5⟩
      rw [e3, et, List.filter_append]
      have en : h_new (z 3) (z 4) (h_row z i) = true := by
        unfold h_new h_row
        rw [decide_eq_false c]
        rfl
      rw [List.filter_cons_of_pos en, List.filter_nil, List.append_assoc, List.drop_eq_getElem_cons hlen, hL_at]
      rfl
