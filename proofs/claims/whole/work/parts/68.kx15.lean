theorem tp_arr_eq {c : ClassId} {N : Nat} {f g : Nat → Int32} (h : ∀ j, j < N → f j = g j) : vp_cell c (N, .inl f) = vp_cell c (N, .inl g) := by
  have hs : (arrV c N (fun j => .int (f j))).slots = (arrV c N (fun j => .int (g j))).slots := by
    apply Array.ext_getElem?
    intro i
    by_cases hi : i < N
    · rw [arrV_read _ _ hi, arrV_read _ _ hi, h i hi]
    · rw [Array.getElem?_eq_none (by rw [arrV_size]; omega), Array.getElem?_eq_none (by rw [arrV_size]; omega)]
  show arrV c N (fun j => .int (f j)) = arrV c N (fun j => .int (g j))
  have e : ∀ F : Nat → Value, arrV c N F = ({ cls := c, slots := (arrV c N F).slots } : Cell) := fun _ => rfl
  rw [e, e (fun j => .int (g j)), hs]
theorem r_eqI {l : Launch} {G : tp_G} {M : tp_M} {R : Room} {Q : tp_Q} {k n : Nat} {h : tp_H} {pc : Nat} {L : List (Option Value)} {sk : List Value} {c : ClassId} {a N : Nat} {f g : Nat → Int32} (hc : h.2 a = some (.inl (c, N, .inl f))) (he : ∀ j, j < N → f j = g j) (kk : tp_Run l G M R Q k n (h.1, tp_up h.2 a (.inl (c, N, .inl g))) pc L sk) : tp_Run l G M R Q k n h pc L sk := by
  intro p e s m args below meth cc A H locs ls hR hS hl
  obtain ⟨hA, hq⟩ := hR.2.2 a _ hc
  have hq : H[a]? = some (vp_cell c (N, .inl f)) := hq
  refine kk p e s m args below meth cc A H locs ls (hR.set hA (e := .inl (c, N, .inl g)) (show H[a]? = some (vp_cell c (N, .inl g)) by rw [hq, tp_arr_eq he]) rfl (fun _ _ => rfl)) hS hl
def u_0 : Nat → Int32 := fun q => if q = 0 then 7 else if q = 1 then 10 else if q = 2 then 20 else if q = 3 then 5 else if q = 5 then 1000 else if q = 6 then 1500 else if q = 7 then 500 else if 16 ≤ q ∧ q < 96 ∧ (q - 16) % 5 = 3 then -1 else 0
def kn_S (G : tp_G) (b : Nat) (h0 : tp_H) (i j m : Nat) (h : tp_H) : Prop :=
  (h.1 = b + 6 + i + j + m ∧ ∀ a, a < b → h.2 a = h0.2 a) ∧ (∀ o, o < 6 + i + j + m → o ≠ 3 → o ≠ 4 → o ≠ 5 → h.2 (b + o) = some (kb_c G b u_0 id id o)) ∧
  (h.2 (b + 3) = some (.inl (G.2.2.1 6, 16, .inr (.inr (.inr (.inr (kF (b + 6) i)))))) ∧ h.2 (b + 4) = some (.inl (G.2.2.1 4, 8, .inr (.inr (.inr (.inr (kF (b + 22) j)))))) ∧ h.2 (b + 5) = some (.inl (G.2.2.1 5, 12, .inr (.inr (.inr (.inr (kF (b + 30) m)))))))
theorem kn_S.ob {G : tp_G} {b : Nat} {h0 : tp_H} {i j m : Nat} {h : tp_H} (hT : kn_S G b h0 i j m h) : h.2 b = some (.inr (0, [.int 0, .ref (b + 1), .ref (b + 2), .ref (b + 3), .ref (b + 4), .int 0, .ref (b + 5), .int 0, .int 0, .int 0, .int 0, .int 0, .int 0, .int 0])) := hT.2.1 0 (by omega) (by decide) (by decide) (by decide)
theorem kF_up {a i : Nat} : va_up (kF a i) i (some (a + i)) = kF a (i + 1) := by
  funext q
  by_cases e : q = i
  · subst e
    rw [va_up_eq]
    exact (if_pos (Nat.lt_succ_self q)).symm
  · rw [va_up_ne' _ _ e]
    unfold kF
    by_cases hq : q < i
    · rw [if_pos hq, if_pos (by omega)]
    · rw [if_neg hq, if_neg (by omega)]
/-- one more object behind the others, and its reference stored -/
theorem kn_S.push {G : tp_G} {b : Nat} {h0 h h1 : tp_H} {i j m i' j' m' t : Nat} {e : va_E} (hT : kn_S G b h0 i j m h) (hs : i' + j' + m' = i + j + m + 1) (h1e : h1.1 = h.1 + 1)
    (hne : 3 ≤ t ∧ t ≤ 5) (ht : h1.2 (b + t) = some e) (hp : h1.2 h.1 = some (kb_c G b u_0 id id (6 + i + j + m))) (hk : ∀ a, a ≠ h.1 → a ≠ b + t → h1.2 a = h.2 a)
    (k3 : h1.2 (b + 3) = some (.inl (G.2.2.1 6, 16, .inr (.inr (.inr (.inr (kF (b + 6) i')))))) ) (k4 : h1.2 (b + 4) = some (.inl (G.2.2.1 4, 8, .inr (.inr (.inr (.inr (kF (b + 22) j')))))) ) (k5 : h1.2 (b + 5) = some (.inl (G.2.2.1 5, 12, .inr (.inr (.inr (.inr (kF (b + 30) m')))))) ) : kn_S G b h0 i' j' m' h1 := by
  have z := hT.1.1
  refine ⟨⟨by omega, fun a ha => (hk a (by omega) (by omega)).trans (hT.1.2 a ha)⟩, fun o ho n3 n4 n5 => ?_, k3, k4, k5⟩
  by_cases e : o = 6 + i + j + m
  · subst e
    have e2 : b + (6 + i + j + m) = h.1 := by omega
    rw [e2]
    exact hp
  · exact (hk _ (by omega) (by omega)).trans (hT.2.1 o (by omega) n3 n4 n5)
theorem kn_div (i : Nat) (hi : i < 16) : nI i / (4 : Int32) = nI (i / 4) ∧ nI i - nI (i / 4) * 4 = nI (i % 4) := by
  have : ∀ i : Fin 16, nI i.val / (4 : Int32) = nI (i.val / 4) ∧ nI i.val - nI (i.val / 4) * 4 = nI (i.val % 4) := by decide
  exact this ⟨i, hi⟩
theorem kn_def4 : ∀ r, vwCl[4]? = some r → ∀ j, j < 6 → ∀ ty, parseFieldDescriptor (r.2.1 j).2.2.1 = some ty → defaultValue ty = vp_V [.int 0, .int 0, .int 0, .int 0, .int 0, .int 0] j := by
  intro r hr j hj ty hty
  cases hr
  have : j = 0 ∨ j = 1 ∨ j = 2 ∨ j = 3 ∨ j = 4 ∨ j = 5 := by omega
  rcases this with rfl | rfl | rfl | rfl | rfl | rfl <;> (cases hty; rfl)
theorem kn_def1 : ∀ r, vwCl[1]? = some r → ∀ j, j < 5 → ∀ ty, parseFieldDescriptor (r.2.1 j).2.2.1 = some ty → defaultValue ty = vp_V [.int 0, .int 0, .int 0, .int 0, .int 0] j := by
  intro r hr j hj ty hty
  cases hr
  have : j = 0 ∨ j = 1 ∨ j = 2 ∨ j = 3 ∨ j = 4 := by omega
  rcases this with rfl | rfl | rfl | rfl | rfl <;> (cases hty; rfl)
theorem kn_def3 : ∀ r, vwCl[3]? = some r → ∀ j, j < 5 → ∀ ty, parseFieldDescriptor (r.2.1 j).2.2.1 = some ty → defaultValue ty = vp_V [.int 0, .int 0, .int 0, .int 0, .int 0] j := by
  intro r hr j hj ty hty
  cases hr
  have : j = 0 ∨ j = 1 ∨ j = 2 ∨ j = 3 ∨ j = 4 := by omega
  rcases this with rfl | rfl | rfl | rfl | rfl <;> (cases hty; rfl)
theorem kn_end {G : tp_G} {b : Nat} {h0 h : tp_H} (hT : kn_S G b h0 16 8 12 h) (o : Nat) (ho : o < 42) : h.2 (b + o) = some (kb_c G b u_0 id id o) := by
  by_cases e3 : o = 3
  · subst e3
    exact hT.2.2.1
  by_cases e4 : o = 4
  · subst e4
    exact hT.2.2.2.1
  by_cases e5 : o = 5
  · subst e5
    exact hT.2.2.2.2
  exact hT.2.1 o (by omega) e3 e4 e5
theorem kn_c4 {G : tp_G} {b i : Nat} (hi : i < 16) : kb_c G b u_0 id id (6 + i + 0 + 0) = .inr (4, [.int (nI (i / 4)), .int (nI (i % 4)), .int 0, .int 0, .int 0, .int (-1)]) := by
  have : ∀ i : Fin 16, ∀ G b, kb_c G b u_0 id id (6 + i.val + 0 + 0) = .inr (4, [.int (nI (i.val / 4)), .int (nI (i.val % 4)), .int 0, .int 0, .int 0, .int (-1)]) := by
    intro i G b
    unfold kb_c k4 u_0
    rw [if_neg (by omega), if_neg (by omega), if_neg (by omega), if_neg (by omega), if_neg (by omega), if_neg (by omega), if_pos (by omega)]
    have e : 6 + i.val + 0 + 0 - 6 = i.val := by omega
    rw [e]
    simp only []
    rw [if_neg (by omega), if_neg (by omega), if_neg (by omega), if_neg (by omega), if_neg (by omega), if_neg (by omega), if_neg (by omega), if_neg (by omega)]
    rw [if_neg (by omega), if_neg (by omega), if_neg (by omega), if_neg (by omega), if_neg (by omega), if_neg (by omega), if_neg (by omega), if_neg (by omega)]
    rw [if_neg (by omega), if_neg (by omega), if_neg (by omega), if_neg (by omega), if_neg (by omega), if_neg (by omega), if_neg (by omega), if_neg (by omega)]
    rw [if_neg (by omega), if_neg (by omega), if_neg (by omega), if_neg (by omega), if_neg (by omega), if_neg (by omega), if_neg (by omega), if_pos (by omega)]
  exact this ⟨i, hi⟩ G b
theorem kn_z {q : Nat} (hq : 96 ≤ q) : u_0 q = 0 := by
  unfold u_0
  rw [if_neg (by omega), if_neg (by omega), if_neg (by omega), if_neg (by omega), if_neg (by omega), if_neg (by omega), if_neg (by omega), if_neg (by omega)]
theorem kn_c1 {G : tp_G} {b i : Nat} (hi : i < 8) : kb_c G b u_0 id id (6 + 16 + i + 0) = .inr (1, [.int 0, .int 0, .int 0, .int 0, .int 0]) := by
  unfold kb_c k5
  rw [if_neg (by omega), if_neg (by omega), if_neg (by omega), if_neg (by omega), if_neg (by omega), if_neg (by omega), if_neg (by omega), if_pos (by omega)]
  simp only []
  rw [kn_z (by omega), kn_z (by omega), kn_z (by omega), kn_z (by omega), kn_z (by omega)]
theorem kn_c3 {G : tp_G} {b i : Nat} (hi : i < 12) : kb_c G b u_0 id id (6 + 16 + 8 + i) = .inr (3, [.int 0, .int 0, .int 0, .int 0, .int 0]) := by
  unfold kb_c k5
  rw [if_neg (by omega), if_neg (by omega), if_neg (by omega), if_neg (by omega), if_neg (by omega), if_neg (by omega), if_neg (by omega), if_neg (by omega)]
  simp only []
  rw [kn_z (by omega), kn_z (by omega), kn_z (by omega), kn_z (by omega), kn_z (by omega)]
set_option maxRecDepth 100000 in
set_option maxHeartbeats 4000000 in
theorem N_X0q  {l : Launch} {G : tp_G} {b : Nat} {h0 : tp_H} (hl : l.stackTraces = false) : ∀ d (i k n : Nat) (h : tp_H), d + i = 12 → k = 29 + i → n = 180 + 5 * i → kn_S G b h0 16 8 i h → tp_Run l G mX0_init (tp_rm mX0_init 41 240) (tp_QM G 41 240 (tp_PS none (fun h1 => kb_C G b u_0 id id h1 ∧ h1.1 = b + 42 ∧ ∀ a, a < b → h1.2 a = h0.2 a)) tp_NX) k n h 125 [some (.ref b), some (.int (nI i))] [] := by
  intro d
  induction d with
  | zero =>
    intro i k n h hd hk hn hT
    refine r_iload1 dX0_init_125 ?_
    refine r_aload0 dX0_init_126 ?_
    refine r_getf dX0_init_127 f_X0_43 (hT.ob) rfl ?_
    refine r_alen dX0_init_130 (t := 5) (by decide) hT.2.2.2.2 ?_
    refine r_icmp_ge (tgt := 153) dX0_init_131 (by decide) (fun c131 => ?_) (fun c131 => ?_)
    · have hi9 : i = 12 := by omega
      subst hi9
      exact r_vret dX0_init_153 rfl ⟨by show k ≤ 41; omega, by show n ≤ 240; omega⟩ ⟨rfl, ⟨fun o ho => kn_end hT o ho, fun j hj => ⟨hj, rfl⟩, fun j hj => ⟨hj, rfl⟩⟩, hT.1.1, hT.1.2⟩
    · exact absurd (show nI 12 ≤ nI i by rw [tp_le (by omega) (by omega)]; omega) c131
  | succ d ih =>
    intro i k n h hd hk hn hT
    refine r_iload1 dX0_init_125 ?_
    refine r_aload0 dX0_init_126 ?_
    refine r_getf dX0_init_127 f_X0_43 (hT.ob) rfl ?_
    refine r_alen dX0_init_130 (t := 5) (by decide) hT.2.2.2.2 ?_
    refine r_icmp_ge (tgt := 153) dX0_init_131 (by decide) (fun c131 => ?_) (fun c131 => ?_)
    · have c2 : nI 12 ≤ nI i := c131
      rw [tp_le (by omega) (by omega)] at c2; omega
    · refine r_aload0 dX0_init_134 ?_
      refine r_getf dX0_init_135 f_X0_43 (hT.ob) rfl ?_
      refine r_iload1 dX0_init_138 ?_
      refine r_new dX0_init_139 n_X0_41 (fs := [.int 0, .int 0, .int 0, .int 0, .int 0]) rfl kn_def3 ⟨by show k + 1 ≤ 41; omega, by show n + 5 ≤ 240; omega⟩ (fun hlt => ?_)
      refine r_dup dX0_init_142 rfl ?_
      refine r_callIN (As := []) (rest := [.ref h.1, .int (nI i), .ref (b + 5)]) dX0_init_143 (List.Mem.tail _ (List.Mem.head _)) vn_X0_51 (N_X3 hl) rfl rfl rfl (Nat.le_of_ble_eq_true rfl) ⟨(Nat.le_of_ble_eq_true rfl), (Nat.le_of_ble_eq_true rfl)⟩ ⟨by show k + 1 + 0 ≤ 41; omega, by show n + 5 + 0 ≤ 240; omega⟩ (fun r h1 hP => ?_) (fun E h1 hP => hP.elim)
      obtain ⟨rfl, rfl⟩ := hP
      refine r_aast (t := 5) (ci := 3) dX0_init_146 (by decide) ((tp_up_n (by have := hT.1.1; omega)).trans (hT.2.2.2.2)) tp_up_s rfl (i := i) rfl (by omega) (by decide) ?_
      refine r_iinc1 (v := nI (i + 1)) dX0_init_147 (Nat.le_of_ble_eq_true rfl) rfl (tp_inc i) ?_
      have z := hT.1.1
      refine r_goto (tgt := 125) dX0_init_150 (by decide) (ih (i + 1) _ _ _ (by omega) (by show k + 1 + 0 = _; omega) (by show n + 5 + 0 = _; omega) (hT.push (i' := 16) (j' := 8) (m' := (i + 1)) (t := 5) (by omega) rfl (by omega) tp_up_s ?_ (fun a n1 n2 => ?_) ?_ ?_ ?_))
      · refine (tp_up_n (by omega)).trans (tp_up_s.trans ?_)
        rw [kn_c3 (by omega)]
      · exact (tp_up_n n2).trans ((tp_up_n n1))
      · exact (tp_up_n (by omega)).trans ((tp_up_n (by omega)).trans (hT.2.2.1))
      · exact (tp_up_n (by omega)).trans ((tp_up_n (by omega)).trans (hT.2.2.2.1))
      · refine tp_up_s.trans ?_
        have e9 : h.1 = b + 30 + i := by omega
        rw [e9, ← kF_up]

set_option maxRecDepth 100000 in
set_option maxHeartbeats 4000000 in
theorem N_X0h  {l : Launch} {G : tp_G} {b : Nat} {h0 : tp_H} (hl : l.stackTraces = false) : ∀ d (i k n : Nat) (h : tp_H), d + i = 8 → k = 21 + i → n = 140 + 5 * i → kn_S G b h0 16 i 0 h → tp_Run l G mX0_init (tp_rm mX0_init 41 240) (tp_QM G 41 240 (tp_PS none (fun h1 => kb_C G b u_0 id id h1 ∧ h1.1 = b + 42 ∧ ∀ a, a < b → h1.2 a = h0.2 a)) tp_NX) k n h 95 [some (.ref b), some (.int (nI i))] [] := by
  intro d
  induction d with
  | zero =>
    intro i k n h hd hk hn hT
    refine r_iload1 dX0_init_95 ?_
    refine r_aload0 dX0_init_96 ?_
    refine r_getf dX0_init_97 f_X0_37 (hT.ob) rfl ?_
    refine r_alen dX0_init_100 (t := 4) (by decide) hT.2.2.2.1 ?_
    refine r_icmp_ge (tgt := 123) dX0_init_101 (by decide) (fun c101 => ?_) (fun c101 => ?_)
    · refine r_iconst (v := 0) dX0_init_123 (by decide) ?_
      refine r_istore1 dX0_init_124 (Nat.le_of_ble_eq_true rfl) rfl ?_
      have hi9 : i = 8 := by omega
      subst hi9
      exact N_X0q hl 12 0 _ _ _ rfl (by omega) (by omega) hT
    · exact absurd (show nI 8 ≤ nI i by rw [tp_le (by omega) (by omega)]; omega) c101
  | succ d ih =>
    intro i k n h hd hk hn hT
    refine r_iload1 dX0_init_95 ?_
    refine r_aload0 dX0_init_96 ?_
    refine r_getf dX0_init_97 f_X0_37 (hT.ob) rfl ?_
    refine r_alen dX0_init_100 (t := 4) (by decide) hT.2.2.2.1 ?_
    refine r_icmp_ge (tgt := 123) dX0_init_101 (by decide) (fun c101 => ?_) (fun c101 => ?_)
    · have c2 : nI 8 ≤ nI i := c101
      rw [tp_le (by omega) (by omega)] at c2; omega
    · refine r_aload0 dX0_init_104 ?_
      refine r_getf dX0_init_105 f_X0_37 (hT.ob) rfl ?_
      refine r_iload1 dX0_init_108 ?_
      refine r_new dX0_init_109 n_X0_35 (fs := [.int 0, .int 0, .int 0, .int 0, .int 0]) rfl kn_def1 ⟨by show k + 1 ≤ 41; omega, by show n + 5 ≤ 240; omega⟩ (fun hlt => ?_)
      refine r_dup dX0_init_112 rfl ?_
      refine r_callIN (As := []) (rest := [.ref h.1, .int (nI i), .ref (b + 4)]) dX0_init_113 (List.Mem.head _) vn_X0_50 (N_X1 hl) rfl rfl rfl (Nat.le_of_ble_eq_true rfl) ⟨(Nat.le_of_ble_eq_true rfl), (Nat.le_of_ble_eq_true rfl)⟩ ⟨by show k + 1 + 0 ≤ 41; omega, by show n + 5 + 0 ≤ 240; omega⟩ (fun r h1 hP => ?_) (fun E h1 hP => hP.elim)
      obtain ⟨rfl, rfl⟩ := hP
      refine r_aast (t := 4) (ci := 1) dX0_init_116 (by decide) ((tp_up_n (by have := hT.1.1; omega)).trans (hT.2.2.2.1)) tp_up_s rfl (i := i) rfl (by omega) (by decide) ?_
      refine r_iinc1 (v := nI (i + 1)) dX0_init_117 (Nat.le_of_ble_eq_true rfl) rfl (tp_inc i) ?_
      have z := hT.1.1
      refine r_goto (tgt := 95) dX0_init_120 (by decide) (ih (i + 1) _ _ _ (by omega) (by show k + 1 + 0 = _; omega) (by show n + 5 + 0 = _; omega) (hT.push (i' := 16) (j' := (i + 1)) (m' := 0) (t := 4) (by omega) rfl (by omega) tp_up_s ?_ (fun a n1 n2 => ?_) ?_ ?_ ?_))
      · refine (tp_up_n (by omega)).trans (tp_up_s.trans ?_)
        rw [kn_c1 (by omega)]
      · exact (tp_up_n n2).trans ((tp_up_n n1))
      · exact (tp_up_n (by omega)).trans ((tp_up_n (by omega)).trans (hT.2.2.1))
      · refine tp_up_s.trans ?_
        have e9 : h.1 = b + 22 + i := by omega
        rw [e9, ← kF_up]
      · exact (tp_up_n (by omega)).trans ((tp_up_n (by omega)).trans (hT.2.2.2.2))

set_option maxRecDepth 100000 in
set_option maxHeartbeats 4000000 in
theorem N_X0p  {l : Launch} {G : tp_G} {b : Nat} {h0 : tp_H} (hl : l.stackTraces = false) : ∀ d (i k n : Nat) (h : tp_H), d + i = 16 → k = 5 + i → n = 44 + 6 * i → kn_S G b h0 i 0 0 h → tp_Run l G mX0_init (tp_rm mX0_init 41 240) (tp_QM G 41 240 (tp_PS none (fun h1 => kb_C G b u_0 id id h1 ∧ h1.1 = b + 42 ∧ ∀ a, a < b → h1.2 a = h0.2 a)) tp_NX) k n h 59 [some (.ref b), some (.int (nI i))] [] := by
  intro d
  induction d with
  | zero =>
    intro i k n h hd hk hn hT
    refine r_iload1 dX0_init_59 ?_
    refine r_aload0 dX0_init_60 ?_
    refine r_getf dX0_init_61 f_X0_31 (hT.ob) rfl ?_
    refine r_alen dX0_init_64 (t := 6) (by decide) hT.2.2.1 ?_
    refine r_icmp_ge (tgt := 93) dX0_init_65 (by decide) (fun c65 => ?_) (fun c65 => ?_)
    · refine r_iconst (v := 0) dX0_init_93 (by decide) ?_
      refine r_istore1 dX0_init_94 (Nat.le_of_ble_eq_true rfl) rfl ?_
      have hi9 : i = 16 := by omega
      subst hi9
      exact N_X0h hl 8 0 _ _ _ rfl (by omega) (by omega) hT
    · exact absurd (show nI 16 ≤ nI i by rw [tp_le (by omega) (by omega)]; omega) c65
  | succ d ih =>
    intro i k n h hd hk hn hT
    refine r_iload1 dX0_init_59 ?_
    refine r_aload0 dX0_init_60 ?_
    refine r_getf dX0_init_61 f_X0_31 (hT.ob) rfl ?_
    refine r_alen dX0_init_64 (t := 6) (by decide) hT.2.2.1 ?_
    refine r_icmp_ge (tgt := 93) dX0_init_65 (by decide) (fun c65 => ?_) (fun c65 => ?_)
    · have c2 : nI 16 ≤ nI i := c65
      rw [tp_le (by omega) (by omega)] at c2; omega
    · refine r_aload0 dX0_init_68 ?_
      refine r_getf dX0_init_69 f_X0_31 (hT.ob) rfl ?_
      refine r_iload1 dX0_init_72 ?_
      refine r_new dX0_init_73 n_X0_29 (fs := [.int 0, .int 0, .int 0, .int 0, .int 0, .int 0]) rfl kn_def4 ⟨by show k + 1 ≤ 41; omega, by show n + 6 ≤ 240; omega⟩ (fun hlt => ?_)
      refine r_dup dX0_init_76 rfl ?_
      refine r_iload1 dX0_init_77 ?_
      refine r_iconst (v := 4) dX0_init_78 (by decide) ?_
      refine r_idiv dX0_init_79 (by decide) ?_
      refine r_iload1 dX0_init_80 ?_
      refine r_iconst (v := 4) dX0_init_81 (by decide) ?_
      refine r_irem dX0_init_82 (by decide) ?_
      rw [(kn_div i (by omega)).1, (kn_div i (by omega)).2]
      refine r_callI (As := [.int (nI (i / 4)), .int (nI (i % 4))]) (rest := [.ref h.1, .int (nI i), .ref (b + 3)]) dX0_init_83 v_X0_47 (N_X4 hl tp_up_s) rfl rfl rfl (Nat.le_of_ble_eq_true rfl) ⟨(Nat.le_of_ble_eq_true rfl), (Nat.le_of_ble_eq_true rfl)⟩ ⟨by show k + 1 + 0 ≤ 41; omega, by show n + 6 + 0 ≤ 240; omega⟩ (fun r h1 hP => ?_) (fun E h1 hP => hP.elim)
      obtain ⟨rfl, rfl⟩ := hP
      refine r_aast (t := 6) (ci := 4) dX0_init_86 (by decide) ((tp_up_n (by have := hT.1.1; omega)).trans ((tp_up_n (by have := hT.1.1; omega)).trans (hT.2.2.1))) tp_up_s rfl (i := i) rfl (by omega) (by decide) ?_
      refine r_iinc1 (v := nI (i + 1)) dX0_init_87 (Nat.le_of_ble_eq_true rfl) rfl (tp_inc i) ?_
      have z := hT.1.1
      refine r_goto (tgt := 59) dX0_init_90 (by decide) (ih (i + 1) _ _ _ (by omega) (by show k + 1 + 0 = _; omega) (by show n + 6 + 0 = _; omega) (hT.push (i' := (i + 1)) (j' := 0) (m' := 0) (t := 3) (by omega) rfl (by omega) tp_up_s ?_ (fun a n1 n2 => ?_) ?_ ?_ ?_))
      · refine (tp_up_n (by omega)).trans (tp_up_s.trans ?_)
        rw [kn_c4 (by omega)]
      · exact (tp_up_n n2).trans ((tp_up_n n1).trans ((tp_up_n n1)))
      · refine tp_up_s.trans ?_
        have e9 : h.1 = b + 6 + i := by omega
        rw [e9, ← kF_up]
      · exact (tp_up_n (by omega)).trans ((tp_up_n (by omega)).trans ((tp_up_n (by omega)).trans (hT.2.2.2.1)))
      · exact (tp_up_n (by omega)).trans ((tp_up_n (by omega)).trans ((tp_up_n (by omega)).trans (hT.2.2.2.2)))

set_option maxRecDepth 100000 in
set_option maxHeartbeats 4000000 in
theorem N_X0 {l : Launch} {G : tp_G} {h : tp_H} {b : Nat} (hl : l.stackTraces = false) (hb : h.1 = b + 1) (hT : h.2 b = some (.inr (0, [.int 0, .null, .null, .null, .null, .int 0, .null, .int 0, .int 0, .int 0, .int 0, .int 0, .int 0, .int 0]))) : tp_Met l G mX0_init 41 240 [.ref b] h (tp_PS none (fun h1 => kb_C G b u_0 id id h1 ∧ h1.1 = b + 42 ∧ ∀ a, a < b → h1.2 a = h.2 a)) tp_NX := by
  refine tp_start (L0 := [some (.ref b), none]) (by decide) rfl hl (Nat.le_of_ble_eq_true rfl) rfl ?_
  refine r_aload0 dX0_init_0 ?_
  refine r_objInit dX0_init_1 v_X0_3 (Nat.le_of_ble_eq_true rfl) (Nat.le_of_ble_eq_true rfl) ?_
  refine r_aload0 dX0_init_4 ?_
  refine r_gets0 dX0_init_5 (List.Mem.head _) ?_
  refine r_cloneT dX0_init_8 v_X0_13 (by decide) (Nat.le_of_ble_eq_true rfl) (Nat.le_of_ble_eq_true rfl) ⟨(Nat.le_of_ble_eq_true rfl), (Nat.le_of_ble_eq_true rfl)⟩ (fun hl0 => ?_)
  refine r_castI dX0_init_11 cl_X0_14 tp_up_s ?_
  refine r_putF dX0_init_14 f_X0_18 ft_0_1 rfl rfl ((tp_up_n (Nat.ne_of_lt (by show b < h.1; omega))).trans hT) (Nat.le_of_ble_eq_true rfl) rfl rfl ?_
  refine r_aload0 dX0_init_17 ?_
  refine r_gets1 dX0_init_18 (List.Mem.tail _ (List.Mem.head _)) ?_
  refine r_cloneT dX0_init_21 v_X0_13 (by decide) (Nat.le_of_ble_eq_true rfl) (Nat.le_of_ble_eq_true rfl) ⟨(Nat.le_of_ble_eq_true rfl), (Nat.le_of_ble_eq_true rfl)⟩ (fun hl1 => ?_)
  refine r_castI dX0_init_24 cl_X0_14 tp_up_s ?_
  dsimp only
  refine r_putF dX0_init_27 f_X0_26 ft_0_2 rfl rfl ((tp_up_n (Nat.ne_of_lt (by show b < h.1 + 1; omega))).trans tp_up_s) (Nat.le_of_ble_eq_true rfl) rfl rfl ?_
  dsimp only
  refine r_aload0 dX0_init_30 ?_
  refine r_bipush (v := 16) dX0_init_31 (by decide) ?_
  refine r_newA (N := 16) (t := 6) dX0_init_33 cl_X0_29 (by decide) (by decide) rfl rfl (by decide) ⟨(Nat.le_of_ble_eq_true rfl), (Nat.le_of_ble_eq_true rfl)⟩ (fun hl6 => ?_)
  dsimp only
  refine r_putF dX0_init_36 f_X0_31 ft_0_3 rfl rfl ((tp_up_n (Nat.ne_of_lt (by show b < h.1 + 1 + 1; omega))).trans tp_up_s) (Nat.le_of_ble_eq_true rfl) rfl rfl ?_
  dsimp only
  refine r_aload0 dX0_init_39 ?_
  refine r_bipush (v := 8) dX0_init_40 (by decide) ?_
  refine r_newA (N := 8) (t := 4) dX0_init_42 cl_X0_35 (by decide) (by decide) rfl rfl (by decide) ⟨(Nat.le_of_ble_eq_true rfl), (Nat.le_of_ble_eq_true rfl)⟩ (fun hl4 => ?_)
  dsimp only
  refine r_putF dX0_init_45 f_X0_37 ft_0_4 rfl rfl ((tp_up_n (Nat.ne_of_lt (by show b < h.1 + 1 + 1 + 1; omega))).trans tp_up_s) (Nat.le_of_ble_eq_true rfl) rfl rfl ?_
  dsimp only
  refine r_aload0 dX0_init_48 ?_
  refine r_bipush (v := 12) dX0_init_49 (by decide) ?_
  refine r_newA (N := 12) (t := 5) dX0_init_51 cl_X0_41 (by decide) (by decide) rfl rfl (by decide) ⟨(Nat.le_of_ble_eq_true rfl), (Nat.le_of_ble_eq_true rfl)⟩ (fun hl5 => ?_)
  dsimp only
  refine r_putF dX0_init_54 f_X0_43 ft_0_6 rfl rfl ((tp_up_n (Nat.ne_of_lt (by show b < h.1 + 1 + 1 + 1 + 1; omega))).trans tp_up_s) (Nat.le_of_ble_eq_true rfl) rfl rfl ?_
  dsimp only
  refine r_iconst (v := 0) dX0_init_57 (by decide) ?_
  refine r_istore1 dX0_init_58 (Nat.le_of_ble_eq_true rfl) rfl ?_
  refine r_eqI (a := b + 1) (c := G.2.2.1 0) (N := 4) (f := tp_st 0) (g := kS u_0) (by rw [hb]; simp [tp_up]) (by decide) ?_
  refine r_eqI (a := b + 2) (c := G.2.2.1 0) (N := 4) (f := tp_st 1) (g := kR u_0) (by rw [hb]; simp [tp_up]) (by decide) ?_
  refine N_X0p hl 16 0 _ _ _ rfl rfl rfl ⟨⟨by show h.1 + 1 + 1 + 1 + 1 + 1 = _; omega, fun a ha => ?_⟩, fun o ho n3 n4 n5 => ?_, ?_, ?_, ?_⟩
  · simp only [tp_up]
    repeat rw [if_neg (by omega)]
  · have : o = 0 ∨ o = 1 ∨ o = 2 := by omega
    rcases this with rfl | rfl | rfl
    · rw [hb]; simp [tp_up]; rfl
    · rw [hb]; simp [tp_up]; rfl
    · rw [hb]; simp [tp_up]; rfl
  · rw [hb]; simp [tp_up]; rfl
  · rw [hb]; simp [tp_up]; rfl
  · rw [hb]; simp [tp_up]; rfl

