def kx_s0 (x i : Nat) : Nat → Option Nat := fun j => if j < i then some (x + 44 + 42 * j) else none
theorem kx_s0_up {x i : Nat} : va_up (kx_s0 x i) i (some (x + 44 + 42 * i)) = kx_s0 x (i + 1) := by
  funext q
  by_cases e : q = i
  · subst e
    rw [va_up_eq]
    exact (if_pos (Nat.lt_succ_self q)).symm
  · rw [va_up_ne' _ _ e]
    unfold kx_s0
    by_cases hq : q < i
    · rw [if_pos hq, if_pos (by omega)]
    · rw [if_neg hq, if_neg (by omega)]
def kn_T (G : tp_G) (x : Nat) (h0 : tp_H) (i : Nat) (h : tp_H) : Prop :=
  (h.1 = x + 44 + 42 * i ∧ ∀ a, a < x → h.2 a = h0.2 a) ∧ (h.2 x = some (.inr (5, [.ref (x + 1), .ref (x + 43), .int 0, .null, .int 0, .null])) ∧ h.2 (x + 43) = some (.inl (G.2.2.1 3, 6, .inr (.inr (.inr (.inr (kx_s0 x i))))))) ∧
  (kb_C G (x + 1) u_0 id id h ∧ ∀ j, j < i → kb_C G (x + 44 + 42 * j) u_0 id id h)
theorem kn_T.ob {G : tp_G} {x i : Nat} {h0 h : tp_H} (hT : kn_T G x h0 i h) : h.2 x = some (.inr (5, [.ref (x + 1), .ref (x + 43), .int 0, .null, .int 0, .null])) := hT.2.1.1
theorem kn_T.sv {G : tp_G} {x i : Nat} {h0 h : tp_H} (hT : kn_T G x h0 i h) : h.2 (x + 43) = some (.inl (G.2.2.1 3, 6, .inr (.inr (.inr (.inr (kx_s0 x i)))))) := hT.2.1.2
theorem kn_T.push {G : tp_G} {x i : Nat} {h0 h h1 : tp_H} {f : Nat → Option va_E} (hT : kn_T G x h0 i h) (hf : f = tp_up h1.2 (x + 43) (.inl (G.2.2.1 3, 6, .inr (.inr (.inr (.inr (va_up (kx_s0 x i) i (some h.1)))))))) (hC : kb_C G h.1 u_0 id id h1) (h5 : h1.1 = h.1 + 42) (hk : ∀ a, a < h.1 → h1.2 a = h.2 a) : kn_T G x h0 (i + 1) (h1.1, f) := by
  have z := hT.1.1
  subst hf
  have ff : ∀ a, a ≠ x + 43 → tp_up h1.2 (x + 43) (.inl (G.2.2.1 3, 6, .inr (.inr (.inr (.inr (va_up (kx_s0 x i) i (some h.1))))))) a = h1.2 a := fun a ha => tp_up_n ha
  refine ⟨⟨by show h1.1 = _; omega, fun a ha => (ff a (by omega)).trans ((hk a (by omega)).trans (hT.1.2 a ha))⟩, ⟨(ff _ (by omega)).trans ((hk _ (by omega)).trans hT.ob), ?_⟩, hT.2.2.1.mv (fun o ho => (ff _ (by omega)).trans (hk _ (by omega))), fun j hj => ?_⟩
  · refine tp_up_s.trans ?_
    rw [z, kx_s0_up]
  · by_cases e : j = i
    · subst e
      rw [← z]
      exact hC.mv fun o ho => ff _ (by omega)
    · exact (hT.2.2.2 j (by omega)).mv (fun o ho => (ff _ (by omega)).trans (hk _ (by omega)))
theorem kn_def0 : ∀ r, vwCl[0]? = some r → ∀ j, j < 14 → ∀ ty, parseFieldDescriptor (r.2.1 j).2.2.1 = some ty → defaultValue ty = vp_V [.int 0, .null, .null, .null, .null, .int 0, .null, .int 0, .int 0, .int 0, .int 0, .int 0, .int 0, .int 0] j := by
  intro r hr j hj ty hty
  cases hr
  have : j = 0 ∨ j = 1 ∨ j = 2 ∨ j = 3 ∨ j = 4 ∨ j = 5 ∨ j = 6 ∨ j = 7 ∨ j = 8 ∨ j = 9 ∨ j = 10 ∨ j = 11 ∨ j = 12 ∨ j = 13 := by omega
  rcases this with rfl | rfl | rfl | rfl | rfl | rfl | rfl | rfl | rfl | rfl | rfl | rfl | rfl | rfl <;> (cases hty; rfl)
theorem kn_def2 : ∀ r, vwCl[2]? = some r → ∀ j, j < 7 → ∀ ty, parseFieldDescriptor (r.2.1 j).2.2.1 = some ty → defaultValue ty = vp_V [.int 0, .int 0, .int 0, .int 0, .int 0, .int 0, .int 0] j := by
  intro r hr j hj ty hty
  cases hr
  have : j = 0 ∨ j = 1 ∨ j = 2 ∨ j = 3 ∨ j = 4 ∨ j = 5 ∨ j = 6 := by omega
  rcases this with rfl | rfl | rfl | rfl | rfl | rfl | rfl <;> (cases hty; rfl)
set_option maxRecDepth 100000 in
set_option maxHeartbeats 4000000 in
theorem N_X5s  {l : Launch} {G : tp_G} {x : Nat} {h0 : tp_H} (hl : l.stackTraces = false) : ∀ d (i k n : Nat) (h : tp_H), d + i = 6 → k = 43 + 42 * i → n = 260 + 254 * i → kn_T G x h0 i h → tp_Run l G mX5_init (tp_rm mX5_init 297 1851) (tp_QM G 297 1851 (tp_PS none (fun h1 => kx_S G x h1 u_0 id id (fun _ => u_0) id 0 0 (fun _ => 0) (fun _ => 0) h1 ∧ h1.1 = x + 298 ∧ ∀ a, a < x → h1.2 a = h0.2 a)) tp_NX) k n h 26 [some (.ref x), some (.int (nI i))] [] := by
  intro d
  induction d with
  | zero =>
    intro i k n h hd hk hn hT
    refine r_iload1 dX5_init_26 ?_
    refine r_aload0 dX5_init_27 ?_
    refine r_getf dX5_init_28 f_X5_16 (hT.ob) rfl ?_
    refine r_alen dX5_init_31 (t := 3) (by decide) hT.sv ?_
    refine r_icmp_ge (tgt := 54) dX5_init_32 (by decide) (fun c32 => ?_) (fun c32 => ?_)
    · have hi9 : i = 6 := by omega
      subst hi9
      have z := hT.1.1
      refine r_aload0 dX5_init_54 ?_
      refine r_bipush (v := 60) dX5_init_55 (by decide) ?_
      refine r_newI dX5_init_57 ac_int (N := 60) rfl (by decide) ⟨by show k + 1 ≤ 297; omega, by show n + 60 ≤ 1851; omega⟩ (fun hl0 => ?_)
      refine r_putF dX5_init_59 f_X5_20 ft_5_3 rfl rfl ((tp_up_n (Nat.ne_of_lt (by show x < h.1; omega))).trans hT.ob) (Nat.le_of_ble_eq_true rfl) rfl rfl ?_
      refine r_aload0 dX5_init_62 ?_
      refine r_new dX5_init_63 n_X5_24 (fs := [.int 0, .int 0, .int 0, .int 0, .int 0, .int 0, .int 0]) rfl kn_def2 ⟨by show k + 1 + 1 ≤ 297; omega, by show n + 60 + 7 ≤ 1851; omega⟩ (fun hl1 => ?_)
      refine r_dup dX5_init_66 rfl ?_
      refine r_callIN (As := []) (rest := [.ref (h.1 + 1), .ref x]) dX5_init_67 (List.Mem.tail _ (List.Mem.tail _ (List.Mem.head _))) vn_X5_26 (N_X2 hl) rfl rfl rfl (Nat.le_of_ble_eq_true rfl) ⟨(Nat.le_of_ble_eq_true rfl), (Nat.le_of_ble_eq_true rfl)⟩ ⟨by show k + 1 + 1 + 0 ≤ 297; omega, by show n + 60 + 7 + 0 ≤ 1851; omega⟩ (fun r h1 hP => ?_) (fun E h1 hP => hP.elim)
      obtain ⟨rfl, rfl⟩ := hP
      refine r_putF dX5_init_70 f_X5_27 ft_5_5 rfl rfl ((tp_up_n (Nat.ne_of_lt (by show x < h.1 + 1; omega))).trans tp_up_s) (Nat.le_of_ble_eq_true rfl) rfl rfl ?_
      refine r_vret dX5_init_73 rfl ⟨by show k + 1 + 1 + 0 ≤ 297; omega, by show n + 60 + 7 + 0 ≤ 1851; omega⟩ ⟨rfl, ?_⟩
      have hh : ∀ a, a ≠ x → a < x + 296 → tp_up (tp_up (tp_up (tp_up h.2 h.1 (.inl (G.2.2.1 0, 60, .inl (fun _ => 0)))) x (.inr (5, [.ref (x + 1), .ref (x + 43), .int 0, .ref h.1, .int 0, .null]))) (h.1 + 1) (.inr (2, [.int 0, .int 0, .int 0, .int 0, .int 0, .int 0, .int 0]))) x (.inr (5, [.ref (x + 1), .ref (x + 43), .int 0, .ref h.1, .int 0, .ref (h.1 + 1)])) a = h.2 a := fun a n1 n2 => (tp_up_n n1).trans ((tp_up_n (by omega)).trans ((tp_up_n n1).trans (tp_up_n (by omega))))
      refine ⟨⟨⟨⟨?_, ?_, ?_, ?_⟩, ?_, fun j hj => ⟨id, id, ?_⟩, fun j hj => hj, fun i j _ _ e => e⟩, fun _ _ => rfl⟩, ?_, fun a ha => ?_⟩
      · rw [z]; exact tp_up_s
      · refine (hh _ (by omega) (by omega)).trans (hT.sv.trans ?_)
        rfl
      · refine (tp_up_n (by omega)).trans ((tp_up_n (by omega)).trans ((tp_up_n (by omega)).trans ?_))
        rw [z]
        exact tp_up_s
      · refine (tp_up_n (by omega)).trans ?_
        rw [z]
        exact tp_up_s
      · exact hT.2.2.1.mv fun o ho => hh _ (by omega) (by omega)
      · exact (hT.2.2.2 j hj).mv fun o ho => hh _ (by omega) (by show x + 44 + 42 * j + o < _; omega)
      · show h.1 + 1 + 1 = _
        omega
      · exact (hh _ (by omega) (by omega)).trans (hT.1.2 a ha)
    · exact absurd (show nI 6 ≤ nI i by rw [tp_le (by omega) (by omega)]; omega) c32
  | succ d ih =>
    intro i k n h hd hk hn hT
    refine r_iload1 dX5_init_26 ?_
    refine r_aload0 dX5_init_27 ?_
    refine r_getf dX5_init_28 f_X5_16 (hT.ob) rfl ?_
    refine r_alen dX5_init_31 (t := 3) (by decide) hT.sv ?_
    refine r_icmp_ge (tgt := 54) dX5_init_32 (by decide) (fun c32 => ?_) (fun c32 => ?_)
    · have c2 : nI 6 ≤ nI i := c32
      rw [tp_le (by omega) (by omega)] at c2; omega
    · refine r_aload0 dX5_init_35 ?_
      refine r_getf dX5_init_36 f_X5_16 (hT.ob) rfl ?_
      refine r_iload1 dX5_init_39 ?_
      refine r_new dX5_init_40 n_X5_7 (fs := [.int 0, .null, .null, .null, .null, .int 0, .null, .int 0, .int 0, .int 0, .int 0, .int 0, .int 0, .int 0]) rfl kn_def0 ⟨by show k + 1 ≤ 297; omega, by show n + 14 ≤ 1851; omega⟩ (fun hlt => ?_)
      refine r_dup dX5_init_43 rfl ?_
      refine r_callI (As := []) (rest := [.ref h.1, .int (nI i), .ref (x + 43)]) dX5_init_44 v_X5_9 (N_X0 hl rfl tp_up_s) rfl rfl rfl (Nat.le_of_ble_eq_true rfl) ⟨(Nat.le_of_ble_eq_true rfl), (Nat.le_of_ble_eq_true rfl)⟩ ⟨by show k + 1 + 41 ≤ 297; omega, by show n + 14 + 240 ≤ 1851; omega⟩ (fun r h1 hP => ?_) (fun E h1 hP => hP.elim)
      obtain ⟨rfl, hC, h5, hk9⟩ := hP
      have z := hT.1.1
      have hk8 : ∀ a, a < h.1 → h1.2 a = h.2 a := fun a ha => (hk9 a ha).trans (tp_up_n (Nat.ne_of_lt ha))
      refine r_aast (t := 3) (ci := 0) dX5_init_47 (by decide) ((hk8 _ (by omega)).trans hT.sv) ((hC.1 0 (by decide)).trans rfl) rfl (i := i) rfl (by omega) (by decide) ?_
      refine r_iinc1 (v := nI (i + 1)) dX5_init_48 (Nat.le_of_ble_eq_true rfl) rfl (tp_inc i) ?_
      exact r_goto (tgt := 26) dX5_init_51 (by decide) (ih (i + 1) _ _ _ (by omega) (by show k + 1 + 41 = _; omega) (by show n + 14 + 240 = _; omega) (hT.push rfl hC (by omega) hk8))

set_option maxRecDepth 100000 in
set_option maxHeartbeats 4000000 in
theorem N_X5 {l : Launch} {G : tp_G} {h : tp_H} {x : Nat} (hl : l.stackTraces = false) (hx : h.1 = x + 1) (hT : h.2 x = some (.inr (5, [.null, .null, .int 0, .null, .int 0, .null]))) : tp_Met l G mX5_init 297 1851 [.ref x] h (tp_PS none (fun h1 => kx_S G x h1 u_0 id id (fun _ => u_0) id 0 0 (fun _ => 0) (fun _ => 0) h1 ∧ h1.1 = x + 298 ∧ ∀ a, a < x → h1.2 a = h.2 a)) tp_NX := by
  refine tp_start (L0 := [some (.ref x), none]) (by decide) rfl hl (Nat.le_of_ble_eq_true rfl) rfl ?_
  refine r_aload0 dX5_init_0 ?_
  refine r_objInit dX5_init_1 v_X5_1 (Nat.le_of_ble_eq_true rfl) (Nat.le_of_ble_eq_true rfl) ?_
  refine r_aload0 dX5_init_4 ?_
  refine r_new dX5_init_5 n_X5_7 (fs := [.int 0, .null, .null, .null, .null, .int 0, .null, .int 0, .int 0, .int 0, .int 0, .int 0, .int 0, .int 0]) rfl kn_def0 ⟨(Nat.le_of_ble_eq_true rfl), (Nat.le_of_ble_eq_true rfl)⟩ (fun hlt => ?_)
  refine r_dup dX5_init_8 rfl ?_
  refine r_callI (As := []) (rest := [.ref h.1, .ref x]) dX5_init_9 v_X5_9 (N_X0 hl rfl tp_up_s) rfl rfl rfl (Nat.le_of_ble_eq_true rfl) ⟨(Nat.le_of_ble_eq_true rfl), (Nat.le_of_ble_eq_true rfl)⟩ ⟨(Nat.le_of_ble_eq_true rfl), (Nat.le_of_ble_eq_true rfl)⟩ (fun r h1 hP => ?_) (fun E h1 hP => hP.elim)
  obtain ⟨rfl, hC, h5, hk9⟩ := hP
  have hk8 : ∀ a, a < h.1 → h1.2 a = h.2 a := fun a ha => (hk9 a ha).trans (tp_up_n (Nat.ne_of_lt ha))
  refine r_putF dX5_init_12 f_X5_10 ft_5_0 rfl rfl ((hk8 x (by omega)).trans hT) (Nat.le_of_ble_eq_true rfl) rfl rfl ?_
  refine r_aload0 dX5_init_15 ?_
  refine r_bipush (v := 6) dX5_init_16 (by decide) ?_
  refine r_newA (N := 6) (t := 3) dX5_init_18 cl_X5_7 (by decide) (by decide) rfl rfl (by decide) ⟨(Nat.le_of_ble_eq_true rfl), (Nat.le_of_ble_eq_true rfl)⟩ (fun hl2 => ?_)
  refine r_putF dX5_init_21 f_X5_16 ft_5_1 rfl rfl ((tp_up_n (Nat.ne_of_lt (by show x < h1.1; omega))).trans tp_up_s) (Nat.le_of_ble_eq_true rfl) rfl rfl ?_
  refine r_iconst (v := 0) dX5_init_24 (by decide) ?_
  refine r_istore1 dX5_init_25 (Nat.le_of_ble_eq_true rfl) rfl ?_
  rw [hx] at hC h5 hk8
  refine N_X5s hl 6 0 _ _ _ rfl rfl rfl ⟨⟨by show h1.1 + 1 = _; omega, fun a ha => ?_⟩, ⟨?_, ?_⟩, ?_, fun j hj => absurd hj (Nat.not_lt_zero j)⟩
  · exact (tp_up_n (by omega)).trans ((tp_up_n (by omega)).trans ((tp_up_n (by omega)).trans (hk8 a (by omega))))
  · rw [h5, hx]
    exact tp_up_s
  · refine (tp_up_n (by omega)).trans ?_
    rw [h5]
    exact tp_up_s
  · exact hC.mv fun o ho => (tp_up_n (by omega)).trans ((tp_up_n (by omega)).trans (tp_up_n (by omega)))

