set_option maxRecDepth 100000 in
set_option maxHeartbeats 4000000 in
theorem N_X1 {l : Launch} {G : tp_G} {h : tp_H} {a : Nat} (hl : l.stackTraces = false) : tp_Met l G mX1_init 0 0 [.ref a] h (tp_PS (none) (fun h1 => h1 = h)) tp_NX := by
  refine tp_start (L0 := [some (.ref a)]) (by decide) rfl hl (Nat.le_of_ble_eq_true rfl) rfl ?_
  refine r_aload0 dX1_init_0 ?_
  refine r_objInit dX1_init_1 v_X1_1 (Nat.le_of_ble_eq_true rfl) (Nat.le_of_ble_eq_true rfl) ?_
  exact r_vret dX1_init_4 rfl ⟨(Nat.le_of_ble_eq_true rfl), (Nat.le_of_ble_eq_true rfl)⟩ ⟨rfl, rfl⟩

set_option maxRecDepth 100000 in
set_option maxHeartbeats 4000000 in
theorem N_X2 {l : Launch} {G : tp_G} {h : tp_H} {a : Nat} (hl : l.stackTraces = false) : tp_Met l G mX2_init 0 0 [.ref a] h (tp_PS (none) (fun h1 => h1 = h)) tp_NX := by
  refine tp_start (L0 := [some (.ref a)]) (by decide) rfl hl (Nat.le_of_ble_eq_true rfl) rfl ?_
  refine r_aload0 dX2_init_0 ?_
  refine r_objInit dX2_init_1 v_X2_3 (Nat.le_of_ble_eq_true rfl) (Nat.le_of_ble_eq_true rfl) ?_
  exact r_vret dX2_init_4 rfl ⟨(Nat.le_of_ble_eq_true rfl), (Nat.le_of_ble_eq_true rfl)⟩ ⟨rfl, rfl⟩

set_option maxRecDepth 100000 in
set_option maxHeartbeats 4000000 in
theorem N_X3 {l : Launch} {G : tp_G} {h : tp_H} {a : Nat} (hl : l.stackTraces = false) : tp_Met l G mX3_init 0 0 [.ref a] h (tp_PS (none) (fun h1 => h1 = h)) tp_NX := by
  refine tp_start (L0 := [some (.ref a)]) (by decide) rfl hl (Nat.le_of_ble_eq_true rfl) rfl ?_
  refine r_aload0 dX3_init_0 ?_
  refine r_objInit dX3_init_1 v_X3_1 (Nat.le_of_ble_eq_true rfl) (Nat.le_of_ble_eq_true rfl) ?_
  exact r_vret dX3_init_4 rfl ⟨(Nat.le_of_ble_eq_true rfl), (Nat.le_of_ble_eq_true rfl)⟩ ⟨rfl, rfl⟩

set_option maxRecDepth 100000 in
set_option maxHeartbeats 4000000 in
theorem N_X4 {l : Launch} {G : tp_G} {h : tp_H} {a : Nat} {w c : Int32} (hl : l.stackTraces = false) (hT : h.2 a = some (.inr (4, [.int 0, .int 0, .int 0, .int 0, .int 0, .int 0]))) : tp_Met l G mX4_init 0 0 [.ref a, .int w, .int c] h (tp_PS (none) (fun h1 => h1 = (h.1, tp_up h.2 a (.inr (4, [.int w, .int c, .int 0, .int 0, .int 0, .int (-1)]))))) tp_NX := by
  refine tp_start (L0 := [some (.ref a), some (.int w), some (.int c)]) (by decide) rfl hl (Nat.le_of_ble_eq_true rfl) rfl ?_
  refine r_aload0 dX4_init_0 ?_
  refine r_objInit dX4_init_1 v_X4_3 (Nat.le_of_ble_eq_true rfl) (Nat.le_of_ble_eq_true rfl) ?_
  refine r_aload0 dX4_init_4 ?_
  refine r_iload1 dX4_init_5 ?_
  refine r_putF dX4_init_6 f_X4_9 ft_4_0 rfl rfl hT (Nat.le_of_ble_eq_true rfl) rfl rfl ?_
  refine r_aload0 dX4_init_9 ?_
  refine r_iload2 dX4_init_10 ?_
  refine r_putF dX4_init_11 f_X4_15 ft_4_1 rfl rfl tp_up_s (Nat.le_of_ble_eq_true rfl) rfl rfl ?_
  rw [tp_up_up]
  refine r_aload0 dX4_init_14 ?_
  refine r_iconst (v := (-1)) dX4_init_15 (by decide) ?_
  refine r_putf dX4_init_16 f_X4_18 ft_4_5 tp_up_s (Nat.le_of_ble_eq_true rfl) rfl rfl ?_
  rw [tp_up_up]
  exact r_vret dX4_init_19 rfl ⟨(Nat.le_of_ble_eq_true rfl), (Nat.le_of_ble_eq_true rfl)⟩ ⟨rfl, rfl⟩

