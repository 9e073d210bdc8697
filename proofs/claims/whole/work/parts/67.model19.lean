def z_0 : Nat → Int32 := va_up (va_up (va_up (va_up (va_up (va_up (va_up (fun _ => 0) 0 7) 1 10) 2 20) 3 5) 5 1000) 6 1500) 7 500
set_option maxRecDepth 100000 in
set_option maxHeartbeats 4000000 in
theorem N_X6b {l : Launch} {G : tp_G} {h h2 : tp_H} {y : Nat} (hl : l.stackTraces = false) (hT : mm_S G y h2 (fun _ => 0) (fun _ => 0) (fun _ => 0) (fun _ => 0) 0 0 0 0 0 0 0 h2) (h5 : h2.1 = y + 5) (hf : ∀ a, a < y → h2.2 a = h.2 a) : tp_Run l G mX6_init (tp_rm mX6_init 4 1497) (tp_QM G 4 1497 (tp_PS none (fun h1 => mm_S G y h1 z_0 (fun _ => 0) (fun _ => 0) (fun _ => 0) 0 0 0 0 0 0 0 h1 ∧ h1.1 = y + 5 ∧ ∀ a, a < y → h1.2 a = h.2 a)) tp_NX) (0 + 1 + 1 + 1 + 1) (0 + 196 + 1176 + 60 + 65) h2 38 [some (.ref y)] [] := by
  refine r_aload0 dX6_init_38 ?_
  refine r_getf dX6_init_39 f_X6_7 (hT.ob) rfl ?_
  refine r_iconst (v := 0) dX6_init_42 (by decide) ?_
  refine r_bipush (v := 7) dX6_init_43 (by decide) ?_
  refine mm_st_z dX6_init_45 hT (i := 0) (rfl) (by omega) (fun h1 hT => ?_)
  refine r_aload0 dX6_init_46 ?_
  refine r_getf dX6_init_47 f_X6_7 (hT.ob) rfl ?_
  refine r_iconst (v := 1) dX6_init_50 (by decide) ?_
  refine r_bipush (v := 10) dX6_init_51 (by decide) ?_
  refine mm_st_z dX6_init_53 hT (i := 1) (rfl) (by omega) (fun h1 hT => ?_)
  refine r_aload0 dX6_init_54 ?_
  refine r_getf dX6_init_55 f_X6_7 (hT.ob) rfl ?_
  refine r_iconst (v := 2) dX6_init_58 (by decide) ?_
  refine r_bipush (v := 20) dX6_init_59 (by decide) ?_
  refine mm_st_z dX6_init_61 hT (i := 2) (rfl) (by omega) (fun h1 hT => ?_)
  refine r_aload0 dX6_init_62 ?_
  refine r_getf dX6_init_63 f_X6_7 (hT.ob) rfl ?_
  refine r_iconst (v := 3) dX6_init_66 (by decide) ?_
  refine r_iconst (v := 5) dX6_init_67 (by decide) ?_
  refine mm_st_z dX6_init_68 hT (i := 3) (rfl) (by omega) (fun h1 hT => ?_)
  refine r_aload0 dX6_init_69 ?_
  refine r_getf dX6_init_70 f_X6_7 (hT.ob) rfl ?_
  refine r_iconst (v := 5) dX6_init_73 (by decide) ?_
  refine r_sipush (v := 1000) dX6_init_74 (by decide) ?_
  refine mm_st_z dX6_init_77 hT (i := 5) (rfl) (by omega) (fun h1 hT => ?_)
  refine r_aload0 dX6_init_78 ?_
  refine r_getf dX6_init_79 f_X6_7 (hT.ob) rfl ?_
  refine r_bipush (v := 6) dX6_init_82 (by decide) ?_
  refine r_sipush (v := 1500) dX6_init_84 (by decide) ?_
  refine mm_st_z dX6_init_87 hT (i := 6) (rfl) (by omega) (fun h1 hT => ?_)
  refine r_aload0 dX6_init_88 ?_
  refine r_getf dX6_init_89 f_X6_7 (hT.ob) rfl ?_
  refine r_bipush (v := 7) dX6_init_92 (by decide) ?_
  refine r_sipush (v := 500) dX6_init_94 (by decide) ?_
  refine mm_st_z dX6_init_97 hT (i := 7) (rfl) (by omega) (fun h1 hT => ?_)
  exact r_vret dX6_init_98 rfl ⟨(Nat.le_of_ble_eq_true rfl), (Nat.le_of_ble_eq_true rfl)⟩ ⟨rfl, ⟨hT.1, rfl, fun _ _ => rfl⟩, hT.2.1.trans h5, fun a ha => (hT.2.2 a (Or.inl ha)).trans (hf a ha)⟩

set_option maxRecDepth 100000 in
set_option maxHeartbeats 4000000 in
theorem N_X6 {l : Launch} {G : tp_G} {h : tp_H} {y : Nat} (hl : l.stackTraces = false) (hy : h.1 = y + 1) (hT : h.2 y = some (.inr (6, [.null, .int 0, .null, .int 0, .null, .int 0, .null, .int 0, .int 0, .int 0, .long 0]))) : tp_Met l G mX6_init 4 1497 [.ref y] h (tp_PS none (fun h1 => mm_S G y h1 z_0 (fun _ => 0) (fun _ => 0) (fun _ => 0) 0 0 0 0 0 0 0 h1 ∧ h1.1 = y + 5 ∧ ∀ a, a < y → h1.2 a = h.2 a)) tp_NX := by
  refine tp_start (L0 := [some (.ref y)]) (by decide) rfl hl (Nat.le_of_ble_eq_true rfl) rfl ?_
  refine r_aload0 dX6_init_0 ?_
  refine r_objInit dX6_init_1 v_X6_1 (Nat.le_of_ble_eq_true rfl) (Nat.le_of_ble_eq_true rfl) ?_
  refine r_aload0 dX6_init_4 ?_
  refine r_sipush (v := 196) dX6_init_5 (by decide) ?_
  refine r_newI dX6_init_8 ac_int (N := 196) rfl (by decide) ⟨(Nat.le_of_ble_eq_true rfl), (Nat.le_of_ble_eq_true rfl)⟩ (fun hlt0 => ?_)
  refine r_putF dX6_init_10 f_X6_7 ft_6_0 rfl rfl (tp_up_n (by omega : y ≠ h.1) |>.trans hT) (Nat.le_of_ble_eq_true rfl) rfl rfl ?_
  refine r_aload0 dX6_init_13 ?_
  refine r_sipush (v := 1176) dX6_init_14 (by decide) ?_
  refine r_newI dX6_init_17 ac_int (N := 1176) rfl (by decide) ⟨(Nat.le_of_ble_eq_true rfl), (Nat.le_of_ble_eq_true rfl)⟩ (fun hlt1 => ?_)
  dsimp only
  refine r_putF dX6_init_19 f_X6_13 ft_6_2 rfl rfl ((tp_up_n (Nat.ne_of_lt (by show y < h.1 + 1; omega))).trans tp_up_s) (Nat.le_of_ble_eq_true rfl) rfl rfl ?_
  dsimp only
  refine r_aload0 dX6_init_22 ?_
  refine r_bipush (v := 60) dX6_init_23 (by decide) ?_
  refine r_newI dX6_init_25 ac_int (N := 60) rfl (by decide) ⟨(Nat.le_of_ble_eq_true rfl), (Nat.le_of_ble_eq_true rfl)⟩ (fun hlt2 => ?_)
  dsimp only
  refine r_putF dX6_init_27 f_X6_16 ft_6_4 rfl rfl ((tp_up_n (Nat.ne_of_lt (by show y < h.1 + 1 + 1; omega))).trans tp_up_s) (Nat.le_of_ble_eq_true rfl) rfl rfl ?_
  dsimp only
  refine r_aload0 dX6_init_30 ?_
  refine r_bipush (v := 65) dX6_init_31 (by decide) ?_
  refine r_newI dX6_init_33 ac_int (N := 65) rfl (by decide) ⟨(Nat.le_of_ble_eq_true rfl), (Nat.le_of_ble_eq_true rfl)⟩ (fun hlt3 => ?_)
  dsimp only
  refine r_putF dX6_init_35 f_X6_19 ft_6_6 rfl rfl ((tp_up_n (Nat.ne_of_lt (by show y < h.1 + 1 + 1 + 1; omega))).trans tp_up_s) (Nat.le_of_ble_eq_true rfl) rfl rfl ?_
  dsimp only
  refine N_X6b hl ⟨⟨?_, ?_, ?_, ?_, ?_⟩, rfl, fun _ _ => rfl⟩ ?_ ?_
  · rw [hy]; exact tp_up_s
  · rw [hy]; simp [tp_up]
  · rw [hy]; simp [tp_up]
  · rw [hy]; simp [tp_up]
  · rw [hy]; simp [tp_up]
  · show h.1 + 1 + 1 + 1 + 1 = _
    omega
  · intro a ha
    simp only [tp_up]
    rw [if_neg (by omega), if_neg (by omega), if_neg (by omega), if_neg (by omega), if_neg (by omega), if_neg (by omega), if_neg (by omega), if_neg (by omega)]

