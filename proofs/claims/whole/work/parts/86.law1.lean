set_option maxRecDepth 100000 in
set_option maxHeartbeats 4000000 in
theorem WL_load {l : Launch} {G : tp_G} {h : tp_H} {x o : Nat} {a0 a1 : Int32} {fs : List Value} {v : Int32} {P : tp_H → Prop} {f : Nat → Int64} (hl : l.stackTraces = false) (hx : h.2 x = some (.inr (5, fs))) (hM : tp_Met l G mX5_load 0 0 [.ref x, .int a0, .int a1] h (tp_PS (some (.int v)) P) tp_NX) (hP : ∀ h1, P h1 → h1.2 o = some (.inl (G.2.2.1 1, 1, .inr (.inl f)))) : tp_Met l G mL_load 0 0 [.ref x, .int a0, .int a1, .ref o] h (tp_PS (some (.int 0)) (fun h2 => ∃ h1, P h1 ∧ h2 = (h1.1, tp_up h1.2 o (.inl (G.2.2.1 1, 1, .inr (.inl (va_up f 0 v.toInt64))))))) tp_NX := by
  refine tp_startW (L0 := [some (.ref x), some (.int a0), some (.int a1), some (.ref o), none]) (by decide) rfl hl (Nat.le_of_ble_eq_true rfl) rfl ?_
  refine r_aload3 dL_load_0 ?_
  refine r_iconst (v := 0) dL_load_1 (by decide) ?_
  refine r_aload0 dL_load_2 ?_
  refine r_iload1 dL_load_3 ?_
  refine r_iload2 dL_load_4 ?_
  refine r_sV1 dL_load_5 v_L_7 hM rfl hx rfl rfl rfl (Nat.le_of_ble_eq_true rfl) ⟨(Nat.le_of_ble_eq_true rfl), (Nat.le_of_ble_eq_true rfl)⟩ ⟨(Nat.le_of_ble_eq_true rfl), (Nat.le_of_ble_eq_true rfl)⟩ (fun h1 hP1 => ?_)
  refine r_i2l dL_load_8 ?_
  refine r_last dL_load_9 (hP h1 hP1) (i := 0) rfl (by decide) (by decide) ?_
  refine r_goto (tgt := 25) dL_load_10 (by decide) ?_
  refine r_iconst (v := 0) dL_load_25 (by decide) ?_
  exact r_iret dL_load_26 rfl ⟨(Nat.le_of_ble_eq_true rfl), (Nat.le_of_ble_eq_true rfl)⟩ ⟨rfl, h1, hP1, rfl⟩

set_option maxRecDepth 100000 in
set_option maxHeartbeats 4000000 in
theorem WX_load_1 {l : Launch} {G : tp_G} {h : tp_H} {x o : Nat} {a0 a1 : Int32} {fs : List Value} {PX : String → tp_H → Prop} (hl : l.stackTraces = false) (hx : h.2 x = some (.inr (5, fs))) (hM : tp_Met l G mX5_load 1 6 [.ref x, .int a0, .int a1] h (fun _ _ => False) PX) (hPX : ∀ E h1, PX E h1 → E = "java/lang/IndexOutOfBoundsException") : tp_Met l G mL_load 1 6 [.ref x, .int a0, .int a1, .ref o] h (tp_PS (some (.int 1)) (fun h2 => ∃ E, PX E h2)) tp_NX := by
  refine tp_startW (L0 := [some (.ref x), some (.int a0), some (.int a1), some (.ref o), none]) (by decide) rfl hl (Nat.le_of_ble_eq_true rfl) rfl ?_
  refine r_aload3 dL_load_0 ?_
  refine r_iconst (v := 0) dL_load_1 (by decide) ?_
  refine r_aload0 dL_load_2 ?_
  refine r_iload1 dL_load_3 ?_
  refine r_iload2 dL_load_4 ?_
  refine r_callV dL_load_5 v_L_7 hM rfl hx rfl rfl rfl (Nat.le_of_ble_eq_true rfl) ⟨(Nat.le_of_ble_eq_true rfl), (Nat.le_of_ble_eq_true rfl)⟩ ⟨(Nat.le_of_ble_eq_true rfl), (Nat.le_of_ble_eq_true rfl)⟩ (fun r h1 hP1 => hP1.elim) (fun E h1 hp => ?_)
  have e := hPX E h1 hp
  subst e
  refine r_catch (nm := "java/lang/IndexOutOfBoundsException") (pre := []) (suf := [(0, 10, 17, 15), (0, 10, 21, 17)]) (x := (0, 10, 13, 13)) rfl rfl (fun z hz => by cases hz) (by decide) (by decide) cl_L_13 (by decide) (fun q => ?_)
  refine r_astore4 dL_load_13 (Nat.le_of_ble_eq_true rfl) rfl ?_
  refine r_iconst (v := 1) dL_load_15 (by decide) ?_
  exact r_iret dL_load_16 rfl ⟨(Nat.le_of_ble_eq_true rfl), (Nat.le_of_ble_eq_true rfl)⟩ ⟨rfl, _, hp⟩

set_option maxRecDepth 100000 in
set_option maxHeartbeats 4000000 in
theorem WX_load_2 {l : Launch} {G : tp_G} {h : tp_H} {x o : Nat} {a0 a1 : Int32} {fs : List Value} {PX : String → tp_H → Prop} (hl : l.stackTraces = false) (hx : h.2 x = some (.inr (5, fs))) (hM : tp_Met l G mX5_load 1 6 [.ref x, .int a0, .int a1] h (fun _ _ => False) PX) (hPX : ∀ E h1, PX E h1 → E = "java/lang/IllegalArgumentException") : tp_Met l G mL_load 1 6 [.ref x, .int a0, .int a1, .ref o] h (tp_PS (some (.int 2)) (fun h2 => ∃ E, PX E h2)) tp_NX := by
  refine tp_startW (L0 := [some (.ref x), some (.int a0), some (.int a1), some (.ref o), none]) (by decide) rfl hl (Nat.le_of_ble_eq_true rfl) rfl ?_
  refine r_aload3 dL_load_0 ?_
  refine r_iconst (v := 0) dL_load_1 (by decide) ?_
  refine r_aload0 dL_load_2 ?_
  refine r_iload1 dL_load_3 ?_
  refine r_iload2 dL_load_4 ?_
  refine r_callV dL_load_5 v_L_7 hM rfl hx rfl rfl rfl (Nat.le_of_ble_eq_true rfl) ⟨(Nat.le_of_ble_eq_true rfl), (Nat.le_of_ble_eq_true rfl)⟩ ⟨(Nat.le_of_ble_eq_true rfl), (Nat.le_of_ble_eq_true rfl)⟩ (fun r h1 hP1 => hP1.elim) (fun E h1 hp => ?_)
  have e := hPX E h1 hp
  subst e
  refine r_catch (nm := "java/lang/IllegalArgumentException") (pre := [(0, 10, 13, 13)]) (suf := [(0, 10, 21, 17)]) (x := (0, 10, 17, 15)) rfl rfl (fun z hz => by
      rcases List.mem_cons.mp hz with rfl | hz
      · exact Or.inr ⟨by decide, "java/lang/IndexOutOfBoundsException", cl_L_13, by decide⟩
      cases hz) (by decide) (by decide) cl_L_15 (by decide) (fun q => ?_)
  refine r_astore4 dL_load_17 (Nat.le_of_ble_eq_true rfl) rfl ?_
  refine r_iconst (v := 2) dL_load_19 (by decide) ?_
  exact r_iret dL_load_20 rfl ⟨(Nat.le_of_ble_eq_true rfl), (Nat.le_of_ble_eq_true rfl)⟩ ⟨rfl, _, hp⟩

set_option maxRecDepth 100000 in
set_option maxHeartbeats 4000000 in
theorem WX_load_3 {l : Launch} {G : tp_G} {h : tp_H} {x o : Nat} {a0 a1 : Int32} {fs : List Value} {PX : String → tp_H → Prop} (hl : l.stackTraces = false) (hx : h.2 x = some (.inr (5, fs))) (hM : tp_Met l G mX5_load 1 6 [.ref x, .int a0, .int a1] h (fun _ _ => False) PX) (hPX : ∀ E h1, PX E h1 → E = "java/lang/IllegalStateException") : tp_Met l G mL_load 1 6 [.ref x, .int a0, .int a1, .ref o] h (tp_PS (some (.int 3)) (fun h2 => ∃ E, PX E h2)) tp_NX := by
  refine tp_startW (L0 := [some (.ref x), some (.int a0), some (.int a1), some (.ref o), none]) (by decide) rfl hl (Nat.le_of_ble_eq_true rfl) rfl ?_
  refine r_aload3 dL_load_0 ?_
  refine r_iconst (v := 0) dL_load_1 (by decide) ?_
  refine r_aload0 dL_load_2 ?_
  refine r_iload1 dL_load_3 ?_
  refine r_iload2 dL_load_4 ?_
  refine r_callV dL_load_5 v_L_7 hM rfl hx rfl rfl rfl (Nat.le_of_ble_eq_true rfl) ⟨(Nat.le_of_ble_eq_true rfl), (Nat.le_of_ble_eq_true rfl)⟩ ⟨(Nat.le_of_ble_eq_true rfl), (Nat.le_of_ble_eq_true rfl)⟩ (fun r h1 hP1 => hP1.elim) (fun E h1 hp => ?_)
  have e := hPX E h1 hp
  subst e
  refine r_catch (nm := "java/lang/IllegalStateException") (pre := [(0, 10, 13, 13), (0, 10, 17, 15)]) (suf := []) (x := (0, 10, 21, 17)) rfl rfl (fun z hz => by
      rcases List.mem_cons.mp hz with rfl | hz
      · exact Or.inr ⟨by decide, "java/lang/IndexOutOfBoundsException", cl_L_13, by decide⟩
      rcases List.mem_cons.mp hz with rfl | hz
      · exact Or.inr ⟨by decide, "java/lang/IllegalArgumentException", cl_L_15, by decide⟩
      cases hz) (by decide) (by decide) cl_L_17 (by decide) (fun q => ?_)
  refine r_astore4 dL_load_21 (Nat.le_of_ble_eq_true rfl) rfl ?_
  refine r_iconst (v := 3) dL_load_23 (by decide) ?_
  exact r_iret dL_load_24 rfl ⟨(Nat.le_of_ble_eq_true rfl), (Nat.le_of_ble_eq_true rfl)⟩ ⟨rfl, _, hp⟩

set_option maxRecDepth 100000 in
set_option maxHeartbeats 4000000 in
theorem WL_quote {l : Launch} {G : tp_G} {h : tp_H} {x o : Nat} {a0 a1 : Int32} {fs : List Value} {v : Int32} {P : tp_H → Prop} {f : Nat → Int64} (hl : l.stackTraces = false) (hx : h.2 x = some (.inr (5, fs))) (hM : tp_Met l G mX5_quote 0 0 [.ref x, .int a0, .int a1] h (tp_PS (some (.int v)) P) tp_NX) (hP : ∀ h1, P h1 → h1.2 o = some (.inl (G.2.2.1 1, 1, .inr (.inl f)))) : tp_Met l G mL_quote 0 0 [.ref x, .int a0, .int a1, .ref o] h (tp_PS (some (.int 0)) (fun h2 => ∃ h1, P h1 ∧ h2 = (h1.1, tp_up h1.2 o (.inl (G.2.2.1 1, 1, .inr (.inl (va_up f 0 v.toInt64))))))) tp_NX := by
  refine tp_startW (L0 := [some (.ref x), some (.int a0), some (.int a1), some (.ref o), none]) (by decide) rfl hl (Nat.le_of_ble_eq_true rfl) rfl ?_
  refine r_aload3 dL_quote_0 ?_
  refine r_iconst (v := 0) dL_quote_1 (by decide) ?_
  refine r_aload0 dL_quote_2 ?_
  refine r_iload1 dL_quote_3 ?_
  refine r_iload2 dL_quote_4 ?_
  refine r_sV1 dL_quote_5 v_L_19 hM rfl hx rfl rfl rfl (Nat.le_of_ble_eq_true rfl) ⟨(Nat.le_of_ble_eq_true rfl), (Nat.le_of_ble_eq_true rfl)⟩ ⟨(Nat.le_of_ble_eq_true rfl), (Nat.le_of_ble_eq_true rfl)⟩ (fun h1 hP1 => ?_)
  refine r_i2l dL_quote_8 ?_
  refine r_last dL_quote_9 (hP h1 hP1) (i := 0) rfl (by decide) (by decide) ?_
  refine r_goto (tgt := 21) dL_quote_10 (by decide) ?_
  refine r_iconst (v := 0) dL_quote_21 (by decide) ?_
  exact r_iret dL_quote_22 rfl ⟨(Nat.le_of_ble_eq_true rfl), (Nat.le_of_ble_eq_true rfl)⟩ ⟨rfl, h1, hP1, rfl⟩

set_option maxRecDepth 100000 in
set_option maxHeartbeats 4000000 in
theorem WX_quote_1 {l : Launch} {G : tp_G} {h : tp_H} {x o : Nat} {a0 a1 : Int32} {fs : List Value} {PX : String → tp_H → Prop} (hl : l.stackTraces = false) (hx : h.2 x = some (.inr (5, fs))) (hM : tp_Met l G mX5_quote 1 6 [.ref x, .int a0, .int a1] h (fun _ _ => False) PX) (hPX : ∀ E h1, PX E h1 → E = "java/lang/IndexOutOfBoundsException") : tp_Met l G mL_quote 1 6 [.ref x, .int a0, .int a1, .ref o] h (tp_PS (some (.int 1)) (fun h2 => ∃ E, PX E h2)) tp_NX := by
  refine tp_startW (L0 := [some (.ref x), some (.int a0), some (.int a1), some (.ref o), none]) (by decide) rfl hl (Nat.le_of_ble_eq_true rfl) rfl ?_
  refine r_aload3 dL_quote_0 ?_
  refine r_iconst (v := 0) dL_quote_1 (by decide) ?_
  refine r_aload0 dL_quote_2 ?_
  refine r_iload1 dL_quote_3 ?_
  refine r_iload2 dL_quote_4 ?_
  refine r_callV dL_quote_5 v_L_19 hM rfl hx rfl rfl rfl (Nat.le_of_ble_eq_true rfl) ⟨(Nat.le_of_ble_eq_true rfl), (Nat.le_of_ble_eq_true rfl)⟩ ⟨(Nat.le_of_ble_eq_true rfl), (Nat.le_of_ble_eq_true rfl)⟩ (fun r h1 hP1 => hP1.elim) (fun E h1 hp => ?_)
  have e := hPX E h1 hp
  subst e
  refine r_catch (nm := "java/lang/IndexOutOfBoundsException") (pre := []) (suf := [(0, 10, 17, 15)]) (x := (0, 10, 13, 13)) rfl rfl (fun z hz => by cases hz) (by decide) (by decide) cl_L_13 (by decide) (fun q => ?_)
  refine r_astore4 dL_quote_13 (Nat.le_of_ble_eq_true rfl) rfl ?_
  refine r_iconst (v := 1) dL_quote_15 (by decide) ?_
  exact r_iret dL_quote_16 rfl ⟨(Nat.le_of_ble_eq_true rfl), (Nat.le_of_ble_eq_true rfl)⟩ ⟨rfl, _, hp⟩

set_option maxRecDepth 100000 in
set_option maxHeartbeats 4000000 in
theorem WX_quote_2 {l : Launch} {G : tp_G} {h : tp_H} {x o : Nat} {a0 a1 : Int32} {fs : List Value} {PX : String → tp_H → Prop} (hl : l.stackTraces = false) (hx : h.2 x = some (.inr (5, fs))) (hM : tp_Met l G mX5_quote 1 6 [.ref x, .int a0, .int a1] h (fun _ _ => False) PX) (hPX : ∀ E h1, PX E h1 → E = "java/lang/IllegalArgumentException") : tp_Met l G mL_quote 1 6 [.ref x, .int a0, .int a1, .ref o] h (tp_PS (some (.int 2)) (fun h2 => ∃ E, PX E h2)) tp_NX := by
  refine tp_startW (L0 := [some (.ref x), some (.int a0), some (.int a1), some (.ref o), none]) (by decide) rfl hl (Nat.le_of_ble_eq_true rfl) rfl ?_
  refine r_aload3 dL_quote_0 ?_
  refine r_iconst (v := 0) dL_quote_1 (by decide) ?_
  refine r_aload0 dL_quote_2 ?_
  refine r_iload1 dL_quote_3 ?_
  refine r_iload2 dL_quote_4 ?_
  refine r_callV dL_quote_5 v_L_19 hM rfl hx rfl rfl rfl (Nat.le_of_ble_eq_true rfl) ⟨(Nat.le_of_ble_eq_true rfl), (Nat.le_of_ble_eq_true rfl)⟩ ⟨(Nat.le_of_ble_eq_true rfl), (Nat.le_of_ble_eq_true rfl)⟩ (fun r h1 hP1 => hP1.elim) (fun E h1 hp => ?_)
  have e := hPX E h1 hp
  subst e
  refine r_catch (nm := "java/lang/IllegalArgumentException") (pre := [(0, 10, 13, 13)]) (suf := []) (x := (0, 10, 17, 15)) rfl rfl (fun z hz => by
      rcases List.mem_cons.mp hz with rfl | hz
      · exact Or.inr ⟨by decide, "java/lang/IndexOutOfBoundsException", cl_L_13, by decide⟩
      cases hz) (by decide) (by decide) cl_L_15 (by decide) (fun q => ?_)
  refine r_astore4 dL_quote_17 (Nat.le_of_ble_eq_true rfl) rfl ?_
  refine r_iconst (v := 2) dL_quote_19 (by decide) ?_
  exact r_iret dL_quote_20 rfl ⟨(Nat.le_of_ble_eq_true rfl), (Nat.le_of_ble_eq_true rfl)⟩ ⟨rfl, _, hp⟩

set_option maxRecDepth 100000 in
set_option maxHeartbeats 4000000 in
theorem WL_lock {l : Launch} {G : tp_G} {h : tp_H} {x o : Nat} {a0 a1 : Int32} {fs : List Value} {v : Int32} {P : tp_H → Prop} {f : Nat → Int64} (hl : l.stackTraces = false) (hx : h.2 x = some (.inr (5, fs))) (hM : tp_Met l G mX5_lock 0 0 [.ref x, .int a0, .int a1] h (tp_PS (some (.int v)) P) tp_NX) (hP : ∀ h1, P h1 → h1.2 o = some (.inl (G.2.2.1 1, 1, .inr (.inl f)))) : tp_Met l G mL_lock 0 0 [.ref x, .int a0, .int a1, .ref o] h (tp_PS (some (.int 0)) (fun h2 => ∃ h1, P h1 ∧ h2 = (h1.1, tp_up h1.2 o (.inl (G.2.2.1 1, 1, .inr (.inl (va_up f 0 v.toInt64))))))) tp_NX := by
  refine tp_startW (L0 := [some (.ref x), some (.int a0), some (.int a1), some (.ref o), none]) (by decide) rfl hl (Nat.le_of_ble_eq_true rfl) rfl ?_
  refine r_aload3 dL_lock_0 ?_
  refine r_iconst (v := 0) dL_lock_1 (by decide) ?_
  refine r_aload0 dL_lock_2 ?_
  refine r_iload1 dL_lock_3 ?_
  refine r_iload2 dL_lock_4 ?_
  refine r_sV1 dL_lock_5 v_L_22 hM rfl hx rfl rfl rfl (Nat.le_of_ble_eq_true rfl) ⟨(Nat.le_of_ble_eq_true rfl), (Nat.le_of_ble_eq_true rfl)⟩ ⟨(Nat.le_of_ble_eq_true rfl), (Nat.le_of_ble_eq_true rfl)⟩ (fun h1 hP1 => ?_)
  refine r_i2l dL_lock_8 ?_
  refine r_last dL_lock_9 (hP h1 hP1) (i := 0) rfl (by decide) (by decide) ?_
  refine r_goto (tgt := 17) dL_lock_10 (by decide) ?_
  refine r_iconst (v := 0) dL_lock_17 (by decide) ?_
  exact r_iret dL_lock_18 rfl ⟨(Nat.le_of_ble_eq_true rfl), (Nat.le_of_ble_eq_true rfl)⟩ ⟨rfl, h1, hP1, rfl⟩

set_option maxRecDepth 100000 in
set_option maxHeartbeats 4000000 in
theorem WX_lock_1 {l : Launch} {G : tp_G} {h : tp_H} {x o : Nat} {a0 a1 : Int32} {fs : List Value} {PX : String → tp_H → Prop} (hl : l.stackTraces = false) (hx : h.2 x = some (.inr (5, fs))) (hM : tp_Met l G mX5_lock 1 6 [.ref x, .int a0, .int a1] h (fun _ _ => False) PX) (hPX : ∀ E h1, PX E h1 → E = "java/lang/IndexOutOfBoundsException") : tp_Met l G mL_lock 1 6 [.ref x, .int a0, .int a1, .ref o] h (tp_PS (some (.int 1)) (fun h2 => ∃ E, PX E h2)) tp_NX := by
  refine tp_startW (L0 := [some (.ref x), some (.int a0), some (.int a1), some (.ref o), none]) (by decide) rfl hl (Nat.le_of_ble_eq_true rfl) rfl ?_
  refine r_aload3 dL_lock_0 ?_
  refine r_iconst (v := 0) dL_lock_1 (by decide) ?_
  refine r_aload0 dL_lock_2 ?_
  refine r_iload1 dL_lock_3 ?_
  refine r_iload2 dL_lock_4 ?_
  refine r_callV dL_lock_5 v_L_22 hM rfl hx rfl rfl rfl (Nat.le_of_ble_eq_true rfl) ⟨(Nat.le_of_ble_eq_true rfl), (Nat.le_of_ble_eq_true rfl)⟩ ⟨(Nat.le_of_ble_eq_true rfl), (Nat.le_of_ble_eq_true rfl)⟩ (fun r h1 hP1 => hP1.elim) (fun E h1 hp => ?_)
  have e := hPX E h1 hp
  subst e
  refine r_catch (nm := "java/lang/IndexOutOfBoundsException") (pre := []) (suf := []) (x := (0, 10, 13, 13)) rfl rfl (fun z hz => by cases hz) (by decide) (by decide) cl_L_13 (by decide) (fun q => ?_)
  refine r_astore4 dL_lock_13 (Nat.le_of_ble_eq_true rfl) rfl ?_
  refine r_iconst (v := 1) dL_lock_15 (by decide) ?_
  exact r_iret dL_lock_16 rfl ⟨(Nat.le_of_ble_eq_true rfl), (Nat.le_of_ble_eq_true rfl)⟩ ⟨rfl, _, hp⟩

set_option maxRecDepth 100000 in
set_option maxHeartbeats 4000000 in
theorem WL_exchange {l : Launch} {G : tp_G} {h : tp_H} {x o : Nat} {a0 a1 a2 a3 : Int32} {fs : List Value} {v : Int32} {P : tp_H → Prop} {f : Nat → Int64} (hl : l.stackTraces = false) (hx : h.2 x = some (.inr (5, fs))) (hM : tp_Met l G mX5_exchange 0 0 [.ref x, .int a0, .int a1, .int a2, .int a3] h (tp_PS (some (.int v)) P) tp_NX) (hP : ∀ h1, P h1 → h1.2 o = some (.inl (G.2.2.1 1, 1, .inr (.inl f)))) : tp_Met l G mL_exchange 0 0 [.ref x, .int a0, .int a1, .int a2, .int a3, .ref o] h (tp_PS (some (.int 0)) (fun h2 => ∃ h1, P h1 ∧ h2 = (h1.1, tp_up h1.2 o (.inl (G.2.2.1 1, 1, .inr (.inl (va_up f 0 v.toInt64))))))) tp_NX := by
  refine tp_startW (L0 := [some (.ref x), some (.int a0), some (.int a1), some (.int a2), some (.int a3), some (.ref o), none]) (by decide) rfl hl (Nat.le_of_ble_eq_true rfl) rfl ?_
  refine r_aload5 dL_exchange_0 ?_
  refine r_iconst (v := 0) dL_exchange_2 (by decide) ?_
  refine r_aload0 dL_exchange_3 ?_
  refine r_iload1 dL_exchange_4 ?_
  refine r_iload2 dL_exchange_5 ?_
  refine r_iload3 dL_exchange_6 ?_
  refine r_iload4 dL_exchange_7 ?_
  refine r_sV1 dL_exchange_9 v_L_25 hM rfl hx rfl rfl rfl (Nat.le_of_ble_eq_true rfl) ⟨(Nat.le_of_ble_eq_true rfl), (Nat.le_of_ble_eq_true rfl)⟩ ⟨(Nat.le_of_ble_eq_true rfl), (Nat.le_of_ble_eq_true rfl)⟩ (fun h1 hP1 => ?_)
  refine r_i2l dL_exchange_12 ?_
  refine r_last dL_exchange_13 (hP h1 hP1) (i := 0) rfl (by decide) (by decide) ?_
  refine r_goto (tgt := 29) dL_exchange_14 (by decide) ?_
  refine r_iconst (v := 0) dL_exchange_29 (by decide) ?_
  exact r_iret dL_exchange_30 rfl ⟨(Nat.le_of_ble_eq_true rfl), (Nat.le_of_ble_eq_true rfl)⟩ ⟨rfl, h1, hP1, rfl⟩

set_option maxRecDepth 100000 in
set_option maxHeartbeats 4000000 in
theorem WX_exchange_1 {l : Launch} {G : tp_G} {h : tp_H} {x o : Nat} {a0 a1 a2 a3 : Int32} {fs : List Value} {PX : String → tp_H → Prop} (hl : l.stackTraces = false) (hx : h.2 x = some (.inr (5, fs))) (hM : tp_Met l G mX5_exchange 1 6 [.ref x, .int a0, .int a1, .int a2, .int a3] h (fun _ _ => False) PX) (hPX : ∀ E h1, PX E h1 → E = "java/lang/IndexOutOfBoundsException") : tp_Met l G mL_exchange 1 6 [.ref x, .int a0, .int a1, .int a2, .int a3, .ref o] h (tp_PS (some (.int 1)) (fun h2 => ∃ E, PX E h2)) tp_NX := by
  refine tp_startW (L0 := [some (.ref x), some (.int a0), some (.int a1), some (.int a2), some (.int a3), some (.ref o), none]) (by decide) rfl hl (Nat.le_of_ble_eq_true rfl) rfl ?_
  refine r_aload5 dL_exchange_0 ?_
  refine r_iconst (v := 0) dL_exchange_2 (by decide) ?_
  refine r_aload0 dL_exchange_3 ?_
  refine r_iload1 dL_exchange_4 ?_
  refine r_iload2 dL_exchange_5 ?_
  refine r_iload3 dL_exchange_6 ?_
  refine r_iload4 dL_exchange_7 ?_
  refine r_callV dL_exchange_9 v_L_25 hM rfl hx rfl rfl rfl (Nat.le_of_ble_eq_true rfl) ⟨(Nat.le_of_ble_eq_true rfl), (Nat.le_of_ble_eq_true rfl)⟩ ⟨(Nat.le_of_ble_eq_true rfl), (Nat.le_of_ble_eq_true rfl)⟩ (fun r h1 hP1 => hP1.elim) (fun E h1 hp => ?_)
  have e := hPX E h1 hp
  subst e
  refine r_catch (nm := "java/lang/IndexOutOfBoundsException") (pre := []) (suf := [(0, 14, 21, 15), (0, 14, 25, 17)]) (x := (0, 14, 17, 13)) rfl rfl (fun z hz => by cases hz) (by decide) (by decide) cl_L_13 (by decide) (fun q => ?_)
  refine r_astore6 dL_exchange_17 (Nat.le_of_ble_eq_true rfl) rfl ?_
  refine r_iconst (v := 1) dL_exchange_19 (by decide) ?_
  exact r_iret dL_exchange_20 rfl ⟨(Nat.le_of_ble_eq_true rfl), (Nat.le_of_ble_eq_true rfl)⟩ ⟨rfl, _, hp⟩

set_option maxRecDepth 100000 in
set_option maxHeartbeats 4000000 in
theorem WX_exchange_2 {l : Launch} {G : tp_G} {h : tp_H} {x o : Nat} {a0 a1 a2 a3 : Int32} {fs : List Value} {PX : String → tp_H → Prop} (hl : l.stackTraces = false) (hx : h.2 x = some (.inr (5, fs))) (hM : tp_Met l G mX5_exchange 1 6 [.ref x, .int a0, .int a1, .int a2, .int a3] h (fun _ _ => False) PX) (hPX : ∀ E h1, PX E h1 → E = "java/lang/IllegalArgumentException") : tp_Met l G mL_exchange 1 6 [.ref x, .int a0, .int a1, .int a2, .int a3, .ref o] h (tp_PS (some (.int 2)) (fun h2 => ∃ E, PX E h2)) tp_NX := by
  refine tp_startW (L0 := [some (.ref x), some (.int a0), some (.int a1), some (.int a2), some (.int a3), some (.ref o), none]) (by decide) rfl hl (Nat.le_of_ble_eq_true rfl) rfl ?_
  refine r_aload5 dL_exchange_0 ?_
  refine r_iconst (v := 0) dL_exchange_2 (by decide) ?_
  refine r_aload0 dL_exchange_3 ?_
  refine r_iload1 dL_exchange_4 ?_
  refine r_iload2 dL_exchange_5 ?_
  refine r_iload3 dL_exchange_6 ?_
  refine r_iload4 dL_exchange_7 ?_
  refine r_callV dL_exchange_9 v_L_25 hM rfl hx rfl rfl rfl (Nat.le_of_ble_eq_true rfl) ⟨(Nat.le_of_ble_eq_true rfl), (Nat.le_of_ble_eq_true rfl)⟩ ⟨(Nat.le_of_ble_eq_true rfl), (Nat.le_of_ble_eq_true rfl)⟩ (fun r h1 hP1 => hP1.elim) (fun E h1 hp => ?_)
  have e := hPX E h1 hp
  subst e
  refine r_catch (nm := "java/lang/IllegalArgumentException") (pre := [(0, 14, 17, 13)]) (suf := [(0, 14, 25, 17)]) (x := (0, 14, 21, 15)) rfl rfl (fun z hz => by
      rcases List.mem_cons.mp hz with rfl | hz
      · exact Or.inr ⟨by decide, "java/lang/IndexOutOfBoundsException", cl_L_13, by decide⟩
      cases hz) (by decide) (by decide) cl_L_15 (by decide) (fun q => ?_)
  refine r_astore6 dL_exchange_21 (Nat.le_of_ble_eq_true rfl) rfl ?_
  refine r_iconst (v := 2) dL_exchange_23 (by decide) ?_
  exact r_iret dL_exchange_24 rfl ⟨(Nat.le_of_ble_eq_true rfl), (Nat.le_of_ble_eq_true rfl)⟩ ⟨rfl, _, hp⟩

set_option maxRecDepth 100000 in
set_option maxHeartbeats 4000000 in
theorem WX_exchange_3 {l : Launch} {G : tp_G} {h : tp_H} {x o : Nat} {a0 a1 a2 a3 : Int32} {fs : List Value} {PX : String → tp_H → Prop} (hl : l.stackTraces = false) (hx : h.2 x = some (.inr (5, fs))) (hM : tp_Met l G mX5_exchange 1 6 [.ref x, .int a0, .int a1, .int a2, .int a3] h (fun _ _ => False) PX) (hPX : ∀ E h1, PX E h1 → E = "java/lang/IllegalStateException") : tp_Met l G mL_exchange 1 6 [.ref x, .int a0, .int a1, .int a2, .int a3, .ref o] h (tp_PS (some (.int 3)) (fun h2 => ∃ E, PX E h2)) tp_NX := by
  refine tp_startW (L0 := [some (.ref x), some (.int a0), some (.int a1), some (.int a2), some (.int a3), some (.ref o), none]) (by decide) rfl hl (Nat.le_of_ble_eq_true rfl) rfl ?_
  refine r_aload5 dL_exchange_0 ?_
  refine r_iconst (v := 0) dL_exchange_2 (by decide) ?_
  refine r_aload0 dL_exchange_3 ?_
  refine r_iload1 dL_exchange_4 ?_
  refine r_iload2 dL_exchange_5 ?_
  refine r_iload3 dL_exchange_6 ?_
  refine r_iload4 dL_exchange_7 ?_
  refine r_callV dL_exchange_9 v_L_25 hM rfl hx rfl rfl rfl (Nat.le_of_ble_eq_true rfl) ⟨(Nat.le_of_ble_eq_true rfl), (Nat.le_of_ble_eq_true rfl)⟩ ⟨(Nat.le_of_ble_eq_true rfl), (Nat.le_of_ble_eq_true rfl)⟩ (fun r h1 hP1 => hP1.elim) (fun E h1 hp => ?_)
  have e := hPX E h1 hp
  subst e
  refine r_catch (nm := "java/lang/IllegalStateException") (pre := [(0, 14, 17, 13), (0, 14, 21, 15)]) (suf := []) (x := (0, 14, 25, 17)) rfl rfl (fun z hz => by
      rcases List.mem_cons.mp hz with rfl | hz
      · exact Or.inr ⟨by decide, "java/lang/IndexOutOfBoundsException", cl_L_13, by decide⟩
      rcases List.mem_cons.mp hz with rfl | hz
      · exact Or.inr ⟨by decide, "java/lang/IllegalArgumentException", cl_L_15, by decide⟩
      cases hz) (by decide) (by decide) cl_L_17 (by decide) (fun q => ?_)
  refine r_astore6 dL_exchange_25 (Nat.le_of_ble_eq_true rfl) rfl ?_
  refine r_iconst (v := 3) dL_exchange_27 (by decide) ?_
  exact r_iret dL_exchange_28 rfl ⟨(Nat.le_of_ble_eq_true rfl), (Nat.le_of_ble_eq_true rfl)⟩ ⟨rfl, _, hp⟩

set_option maxRecDepth 100000 in
set_option maxHeartbeats 4000000 in
theorem WL_hold {l : Launch} {G : tp_G} {h : tp_H} {x o : Nat} {a0 a1 a2 : Int32} {fs : List Value} {v : Int32} {P : tp_H → Prop} {f : Nat → Int64} (hl : l.stackTraces = false) (hx : h.2 x = some (.inr (5, fs))) (hM : tp_Met l G mX5_hold 0 0 [.ref x, .int a0, .int a1, .int a2] h (tp_PS (some (.int v)) P) tp_NX) (hP : ∀ h1, P h1 → h1.2 o = some (.inl (G.2.2.1 1, 1, .inr (.inl f)))) : tp_Met l G mL_hold 0 0 [.ref x, .int a0, .int a1, .int a2, .ref o] h (tp_PS (some (.int 0)) (fun h2 => ∃ h1, P h1 ∧ h2 = (h1.1, tp_up h1.2 o (.inl (G.2.2.1 1, 1, .inr (.inl (va_up f 0 v.toInt64))))))) tp_NX := by
  refine tp_startW (L0 := [some (.ref x), some (.int a0), some (.int a1), some (.int a2), some (.ref o), none]) (by decide) rfl hl (Nat.le_of_ble_eq_true rfl) rfl ?_
  refine r_aload4 dL_hold_0 ?_
  refine r_iconst (v := 0) dL_hold_2 (by decide) ?_
  refine r_aload0 dL_hold_3 ?_
  refine r_iload1 dL_hold_4 ?_
  refine r_iload2 dL_hold_5 ?_
  refine r_iload3 dL_hold_6 ?_
  refine r_sV1 dL_hold_7 v_L_29 hM rfl hx rfl rfl rfl (Nat.le_of_ble_eq_true rfl) ⟨(Nat.le_of_ble_eq_true rfl), (Nat.le_of_ble_eq_true rfl)⟩ ⟨(Nat.le_of_ble_eq_true rfl), (Nat.le_of_ble_eq_true rfl)⟩ (fun h1 hP1 => ?_)
  refine r_i2l dL_hold_10 ?_
  refine r_last dL_hold_11 (hP h1 hP1) (i := 0) rfl (by decide) (by decide) ?_
  refine r_goto (tgt := 27) dL_hold_12 (by decide) ?_
  refine r_iconst (v := 0) dL_hold_27 (by decide) ?_
  exact r_iret dL_hold_28 rfl ⟨(Nat.le_of_ble_eq_true rfl), (Nat.le_of_ble_eq_true rfl)⟩ ⟨rfl, h1, hP1, rfl⟩

set_option maxRecDepth 100000 in
set_option maxHeartbeats 4000000 in
theorem WX_hold_1 {l : Launch} {G : tp_G} {h : tp_H} {x o : Nat} {a0 a1 a2 : Int32} {fs : List Value} {PX : String → tp_H → Prop} (hl : l.stackTraces = false) (hx : h.2 x = some (.inr (5, fs))) (hM : tp_Met l G mX5_hold 1 6 [.ref x, .int a0, .int a1, .int a2] h (fun _ _ => False) PX) (hPX : ∀ E h1, PX E h1 → E = "java/lang/IndexOutOfBoundsException") : tp_Met l G mL_hold 1 6 [.ref x, .int a0, .int a1, .int a2, .ref o] h (tp_PS (some (.int 1)) (fun h2 => ∃ E, PX E h2)) tp_NX := by
  refine tp_startW (L0 := [some (.ref x), some (.int a0), some (.int a1), some (.int a2), some (.ref o), none]) (by decide) rfl hl (Nat.le_of_ble_eq_true rfl) rfl ?_
  refine r_aload4 dL_hold_0 ?_
  refine r_iconst (v := 0) dL_hold_2 (by decide) ?_
  refine r_aload0 dL_hold_3 ?_
  refine r_iload1 dL_hold_4 ?_
  refine r_iload2 dL_hold_5 ?_
  refine r_iload3 dL_hold_6 ?_
  refine r_callV dL_hold_7 v_L_29 hM rfl hx rfl rfl rfl (Nat.le_of_ble_eq_true rfl) ⟨(Nat.le_of_ble_eq_true rfl), (Nat.le_of_ble_eq_true rfl)⟩ ⟨(Nat.le_of_ble_eq_true rfl), (Nat.le_of_ble_eq_true rfl)⟩ (fun r h1 hP1 => hP1.elim) (fun E h1 hp => ?_)
  have e := hPX E h1 hp
  subst e
  refine r_catch (nm := "java/lang/IndexOutOfBoundsException") (pre := []) (suf := [(0, 12, 19, 15), (0, 12, 23, 17)]) (x := (0, 12, 15, 13)) rfl rfl (fun z hz => by cases hz) (by decide) (by decide) cl_L_13 (by decide) (fun q => ?_)
  refine r_astore5 dL_hold_15 (Nat.le_of_ble_eq_true rfl) rfl ?_
  refine r_iconst (v := 1) dL_hold_17 (by decide) ?_
  exact r_iret dL_hold_18 rfl ⟨(Nat.le_of_ble_eq_true rfl), (Nat.le_of_ble_eq_true rfl)⟩ ⟨rfl, _, hp⟩

set_option maxRecDepth 100000 in
set_option maxHeartbeats 4000000 in
theorem WX_hold_2 {l : Launch} {G : tp_G} {h : tp_H} {x o : Nat} {a0 a1 a2 : Int32} {fs : List Value} {PX : String → tp_H → Prop} (hl : l.stackTraces = false) (hx : h.2 x = some (.inr (5, fs))) (hM : tp_Met l G mX5_hold 1 6 [.ref x, .int a0, .int a1, .int a2] h (fun _ _ => False) PX) (hPX : ∀ E h1, PX E h1 → E = "java/lang/IllegalArgumentException") : tp_Met l G mL_hold 1 6 [.ref x, .int a0, .int a1, .int a2, .ref o] h (tp_PS (some (.int 2)) (fun h2 => ∃ E, PX E h2)) tp_NX := by
  refine tp_startW (L0 := [some (.ref x), some (.int a0), some (.int a1), some (.int a2), some (.ref o), none]) (by decide) rfl hl (Nat.le_of_ble_eq_true rfl) rfl ?_
  refine r_aload4 dL_hold_0 ?_
  refine r_iconst (v := 0) dL_hold_2 (by decide) ?_
  refine r_aload0 dL_hold_3 ?_
  refine r_iload1 dL_hold_4 ?_
  refine r_iload2 dL_hold_5 ?_
  refine r_iload3 dL_hold_6 ?_
  refine r_callV dL_hold_7 v_L_29 hM rfl hx rfl rfl rfl (Nat.le_of_ble_eq_true rfl) ⟨(Nat.le_of_ble_eq_true rfl), (Nat.le_of_ble_eq_true rfl)⟩ ⟨(Nat.le_of_ble_eq_true rfl), (Nat.le_of_ble_eq_true rfl)⟩ (fun r h1 hP1 => hP1.elim) (fun E h1 hp => ?_)
  have e := hPX E h1 hp
  subst e
  refine r_catch (nm := "java/lang/IllegalArgumentException") (pre := [(0, 12, 15, 13)]) (suf := [(0, 12, 23, 17)]) (x := (0, 12, 19, 15)) rfl rfl (fun z hz => by
      rcases List.mem_cons.mp hz with rfl | hz
      · exact Or.inr ⟨by decide, "java/lang/IndexOutOfBoundsException", cl_L_13, by decide⟩
      cases hz) (by decide) (by decide) cl_L_15 (by decide) (fun q => ?_)
  refine r_astore5 dL_hold_19 (Nat.le_of_ble_eq_true rfl) rfl ?_
  refine r_iconst (v := 2) dL_hold_21 (by decide) ?_
  exact r_iret dL_hold_22 rfl ⟨(Nat.le_of_ble_eq_true rfl), (Nat.le_of_ble_eq_true rfl)⟩ ⟨rfl, _, hp⟩

set_option maxRecDepth 100000 in
set_option maxHeartbeats 4000000 in
theorem WX_hold_3 {l : Launch} {G : tp_G} {h : tp_H} {x o : Nat} {a0 a1 a2 : Int32} {fs : List Value} {PX : String → tp_H → Prop} (hl : l.stackTraces = false) (hx : h.2 x = some (.inr (5, fs))) (hM : tp_Met l G mX5_hold 1 6 [.ref x, .int a0, .int a1, .int a2] h (fun _ _ => False) PX) (hPX : ∀ E h1, PX E h1 → E = "java/lang/IllegalStateException") : tp_Met l G mL_hold 1 6 [.ref x, .int a0, .int a1, .int a2, .ref o] h (tp_PS (some (.int 3)) (fun h2 => ∃ E, PX E h2)) tp_NX := by
  refine tp_startW (L0 := [some (.ref x), some (.int a0), some (.int a1), some (.int a2), some (.ref o), none]) (by decide) rfl hl (Nat.le_of_ble_eq_true rfl) rfl ?_
  refine r_aload4 dL_hold_0 ?_
  refine r_iconst (v := 0) dL_hold_2 (by decide) ?_
  refine r_aload0 dL_hold_3 ?_
  refine r_iload1 dL_hold_4 ?_
  refine r_iload2 dL_hold_5 ?_
  refine r_iload3 dL_hold_6 ?_
  refine r_callV dL_hold_7 v_L_29 hM rfl hx rfl rfl rfl (Nat.le_of_ble_eq_true rfl) ⟨(Nat.le_of_ble_eq_true rfl), (Nat.le_of_ble_eq_true rfl)⟩ ⟨(Nat.le_of_ble_eq_true rfl), (Nat.le_of_ble_eq_true rfl)⟩ (fun r h1 hP1 => hP1.elim) (fun E h1 hp => ?_)
  have e := hPX E h1 hp
  subst e
  refine r_catch (nm := "java/lang/IllegalStateException") (pre := [(0, 12, 15, 13), (0, 12, 19, 15)]) (suf := []) (x := (0, 12, 23, 17)) rfl rfl (fun z hz => by
      rcases List.mem_cons.mp hz with rfl | hz
      · exact Or.inr ⟨by decide, "java/lang/IndexOutOfBoundsException", cl_L_13, by decide⟩
      rcases List.mem_cons.mp hz with rfl | hz
      · exact Or.inr ⟨by decide, "java/lang/IllegalArgumentException", cl_L_15, by decide⟩
      cases hz) (by decide) (by decide) cl_L_17 (by decide) (fun q => ?_)
  refine r_astore5 dL_hold_23 (Nat.le_of_ble_eq_true rfl) rfl ?_
  refine r_iconst (v := 3) dL_hold_25 (by decide) ?_
  exact r_iret dL_hold_26 rfl ⟨(Nat.le_of_ble_eq_true rfl), (Nat.le_of_ble_eq_true rfl)⟩ ⟨rfl, _, hp⟩

set_option maxRecDepth 100000 in
set_option maxHeartbeats 4000000 in
theorem WL_pay {l : Launch} {G : tp_G} {h : tp_H} {x o : Nat} {a0 a1 : Int32} {fs : List Value} {v : Int32} {P : tp_H → Prop} {f : Nat → Int64} (hl : l.stackTraces = false) (hx : h.2 x = some (.inr (5, fs))) (hM : tp_Met l G mX5_pay 0 0 [.ref x, .int a0, .int a1] h (tp_PS (some (.int v)) P) tp_NX) (hP : ∀ h1, P h1 → h1.2 o = some (.inl (G.2.2.1 1, 1, .inr (.inl f)))) : tp_Met l G mL_pay 0 0 [.ref x, .int a0, .int a1, .ref o] h (tp_PS (some (.int 0)) (fun h2 => ∃ h1, P h1 ∧ h2 = (h1.1, tp_up h1.2 o (.inl (G.2.2.1 1, 1, .inr (.inl (va_up f 0 v.toInt64))))))) tp_NX := by
  refine tp_startW (L0 := [some (.ref x), some (.int a0), some (.int a1), some (.ref o), none]) (by decide) rfl hl (Nat.le_of_ble_eq_true rfl) rfl ?_
  refine r_aload3 dL_pay_0 ?_
  refine r_iconst (v := 0) dL_pay_1 (by decide) ?_
  refine r_aload0 dL_pay_2 ?_
  refine r_iload1 dL_pay_3 ?_
  refine r_iload2 dL_pay_4 ?_
  refine r_sV1 dL_pay_5 v_L_33 hM rfl hx rfl rfl rfl (Nat.le_of_ble_eq_true rfl) ⟨(Nat.le_of_ble_eq_true rfl), (Nat.le_of_ble_eq_true rfl)⟩ ⟨(Nat.le_of_ble_eq_true rfl), (Nat.le_of_ble_eq_true rfl)⟩ (fun h1 hP1 => ?_)
  refine r_i2l dL_pay_8 ?_
  refine r_last dL_pay_9 (hP h1 hP1) (i := 0) rfl (by decide) (by decide) ?_
  refine r_goto (tgt := 25) dL_pay_10 (by decide) ?_
  refine r_iconst (v := 0) dL_pay_25 (by decide) ?_
  exact r_iret dL_pay_26 rfl ⟨(Nat.le_of_ble_eq_true rfl), (Nat.le_of_ble_eq_true rfl)⟩ ⟨rfl, h1, hP1, rfl⟩

set_option maxRecDepth 100000 in
set_option maxHeartbeats 4000000 in
theorem WX_pay_1 {l : Launch} {G : tp_G} {h : tp_H} {x o : Nat} {a0 a1 : Int32} {fs : List Value} {PX : String → tp_H → Prop} (hl : l.stackTraces = false) (hx : h.2 x = some (.inr (5, fs))) (hM : tp_Met l G mX5_pay 1 6 [.ref x, .int a0, .int a1] h (fun _ _ => False) PX) (hPX : ∀ E h1, PX E h1 → E = "java/lang/IndexOutOfBoundsException") : tp_Met l G mL_pay 1 6 [.ref x, .int a0, .int a1, .ref o] h (tp_PS (some (.int 1)) (fun h2 => ∃ E, PX E h2)) tp_NX := by
  refine tp_startW (L0 := [some (.ref x), some (.int a0), some (.int a1), some (.ref o), none]) (by decide) rfl hl (Nat.le_of_ble_eq_true rfl) rfl ?_
  refine r_aload3 dL_pay_0 ?_
  refine r_iconst (v := 0) dL_pay_1 (by decide) ?_
  refine r_aload0 dL_pay_2 ?_
  refine r_iload1 dL_pay_3 ?_
  refine r_iload2 dL_pay_4 ?_
  refine r_callV dL_pay_5 v_L_33 hM rfl hx rfl rfl rfl (Nat.le_of_ble_eq_true rfl) ⟨(Nat.le_of_ble_eq_true rfl), (Nat.le_of_ble_eq_true rfl)⟩ ⟨(Nat.le_of_ble_eq_true rfl), (Nat.le_of_ble_eq_true rfl)⟩ (fun r h1 hP1 => hP1.elim) (fun E h1 hp => ?_)
  have e := hPX E h1 hp
  subst e
  refine r_catch (nm := "java/lang/IndexOutOfBoundsException") (pre := []) (suf := [(0, 10, 17, 15), (0, 10, 21, 17)]) (x := (0, 10, 13, 13)) rfl rfl (fun z hz => by cases hz) (by decide) (by decide) cl_L_13 (by decide) (fun q => ?_)
  refine r_astore4 dL_pay_13 (Nat.le_of_ble_eq_true rfl) rfl ?_
  refine r_iconst (v := 1) dL_pay_15 (by decide) ?_
  exact r_iret dL_pay_16 rfl ⟨(Nat.le_of_ble_eq_true rfl), (Nat.le_of_ble_eq_true rfl)⟩ ⟨rfl, _, hp⟩

set_option maxRecDepth 100000 in
set_option maxHeartbeats 4000000 in
theorem WX_pay_2 {l : Launch} {G : tp_G} {h : tp_H} {x o : Nat} {a0 a1 : Int32} {fs : List Value} {PX : String → tp_H → Prop} (hl : l.stackTraces = false) (hx : h.2 x = some (.inr (5, fs))) (hM : tp_Met l G mX5_pay 1 6 [.ref x, .int a0, .int a1] h (fun _ _ => False) PX) (hPX : ∀ E h1, PX E h1 → E = "java/lang/IllegalArgumentException") : tp_Met l G mL_pay 1 6 [.ref x, .int a0, .int a1, .ref o] h (tp_PS (some (.int 2)) (fun h2 => ∃ E, PX E h2)) tp_NX := by
  refine tp_startW (L0 := [some (.ref x), some (.int a0), some (.int a1), some (.ref o), none]) (by decide) rfl hl (Nat.le_of_ble_eq_true rfl) rfl ?_
  refine r_aload3 dL_pay_0 ?_
  refine r_iconst (v := 0) dL_pay_1 (by decide) ?_
  refine r_aload0 dL_pay_2 ?_
  refine r_iload1 dL_pay_3 ?_
  refine r_iload2 dL_pay_4 ?_
  refine r_callV dL_pay_5 v_L_33 hM rfl hx rfl rfl rfl (Nat.le_of_ble_eq_true rfl) ⟨(Nat.le_of_ble_eq_true rfl), (Nat.le_of_ble_eq_true rfl)⟩ ⟨(Nat.le_of_ble_eq_true rfl), (Nat.le_of_ble_eq_true rfl)⟩ (fun r h1 hP1 => hP1.elim) (fun E h1 hp => ?_)
  have e := hPX E h1 hp
  subst e
  refine r_catch (nm := "java/lang/IllegalArgumentException") (pre := [(0, 10, 13, 13)]) (suf := [(0, 10, 21, 17)]) (x := (0, 10, 17, 15)) rfl rfl (fun z hz => by
      rcases List.mem_cons.mp hz with rfl | hz
      · exact Or.inr ⟨by decide, "java/lang/IndexOutOfBoundsException", cl_L_13, by decide⟩
      cases hz) (by decide) (by decide) cl_L_15 (by decide) (fun q => ?_)
  refine r_astore4 dL_pay_17 (Nat.le_of_ble_eq_true rfl) rfl ?_
  refine r_iconst (v := 2) dL_pay_19 (by decide) ?_
  exact r_iret dL_pay_20 rfl ⟨(Nat.le_of_ble_eq_true rfl), (Nat.le_of_ble_eq_true rfl)⟩ ⟨rfl, _, hp⟩

set_option maxRecDepth 100000 in
set_option maxHeartbeats 4000000 in
theorem WX_pay_3 {l : Launch} {G : tp_G} {h : tp_H} {x o : Nat} {a0 a1 : Int32} {fs : List Value} {PX : String → tp_H → Prop} (hl : l.stackTraces = false) (hx : h.2 x = some (.inr (5, fs))) (hM : tp_Met l G mX5_pay 1 6 [.ref x, .int a0, .int a1] h (fun _ _ => False) PX) (hPX : ∀ E h1, PX E h1 → E = "java/lang/IllegalStateException") : tp_Met l G mL_pay 1 6 [.ref x, .int a0, .int a1, .ref o] h (tp_PS (some (.int 3)) (fun h2 => ∃ E, PX E h2)) tp_NX := by
  refine tp_startW (L0 := [some (.ref x), some (.int a0), some (.int a1), some (.ref o), none]) (by decide) rfl hl (Nat.le_of_ble_eq_true rfl) rfl ?_
  refine r_aload3 dL_pay_0 ?_
  refine r_iconst (v := 0) dL_pay_1 (by decide) ?_
  refine r_aload0 dL_pay_2 ?_
  refine r_iload1 dL_pay_3 ?_
  refine r_iload2 dL_pay_4 ?_
  refine r_callV dL_pay_5 v_L_33 hM rfl hx rfl rfl rfl (Nat.le_of_ble_eq_true rfl) ⟨(Nat.le_of_ble_eq_true rfl), (Nat.le_of_ble_eq_true rfl)⟩ ⟨(Nat.le_of_ble_eq_true rfl), (Nat.le_of_ble_eq_true rfl)⟩ (fun r h1 hP1 => hP1.elim) (fun E h1 hp => ?_)
  have e := hPX E h1 hp
  subst e
  refine r_catch (nm := "java/lang/IllegalStateException") (pre := [(0, 10, 13, 13), (0, 10, 17, 15)]) (suf := []) (x := (0, 10, 21, 17)) rfl rfl (fun z hz => by
      rcases List.mem_cons.mp hz with rfl | hz
      · exact Or.inr ⟨by decide, "java/lang/IndexOutOfBoundsException", cl_L_13, by decide⟩
      rcases List.mem_cons.mp hz with rfl | hz
      · exact Or.inr ⟨by decide, "java/lang/IllegalArgumentException", cl_L_15, by decide⟩
      cases hz) (by decide) (by decide) cl_L_17 (by decide) (fun q => ?_)
  refine r_astore4 dL_pay_21 (Nat.le_of_ble_eq_true rfl) rfl ?_
  refine r_iconst (v := 3) dL_pay_23 (by decide) ?_
  exact r_iret dL_pay_24 rfl ⟨(Nat.le_of_ble_eq_true rfl), (Nat.le_of_ble_eq_true rfl)⟩ ⟨rfl, _, hp⟩

set_option maxRecDepth 100000 in
set_option maxHeartbeats 4000000 in
theorem WL_letGo {l : Launch} {G : tp_G} {h : tp_H} {x o : Nat} {a0 : Int32} {fs : List Value} {v : Int32} {P : tp_H → Prop} {f : Nat → Int64} (hl : l.stackTraces = false) (hx : h.2 x = some (.inr (5, fs))) (hM : tp_Met l G mX5_letGo 0 0 [.ref x, .int a0] h (tp_PS (some (.int v)) P) tp_NX) (hP : ∀ h1, P h1 → h1.2 o = some (.inl (G.2.2.1 1, 1, .inr (.inl f)))) : tp_Met l G mL_letGo 0 0 [.ref x, .int a0, .ref o] h (tp_PS (some (.int 0)) (fun h2 => ∃ h1, P h1 ∧ h2 = (h1.1, tp_up h1.2 o (.inl (G.2.2.1 1, 1, .inr (.inl (va_up f 0 v.toInt64))))))) tp_NX := by
  refine tp_startW (L0 := [some (.ref x), some (.int a0), some (.ref o), none]) (by decide) rfl hl (Nat.le_of_ble_eq_true rfl) rfl ?_
  refine r_aload2 dL_letGo_0 ?_
  refine r_iconst (v := 0) dL_letGo_1 (by decide) ?_
  refine r_aload0 dL_letGo_2 ?_
  refine r_iload1 dL_letGo_3 ?_
  refine r_sV1 dL_letGo_4 v_L_36 hM rfl hx rfl rfl rfl (Nat.le_of_ble_eq_true rfl) ⟨(Nat.le_of_ble_eq_true rfl), (Nat.le_of_ble_eq_true rfl)⟩ ⟨(Nat.le_of_ble_eq_true rfl), (Nat.le_of_ble_eq_true rfl)⟩ (fun h1 hP1 => ?_)
  refine r_i2l dL_letGo_7 ?_
  refine r_last dL_letGo_8 (hP h1 hP1) (i := 0) rfl (by decide) (by decide) ?_
  refine r_goto (tgt := 15) dL_letGo_9 (by decide) ?_
  refine r_iconst (v := 0) dL_letGo_15 (by decide) ?_
  exact r_iret dL_letGo_16 rfl ⟨(Nat.le_of_ble_eq_true rfl), (Nat.le_of_ble_eq_true rfl)⟩ ⟨rfl, h1, hP1, rfl⟩

set_option maxRecDepth 100000 in
set_option maxHeartbeats 4000000 in
theorem WX_letGo_1 {l : Launch} {G : tp_G} {h : tp_H} {x o : Nat} {a0 : Int32} {fs : List Value} {PX : String → tp_H → Prop} (hl : l.stackTraces = false) (hx : h.2 x = some (.inr (5, fs))) (hM : tp_Met l G mX5_letGo 1 6 [.ref x, .int a0] h (fun _ _ => False) PX) (hPX : ∀ E h1, PX E h1 → E = "java/lang/IndexOutOfBoundsException") : tp_Met l G mL_letGo 1 6 [.ref x, .int a0, .ref o] h (tp_PS (some (.int 1)) (fun h2 => ∃ E, PX E h2)) tp_NX := by
  refine tp_startW (L0 := [some (.ref x), some (.int a0), some (.ref o), none]) (by decide) rfl hl (Nat.le_of_ble_eq_true rfl) rfl ?_
  refine r_aload2 dL_letGo_0 ?_
  refine r_iconst (v := 0) dL_letGo_1 (by decide) ?_
  refine r_aload0 dL_letGo_2 ?_
  refine r_iload1 dL_letGo_3 ?_
  refine r_callV dL_letGo_4 v_L_36 hM rfl hx rfl rfl rfl (Nat.le_of_ble_eq_true rfl) ⟨(Nat.le_of_ble_eq_true rfl), (Nat.le_of_ble_eq_true rfl)⟩ ⟨(Nat.le_of_ble_eq_true rfl), (Nat.le_of_ble_eq_true rfl)⟩ (fun r h1 hP1 => hP1.elim) (fun E h1 hp => ?_)
  have e := hPX E h1 hp
  subst e
  refine r_catch (nm := "java/lang/IndexOutOfBoundsException") (pre := []) (suf := []) (x := (0, 9, 12, 13)) rfl rfl (fun z hz => by cases hz) (by decide) (by decide) cl_L_13 (by decide) (fun q => ?_)
  refine r_astore3 dL_letGo_12 (Nat.le_of_ble_eq_true rfl) rfl ?_
  refine r_iconst (v := 1) dL_letGo_13 (by decide) ?_
  exact r_iret dL_letGo_14 rfl ⟨(Nat.le_of_ble_eq_true rfl), (Nat.le_of_ble_eq_true rfl)⟩ ⟨rfl, _, hp⟩

set_option maxRecDepth 100000 in
set_option maxHeartbeats 4000000 in
theorem WL_dispute {l : Launch} {G : tp_G} {h : tp_H} {x o : Nat} {a0 : Int32} {fs : List Value} {v : Int32} {P : tp_H → Prop} {f : Nat → Int64} (hl : l.stackTraces = false) (hx : h.2 x = some (.inr (5, fs))) (hM : tp_Met l G mX5_dispute 0 0 [.ref x, .int a0] h (tp_PS (some (.int v)) P) tp_NX) (hP : ∀ h1, P h1 → h1.2 o = some (.inl (G.2.2.1 1, 1, .inr (.inl f)))) : tp_Met l G mL_dispute 0 0 [.ref x, .int a0, .ref o] h (tp_PS (some (.int 0)) (fun h2 => ∃ h1, P h1 ∧ h2 = (h1.1, tp_up h1.2 o (.inl (G.2.2.1 1, 1, .inr (.inl (va_up f 0 v.toInt64))))))) tp_NX := by
  refine tp_startW (L0 := [some (.ref x), some (.int a0), some (.ref o), none]) (by decide) rfl hl (Nat.le_of_ble_eq_true rfl) rfl ?_
  refine r_aload2 dL_dispute_0 ?_
  refine r_iconst (v := 0) dL_dispute_1 (by decide) ?_
  refine r_aload0 dL_dispute_2 ?_
  refine r_iload1 dL_dispute_3 ?_
  refine r_sV1 dL_dispute_4 v_L_40 hM rfl hx rfl rfl rfl (Nat.le_of_ble_eq_true rfl) ⟨(Nat.le_of_ble_eq_true rfl), (Nat.le_of_ble_eq_true rfl)⟩ ⟨(Nat.le_of_ble_eq_true rfl), (Nat.le_of_ble_eq_true rfl)⟩ (fun h1 hP1 => ?_)
  refine r_i2l dL_dispute_7 ?_
  refine r_last dL_dispute_8 (hP h1 hP1) (i := 0) rfl (by decide) (by decide) ?_
  refine r_goto (tgt := 18) dL_dispute_9 (by decide) ?_
  refine r_iconst (v := 0) dL_dispute_18 (by decide) ?_
  exact r_iret dL_dispute_19 rfl ⟨(Nat.le_of_ble_eq_true rfl), (Nat.le_of_ble_eq_true rfl)⟩ ⟨rfl, h1, hP1, rfl⟩

set_option maxRecDepth 100000 in
set_option maxHeartbeats 4000000 in
theorem WX_dispute_1 {l : Launch} {G : tp_G} {h : tp_H} {x o : Nat} {a0 : Int32} {fs : List Value} {PX : String → tp_H → Prop} (hl : l.stackTraces = false) (hx : h.2 x = some (.inr (5, fs))) (hM : tp_Met l G mX5_dispute 1 6 [.ref x, .int a0] h (fun _ _ => False) PX) (hPX : ∀ E h1, PX E h1 → E = "java/lang/IndexOutOfBoundsException") : tp_Met l G mL_dispute 1 6 [.ref x, .int a0, .ref o] h (tp_PS (some (.int 1)) (fun h2 => ∃ E, PX E h2)) tp_NX := by
  refine tp_startW (L0 := [some (.ref x), some (.int a0), some (.ref o), none]) (by decide) rfl hl (Nat.le_of_ble_eq_true rfl) rfl ?_
  refine r_aload2 dL_dispute_0 ?_
  refine r_iconst (v := 0) dL_dispute_1 (by decide) ?_
  refine r_aload0 dL_dispute_2 ?_
  refine r_iload1 dL_dispute_3 ?_
  refine r_callV dL_dispute_4 v_L_40 hM rfl hx rfl rfl rfl (Nat.le_of_ble_eq_true rfl) ⟨(Nat.le_of_ble_eq_true rfl), (Nat.le_of_ble_eq_true rfl)⟩ ⟨(Nat.le_of_ble_eq_true rfl), (Nat.le_of_ble_eq_true rfl)⟩ (fun r h1 hP1 => hP1.elim) (fun E h1 hp => ?_)
  have e := hPX E h1 hp
  subst e
  refine r_catch (nm := "java/lang/IndexOutOfBoundsException") (pre := []) (suf := [(0, 9, 15, 17)]) (x := (0, 9, 12, 13)) rfl rfl (fun z hz => by cases hz) (by decide) (by decide) cl_L_13 (by decide) (fun q => ?_)
  refine r_astore3 dL_dispute_12 (Nat.le_of_ble_eq_true rfl) rfl ?_
  refine r_iconst (v := 1) dL_dispute_13 (by decide) ?_
  exact r_iret dL_dispute_14 rfl ⟨(Nat.le_of_ble_eq_true rfl), (Nat.le_of_ble_eq_true rfl)⟩ ⟨rfl, _, hp⟩

set_option maxRecDepth 100000 in
set_option maxHeartbeats 4000000 in
theorem WX_dispute_2 {l : Launch} {G : tp_G} {h : tp_H} {x o : Nat} {a0 : Int32} {fs : List Value} {PX : String → tp_H → Prop} (hl : l.stackTraces = false) (hx : h.2 x = some (.inr (5, fs))) (hM : tp_Met l G mX5_dispute 1 6 [.ref x, .int a0] h (fun _ _ => False) PX) (hPX : ∀ E h1, PX E h1 → E = "java/lang/IllegalStateException") : tp_Met l G mL_dispute 1 6 [.ref x, .int a0, .ref o] h (tp_PS (some (.int 2)) (fun h2 => ∃ E, PX E h2)) tp_NX := by
  refine tp_startW (L0 := [some (.ref x), some (.int a0), some (.ref o), none]) (by decide) rfl hl (Nat.le_of_ble_eq_true rfl) rfl ?_
  refine r_aload2 dL_dispute_0 ?_
  refine r_iconst (v := 0) dL_dispute_1 (by decide) ?_
  refine r_aload0 dL_dispute_2 ?_
  refine r_iload1 dL_dispute_3 ?_
  refine r_callV dL_dispute_4 v_L_40 hM rfl hx rfl rfl rfl (Nat.le_of_ble_eq_true rfl) ⟨(Nat.le_of_ble_eq_true rfl), (Nat.le_of_ble_eq_true rfl)⟩ ⟨(Nat.le_of_ble_eq_true rfl), (Nat.le_of_ble_eq_true rfl)⟩ (fun r h1 hP1 => hP1.elim) (fun E h1 hp => ?_)
  have e := hPX E h1 hp
  subst e
  refine r_catch (nm := "java/lang/IllegalStateException") (pre := [(0, 9, 12, 13)]) (suf := []) (x := (0, 9, 15, 17)) rfl rfl (fun z hz => by
      rcases List.mem_cons.mp hz with rfl | hz
      · exact Or.inr ⟨by decide, "java/lang/IndexOutOfBoundsException", cl_L_13, by decide⟩
      cases hz) (by decide) (by decide) cl_L_17 (by decide) (fun q => ?_)
  refine r_astore3 dL_dispute_15 (Nat.le_of_ble_eq_true rfl) rfl ?_
  refine r_iconst (v := 2) dL_dispute_16 (by decide) ?_
  exact r_iret dL_dispute_17 rfl ⟨(Nat.le_of_ble_eq_true rfl), (Nat.le_of_ble_eq_true rfl)⟩ ⟨rfl, _, hp⟩

set_option maxRecDepth 100000 in
set_option maxHeartbeats 4000000 in
theorem WL_decide {l : Launch} {G : tp_G} {h : tp_H} {x o : Nat} {a0 a1 : Int32} {fs : List Value} {v : Int32} {P : tp_H → Prop} {f : Nat → Int64} (hl : l.stackTraces = false) (hx : h.2 x = some (.inr (5, fs))) (hM : tp_Met l G mX5_decide 0 0 [.ref x, .int a0, .int a1] h (tp_PS (some (.int v)) P) tp_NX) (hP : ∀ h1, P h1 → h1.2 o = some (.inl (G.2.2.1 1, 1, .inr (.inl f)))) : tp_Met l G mL_decide 0 0 [.ref x, .int a0, .int a1, .ref o] h (tp_PS (some (.int 0)) (fun h2 => ∃ h1, P h1 ∧ h2 = (h1.1, tp_up h1.2 o (.inl (G.2.2.1 1, 1, .inr (.inl (va_up f 0 v.toInt64))))))) tp_NX := by
  refine tp_startW (L0 := [some (.ref x), some (.int a0), some (.int a1), some (.ref o), none]) (by decide) rfl hl (Nat.le_of_ble_eq_true rfl) rfl ?_
  refine r_aload3 dL_decide_0 ?_
  refine r_iconst (v := 0) dL_decide_1 (by decide) ?_
  refine r_aload0 dL_decide_2 ?_
  refine r_iload1 dL_decide_3 ?_
  refine r_iload2 dL_decide_4 ?_
  refine r_sV1 dL_decide_5 v_L_43 hM rfl hx rfl rfl rfl (Nat.le_of_ble_eq_true rfl) ⟨(Nat.le_of_ble_eq_true rfl), (Nat.le_of_ble_eq_true rfl)⟩ ⟨(Nat.le_of_ble_eq_true rfl), (Nat.le_of_ble_eq_true rfl)⟩ (fun h1 hP1 => ?_)
  refine r_i2l dL_decide_8 ?_
  refine r_last dL_decide_9 (hP h1 hP1) (i := 0) rfl (by decide) (by decide) ?_
  refine r_goto (tgt := 21) dL_decide_10 (by decide) ?_
  refine r_iconst (v := 0) dL_decide_21 (by decide) ?_
  exact r_iret dL_decide_22 rfl ⟨(Nat.le_of_ble_eq_true rfl), (Nat.le_of_ble_eq_true rfl)⟩ ⟨rfl, h1, hP1, rfl⟩

set_option maxRecDepth 100000 in
set_option maxHeartbeats 4000000 in
theorem WX_decide_1 {l : Launch} {G : tp_G} {h : tp_H} {x o : Nat} {a0 a1 : Int32} {fs : List Value} {PX : String → tp_H → Prop} (hl : l.stackTraces = false) (hx : h.2 x = some (.inr (5, fs))) (hM : tp_Met l G mX5_decide 1 6 [.ref x, .int a0, .int a1] h (fun _ _ => False) PX) (hPX : ∀ E h1, PX E h1 → E = "java/lang/IndexOutOfBoundsException") : tp_Met l G mL_decide 1 6 [.ref x, .int a0, .int a1, .ref o] h (tp_PS (some (.int 1)) (fun h2 => ∃ E, PX E h2)) tp_NX := by
  refine tp_startW (L0 := [some (.ref x), some (.int a0), some (.int a1), some (.ref o), none]) (by decide) rfl hl (Nat.le_of_ble_eq_true rfl) rfl ?_
  refine r_aload3 dL_decide_0 ?_
  refine r_iconst (v := 0) dL_decide_1 (by decide) ?_
  refine r_aload0 dL_decide_2 ?_
  refine r_iload1 dL_decide_3 ?_
  refine r_iload2 dL_decide_4 ?_
  refine r_callV dL_decide_5 v_L_43 hM rfl hx rfl rfl rfl (Nat.le_of_ble_eq_true rfl) ⟨(Nat.le_of_ble_eq_true rfl), (Nat.le_of_ble_eq_true rfl)⟩ ⟨(Nat.le_of_ble_eq_true rfl), (Nat.le_of_ble_eq_true rfl)⟩ (fun r h1 hP1 => hP1.elim) (fun E h1 hp => ?_)
  have e := hPX E h1 hp
  subst e
  refine r_catch (nm := "java/lang/IndexOutOfBoundsException") (pre := []) (suf := [(0, 10, 17, 17)]) (x := (0, 10, 13, 13)) rfl rfl (fun z hz => by cases hz) (by decide) (by decide) cl_L_13 (by decide) (fun q => ?_)
  refine r_astore4 dL_decide_13 (Nat.le_of_ble_eq_true rfl) rfl ?_
  refine r_iconst (v := 1) dL_decide_15 (by decide) ?_
  exact r_iret dL_decide_16 rfl ⟨(Nat.le_of_ble_eq_true rfl), (Nat.le_of_ble_eq_true rfl)⟩ ⟨rfl, _, hp⟩

set_option maxRecDepth 100000 in
set_option maxHeartbeats 4000000 in
theorem WX_decide_2 {l : Launch} {G : tp_G} {h : tp_H} {x o : Nat} {a0 a1 : Int32} {fs : List Value} {PX : String → tp_H → Prop} (hl : l.stackTraces = false) (hx : h.2 x = some (.inr (5, fs))) (hM : tp_Met l G mX5_decide 1 6 [.ref x, .int a0, .int a1] h (fun _ _ => False) PX) (hPX : ∀ E h1, PX E h1 → E = "java/lang/IllegalStateException") : tp_Met l G mL_decide 1 6 [.ref x, .int a0, .int a1, .ref o] h (tp_PS (some (.int 2)) (fun h2 => ∃ E, PX E h2)) tp_NX := by
  refine tp_startW (L0 := [some (.ref x), some (.int a0), some (.int a1), some (.ref o), none]) (by decide) rfl hl (Nat.le_of_ble_eq_true rfl) rfl ?_
  refine r_aload3 dL_decide_0 ?_
  refine r_iconst (v := 0) dL_decide_1 (by decide) ?_
  refine r_aload0 dL_decide_2 ?_
  refine r_iload1 dL_decide_3 ?_
  refine r_iload2 dL_decide_4 ?_
  refine r_callV dL_decide_5 v_L_43 hM rfl hx rfl rfl rfl (Nat.le_of_ble_eq_true rfl) ⟨(Nat.le_of_ble_eq_true rfl), (Nat.le_of_ble_eq_true rfl)⟩ ⟨(Nat.le_of_ble_eq_true rfl), (Nat.le_of_ble_eq_true rfl)⟩ (fun r h1 hP1 => hP1.elim) (fun E h1 hp => ?_)
  have e := hPX E h1 hp
  subst e
  refine r_catch (nm := "java/lang/IllegalStateException") (pre := [(0, 10, 13, 13)]) (suf := []) (x := (0, 10, 17, 17)) rfl rfl (fun z hz => by
      rcases List.mem_cons.mp hz with rfl | hz
      · exact Or.inr ⟨by decide, "java/lang/IndexOutOfBoundsException", cl_L_13, by decide⟩
      cases hz) (by decide) (by decide) cl_L_17 (by decide) (fun q => ?_)
  refine r_astore4 dL_decide_17 (Nat.le_of_ble_eq_true rfl) rfl ?_
  refine r_iconst (v := 2) dL_decide_19 (by decide) ?_
  exact r_iret dL_decide_20 rfl ⟨(Nat.le_of_ble_eq_true rfl), (Nat.le_of_ble_eq_true rfl)⟩ ⟨rfl, _, hp⟩

set_option maxRecDepth 100000 in
set_option maxHeartbeats 4000000 in
theorem WL_close {l : Launch} {G : tp_G} {h : tp_H} {x o : Nat} {a0 : Int32} {fs : List Value} {v : Int32} {P : tp_H → Prop} {f : Nat → Int64} (hl : l.stackTraces = false) (hx : h.2 x = some (.inr (5, fs))) (hM : tp_Met l G mX5_close 0 0 [.ref x, .int a0] h (tp_PS (some (.int v)) P) tp_NX) (hP : ∀ h1, P h1 → h1.2 o = some (.inl (G.2.2.1 1, 1, .inr (.inl f)))) : tp_Met l G mL_close 0 0 [.ref x, .int a0, .ref o] h (tp_PS (some (.int 0)) (fun h2 => ∃ h1, P h1 ∧ h2 = (h1.1, tp_up h1.2 o (.inl (G.2.2.1 1, 1, .inr (.inl (va_up f 0 v.toInt64))))))) tp_NX := by
  refine tp_startW (L0 := [some (.ref x), some (.int a0), some (.ref o), none]) (by decide) rfl hl (Nat.le_of_ble_eq_true rfl) rfl ?_
  refine r_aload2 dL_close_0 ?_
  refine r_iconst (v := 0) dL_close_1 (by decide) ?_
  refine r_aload0 dL_close_2 ?_
  refine r_iload1 dL_close_3 ?_
  refine r_sV1 dL_close_4 v_L_47 hM rfl hx rfl rfl rfl (Nat.le_of_ble_eq_true rfl) ⟨(Nat.le_of_ble_eq_true rfl), (Nat.le_of_ble_eq_true rfl)⟩ ⟨(Nat.le_of_ble_eq_true rfl), (Nat.le_of_ble_eq_true rfl)⟩ (fun h1 hP1 => ?_)
  refine r_i2l dL_close_7 ?_
  refine r_last dL_close_8 (hP h1 hP1) (i := 0) rfl (by decide) (by decide) ?_
  refine r_goto (tgt := 18) dL_close_9 (by decide) ?_
  refine r_iconst (v := 0) dL_close_18 (by decide) ?_
  exact r_iret dL_close_19 rfl ⟨(Nat.le_of_ble_eq_true rfl), (Nat.le_of_ble_eq_true rfl)⟩ ⟨rfl, h1, hP1, rfl⟩

set_option maxRecDepth 100000 in
set_option maxHeartbeats 4000000 in
theorem WX_close_1 {l : Launch} {G : tp_G} {h : tp_H} {x o : Nat} {a0 : Int32} {fs : List Value} {PX : String → tp_H → Prop} (hl : l.stackTraces = false) (hx : h.2 x = some (.inr (5, fs))) (hM : tp_Met l G mX5_close 1 6 [.ref x, .int a0] h (fun _ _ => False) PX) (hPX : ∀ E h1, PX E h1 → E = "java/lang/IndexOutOfBoundsException") : tp_Met l G mL_close 1 6 [.ref x, .int a0, .ref o] h (tp_PS (some (.int 1)) (fun h2 => ∃ E, PX E h2)) tp_NX := by
  refine tp_startW (L0 := [some (.ref x), some (.int a0), some (.ref o), none]) (by decide) rfl hl (Nat.le_of_ble_eq_true rfl) rfl ?_
  refine r_aload2 dL_close_0 ?_
  refine r_iconst (v := 0) dL_close_1 (by decide) ?_
  refine r_aload0 dL_close_2 ?_
  refine r_iload1 dL_close_3 ?_
  refine r_callV dL_close_4 v_L_47 hM rfl hx rfl rfl rfl (Nat.le_of_ble_eq_true rfl) ⟨(Nat.le_of_ble_eq_true rfl), (Nat.le_of_ble_eq_true rfl)⟩ ⟨(Nat.le_of_ble_eq_true rfl), (Nat.le_of_ble_eq_true rfl)⟩ (fun r h1 hP1 => hP1.elim) (fun E h1 hp => ?_)
  have e := hPX E h1 hp
  subst e
  refine r_catch (nm := "java/lang/IndexOutOfBoundsException") (pre := []) (suf := [(0, 9, 15, 17)]) (x := (0, 9, 12, 13)) rfl rfl (fun z hz => by cases hz) (by decide) (by decide) cl_L_13 (by decide) (fun q => ?_)
  refine r_astore3 dL_close_12 (Nat.le_of_ble_eq_true rfl) rfl ?_
  refine r_iconst (v := 1) dL_close_13 (by decide) ?_
  exact r_iret dL_close_14 rfl ⟨(Nat.le_of_ble_eq_true rfl), (Nat.le_of_ble_eq_true rfl)⟩ ⟨rfl, _, hp⟩

set_option maxRecDepth 100000 in
set_option maxHeartbeats 4000000 in
theorem WX_close_2 {l : Launch} {G : tp_G} {h : tp_H} {x o : Nat} {a0 : Int32} {fs : List Value} {PX : String → tp_H → Prop} (hl : l.stackTraces = false) (hx : h.2 x = some (.inr (5, fs))) (hM : tp_Met l G mX5_close 1 6 [.ref x, .int a0] h (fun _ _ => False) PX) (hPX : ∀ E h1, PX E h1 → E = "java/lang/IllegalStateException") : tp_Met l G mL_close 1 6 [.ref x, .int a0, .ref o] h (tp_PS (some (.int 2)) (fun h2 => ∃ E, PX E h2)) tp_NX := by
  refine tp_startW (L0 := [some (.ref x), some (.int a0), some (.ref o), none]) (by decide) rfl hl (Nat.le_of_ble_eq_true rfl) rfl ?_
  refine r_aload2 dL_close_0 ?_
  refine r_iconst (v := 0) dL_close_1 (by decide) ?_
  refine r_aload0 dL_close_2 ?_
  refine r_iload1 dL_close_3 ?_
  refine r_callV dL_close_4 v_L_47 hM rfl hx rfl rfl rfl (Nat.le_of_ble_eq_true rfl) ⟨(Nat.le_of_ble_eq_true rfl), (Nat.le_of_ble_eq_true rfl)⟩ ⟨(Nat.le_of_ble_eq_true rfl), (Nat.le_of_ble_eq_true rfl)⟩ (fun r h1 hP1 => hP1.elim) (fun E h1 hp => ?_)
  have e := hPX E h1 hp
  subst e
  refine r_catch (nm := "java/lang/IllegalStateException") (pre := [(0, 9, 12, 13)]) (suf := []) (x := (0, 9, 15, 17)) rfl rfl (fun z hz => by
      rcases List.mem_cons.mp hz with rfl | hz
      · exact Or.inr ⟨by decide, "java/lang/IndexOutOfBoundsException", cl_L_13, by decide⟩
      cases hz) (by decide) (by decide) cl_L_17 (by decide) (fun q => ?_)
  refine r_astore3 dL_close_15 (Nat.le_of_ble_eq_true rfl) rfl ?_
  refine r_iconst (v := 2) dL_close_16 (by decide) ?_
  exact r_iret dL_close_17 rfl ⟨(Nat.le_of_ble_eq_true rfl), (Nat.le_of_ble_eq_true rfl)⟩ ⟨rfl, _, hp⟩

set_option maxRecDepth 100000 in
set_option maxHeartbeats 4000000 in
theorem WL_pass {l : Launch} {G : tp_G} {h : tp_H} {x o : Nat} {a0 : Int32} {fs : List Value} {v : Int32} {P : tp_H → Prop} {f : Nat → Int64} (hl : l.stackTraces = false) (hx : h.2 x = some (.inr (5, fs))) (hM : tp_Met l G mX5_pass 0 0 [.ref x, .int a0] h (tp_PS (some (.int v)) P) tp_NX) (hP : ∀ h1, P h1 → h1.2 o = some (.inl (G.2.2.1 1, 1, .inr (.inl f)))) : tp_Met l G mL_pass 0 0 [.ref x, .int a0, .ref o] h (tp_PS (some (.int 0)) (fun h2 => ∃ h1, P h1 ∧ h2 = (h1.1, tp_up h1.2 o (.inl (G.2.2.1 1, 1, .inr (.inl (va_up f 0 v.toInt64))))))) tp_NX := by
  refine tp_startW (L0 := [some (.ref x), some (.int a0), some (.ref o), none]) (by decide) rfl hl (Nat.le_of_ble_eq_true rfl) rfl ?_
  refine r_aload2 dL_pass_0 ?_
  refine r_iconst (v := 0) dL_pass_1 (by decide) ?_
  refine r_aload0 dL_pass_2 ?_
  refine r_iload1 dL_pass_3 ?_
  refine r_sV1 dL_pass_4 v_L_50 hM rfl hx rfl rfl rfl (Nat.le_of_ble_eq_true rfl) ⟨(Nat.le_of_ble_eq_true rfl), (Nat.le_of_ble_eq_true rfl)⟩ ⟨(Nat.le_of_ble_eq_true rfl), (Nat.le_of_ble_eq_true rfl)⟩ (fun h1 hP1 => ?_)
  refine r_i2l dL_pass_7 ?_
  refine r_last dL_pass_8 (hP h1 hP1) (i := 0) rfl (by decide) (by decide) ?_
  refine r_goto (tgt := 18) dL_pass_9 (by decide) ?_
  refine r_iconst (v := 0) dL_pass_18 (by decide) ?_
  exact r_iret dL_pass_19 rfl ⟨(Nat.le_of_ble_eq_true rfl), (Nat.le_of_ble_eq_true rfl)⟩ ⟨rfl, h1, hP1, rfl⟩

set_option maxRecDepth 100000 in
set_option maxHeartbeats 4000000 in
theorem WX_pass_1 {l : Launch} {G : tp_G} {h : tp_H} {x o : Nat} {a0 : Int32} {fs : List Value} {PX : String → tp_H → Prop} (hl : l.stackTraces = false) (hx : h.2 x = some (.inr (5, fs))) (hM : tp_Met l G mX5_pass 1 6 [.ref x, .int a0] h (fun _ _ => False) PX) (hPX : ∀ E h1, PX E h1 → E = "java/lang/IllegalArgumentException") : tp_Met l G mL_pass 1 6 [.ref x, .int a0, .ref o] h (tp_PS (some (.int 1)) (fun h2 => ∃ E, PX E h2)) tp_NX := by
  refine tp_startW (L0 := [some (.ref x), some (.int a0), some (.ref o), none]) (by decide) rfl hl (Nat.le_of_ble_eq_true rfl) rfl ?_
  refine r_aload2 dL_pass_0 ?_
  refine r_iconst (v := 0) dL_pass_1 (by decide) ?_
  refine r_aload0 dL_pass_2 ?_
  refine r_iload1 dL_pass_3 ?_
  refine r_callV dL_pass_4 v_L_50 hM rfl hx rfl rfl rfl (Nat.le_of_ble_eq_true rfl) ⟨(Nat.le_of_ble_eq_true rfl), (Nat.le_of_ble_eq_true rfl)⟩ ⟨(Nat.le_of_ble_eq_true rfl), (Nat.le_of_ble_eq_true rfl)⟩ (fun r h1 hP1 => hP1.elim) (fun E h1 hp => ?_)
  have e := hPX E h1 hp
  subst e
  refine r_catch (nm := "java/lang/IllegalArgumentException") (pre := []) (suf := [(0, 9, 15, 17)]) (x := (0, 9, 12, 15)) rfl rfl (fun z hz => by cases hz) (by decide) (by decide) cl_L_15 (by decide) (fun q => ?_)
  refine r_astore3 dL_pass_12 (Nat.le_of_ble_eq_true rfl) rfl ?_
  refine r_iconst (v := 1) dL_pass_13 (by decide) ?_
  exact r_iret dL_pass_14 rfl ⟨(Nat.le_of_ble_eq_true rfl), (Nat.le_of_ble_eq_true rfl)⟩ ⟨rfl, _, hp⟩

set_option maxRecDepth 100000 in
set_option maxHeartbeats 4000000 in
theorem WX_pass_2 {l : Launch} {G : tp_G} {h : tp_H} {x o : Nat} {a0 : Int32} {fs : List Value} {PX : String → tp_H → Prop} (hl : l.stackTraces = false) (hx : h.2 x = some (.inr (5, fs))) (hM : tp_Met l G mX5_pass 1 6 [.ref x, .int a0] h (fun _ _ => False) PX) (hPX : ∀ E h1, PX E h1 → E = "java/lang/IllegalStateException") : tp_Met l G mL_pass 1 6 [.ref x, .int a0, .ref o] h (tp_PS (some (.int 2)) (fun h2 => ∃ E, PX E h2)) tp_NX := by
  refine tp_startW (L0 := [some (.ref x), some (.int a0), some (.ref o), none]) (by decide) rfl hl (Nat.le_of_ble_eq_true rfl) rfl ?_
  refine r_aload2 dL_pass_0 ?_
  refine r_iconst (v := 0) dL_pass_1 (by decide) ?_
  refine r_aload0 dL_pass_2 ?_
  refine r_iload1 dL_pass_3 ?_
  refine r_callV dL_pass_4 v_L_50 hM rfl hx rfl rfl rfl (Nat.le_of_ble_eq_true rfl) ⟨(Nat.le_of_ble_eq_true rfl), (Nat.le_of_ble_eq_true rfl)⟩ ⟨(Nat.le_of_ble_eq_true rfl), (Nat.le_of_ble_eq_true rfl)⟩ (fun r h1 hP1 => hP1.elim) (fun E h1 hp => ?_)
  have e := hPX E h1 hp
  subst e
  refine r_catch (nm := "java/lang/IllegalStateException") (pre := [(0, 9, 12, 15)]) (suf := []) (x := (0, 9, 15, 17)) rfl rfl (fun z hz => by
      rcases List.mem_cons.mp hz with rfl | hz
      · exact Or.inr ⟨by decide, "java/lang/IllegalArgumentException", cl_L_15, by decide⟩
      cases hz) (by decide) (by decide) cl_L_17 (by decide) (fun q => ?_)
  refine r_astore3 dL_pass_15 (Nat.le_of_ble_eq_true rfl) rfl ?_
  refine r_iconst (v := 2) dL_pass_16 (by decide) ?_
  exact r_iret dL_pass_17 rfl ⟨(Nat.le_of_ble_eq_true rfl), (Nat.le_of_ble_eq_true rfl)⟩ ⟨rfl, _, hp⟩

set_option maxRecDepth 100000 in
set_option maxHeartbeats 4000000 in
theorem WL_set {l : Launch} {G : tp_G} {h : tp_H} {x o : Nat} {a0 a1 : Int32} {fs : List Value} {v : Int32} {P : tp_H → Prop} {f : Nat → Int64} (hl : l.stackTraces = false) (hx : h.2 x = some (.inr (5, fs))) (hM : tp_Met l G mX5_set 0 0 [.ref x, .int a0, .int a1] h (tp_PS (some (.int v)) P) tp_NX) (hP : ∀ h1, P h1 → h1.2 o = some (.inl (G.2.2.1 1, 1, .inr (.inl f)))) : tp_Met l G mL_set 0 0 [.ref x, .int a0, .int a1, .ref o] h (tp_PS (some (.int 0)) (fun h2 => ∃ h1, P h1 ∧ h2 = (h1.1, tp_up h1.2 o (.inl (G.2.2.1 1, 1, .inr (.inl (va_up f 0 v.toInt64))))))) tp_NX := by
  refine tp_startW (L0 := [some (.ref x), some (.int a0), some (.int a1), some (.ref o), none]) (by decide) rfl hl (Nat.le_of_ble_eq_true rfl) rfl ?_
  refine r_aload3 dL_set_0 ?_
  refine r_iconst (v := 0) dL_set_1 (by decide) ?_
  refine r_aload0 dL_set_2 ?_
  refine r_iload1 dL_set_3 ?_
  refine r_iload2 dL_set_4 ?_
  refine r_sV1 dL_set_5 v_L_53 hM rfl hx rfl rfl rfl (Nat.le_of_ble_eq_true rfl) ⟨(Nat.le_of_ble_eq_true rfl), (Nat.le_of_ble_eq_true rfl)⟩ ⟨(Nat.le_of_ble_eq_true rfl), (Nat.le_of_ble_eq_true rfl)⟩ (fun h1 hP1 => ?_)
  refine r_i2l dL_set_8 ?_
  refine r_last dL_set_9 (hP h1 hP1) (i := 0) rfl (by decide) (by decide) ?_
  refine r_goto (tgt := 21) dL_set_10 (by decide) ?_
  refine r_iconst (v := 0) dL_set_21 (by decide) ?_
  exact r_iret dL_set_22 rfl ⟨(Nat.le_of_ble_eq_true rfl), (Nat.le_of_ble_eq_true rfl)⟩ ⟨rfl, h1, hP1, rfl⟩

set_option maxRecDepth 100000 in
set_option maxHeartbeats 4000000 in
theorem WX_set_1 {l : Launch} {G : tp_G} {h : tp_H} {x o : Nat} {a0 a1 : Int32} {fs : List Value} {PX : String → tp_H → Prop} (hl : l.stackTraces = false) (hx : h.2 x = some (.inr (5, fs))) (hM : tp_Met l G mX5_set 1 6 [.ref x, .int a0, .int a1] h (fun _ _ => False) PX) (hPX : ∀ E h1, PX E h1 → E = "java/lang/IndexOutOfBoundsException") : tp_Met l G mL_set 1 6 [.ref x, .int a0, .int a1, .ref o] h (tp_PS (some (.int 1)) (fun h2 => ∃ E, PX E h2)) tp_NX := by
  refine tp_startW (L0 := [some (.ref x), some (.int a0), some (.int a1), some (.ref o), none]) (by decide) rfl hl (Nat.le_of_ble_eq_true rfl) rfl ?_
  refine r_aload3 dL_set_0 ?_
  refine r_iconst (v := 0) dL_set_1 (by decide) ?_
  refine r_aload0 dL_set_2 ?_
  refine r_iload1 dL_set_3 ?_
  refine r_iload2 dL_set_4 ?_
  refine r_callV dL_set_5 v_L_53 hM rfl hx rfl rfl rfl (Nat.le_of_ble_eq_true rfl) ⟨(Nat.le_of_ble_eq_true rfl), (Nat.le_of_ble_eq_true rfl)⟩ ⟨(Nat.le_of_ble_eq_true rfl), (Nat.le_of_ble_eq_true rfl)⟩ (fun r h1 hP1 => hP1.elim) (fun E h1 hp => ?_)
  have e := hPX E h1 hp
  subst e
  refine r_catch (nm := "java/lang/IndexOutOfBoundsException") (pre := []) (suf := [(0, 10, 17, 15)]) (x := (0, 10, 13, 13)) rfl rfl (fun z hz => by cases hz) (by decide) (by decide) cl_L_13 (by decide) (fun q => ?_)
  refine r_astore4 dL_set_13 (Nat.le_of_ble_eq_true rfl) rfl ?_
  refine r_iconst (v := 1) dL_set_15 (by decide) ?_
  exact r_iret dL_set_16 rfl ⟨(Nat.le_of_ble_eq_true rfl), (Nat.le_of_ble_eq_true rfl)⟩ ⟨rfl, _, hp⟩

set_option maxRecDepth 100000 in
set_option maxHeartbeats 4000000 in
theorem WX_set_2 {l : Launch} {G : tp_G} {h : tp_H} {x o : Nat} {a0 a1 : Int32} {fs : List Value} {PX : String → tp_H → Prop} (hl : l.stackTraces = false) (hx : h.2 x = some (.inr (5, fs))) (hM : tp_Met l G mX5_set 1 6 [.ref x, .int a0, .int a1] h (fun _ _ => False) PX) (hPX : ∀ E h1, PX E h1 → E = "java/lang/IllegalArgumentException") : tp_Met l G mL_set 1 6 [.ref x, .int a0, .int a1, .ref o] h (tp_PS (some (.int 2)) (fun h2 => ∃ E, PX E h2)) tp_NX := by
  refine tp_startW (L0 := [some (.ref x), some (.int a0), some (.int a1), some (.ref o), none]) (by decide) rfl hl (Nat.le_of_ble_eq_true rfl) rfl ?_
  refine r_aload3 dL_set_0 ?_
  refine r_iconst (v := 0) dL_set_1 (by decide) ?_
  refine r_aload0 dL_set_2 ?_
  refine r_iload1 dL_set_3 ?_
  refine r_iload2 dL_set_4 ?_
  refine r_callV dL_set_5 v_L_53 hM rfl hx rfl rfl rfl (Nat.le_of_ble_eq_true rfl) ⟨(Nat.le_of_ble_eq_true rfl), (Nat.le_of_ble_eq_true rfl)⟩ ⟨(Nat.le_of_ble_eq_true rfl), (Nat.le_of_ble_eq_true rfl)⟩ (fun r h1 hP1 => hP1.elim) (fun E h1 hp => ?_)
  have e := hPX E h1 hp
  subst e
  refine r_catch (nm := "java/lang/IllegalArgumentException") (pre := [(0, 10, 13, 13)]) (suf := []) (x := (0, 10, 17, 15)) rfl rfl (fun z hz => by
      rcases List.mem_cons.mp hz with rfl | hz
      · exact Or.inr ⟨by decide, "java/lang/IndexOutOfBoundsException", cl_L_13, by decide⟩
      cases hz) (by decide) (by decide) cl_L_15 (by decide) (fun q => ?_)
  refine r_astore4 dL_set_17 (Nat.le_of_ble_eq_true rfl) rfl ?_
  refine r_iconst (v := 2) dL_set_19 (by decide) ?_
  exact r_iret dL_set_20 rfl ⟨(Nat.le_of_ble_eq_true rfl), (Nat.le_of_ble_eq_true rfl)⟩ ⟨rfl, _, hp⟩

set_option maxRecDepth 100000 in
set_option maxHeartbeats 4000000 in
theorem WL_append {l : Launch} {G : tp_G} {h : tp_H} {x o : Nat} {a0 : Int32} {fs : List Value} {v : Int32} {P : tp_H → Prop} {f : Nat → Int64} (hl : l.stackTraces = false) (hx : h.2 x = some (.inr (5, fs))) (hM : tp_Met l G mX5_append 0 0 [.ref x, .int a0] h (tp_PS (some (.int v)) P) tp_NX) (hP : ∀ h1, P h1 → h1.2 o = some (.inl (G.2.2.1 1, 1, .inr (.inl f)))) : tp_Met l G mL_append 0 0 [.ref x, .int a0, .ref o] h (tp_PS (some (.int 0)) (fun h2 => ∃ h1, P h1 ∧ h2 = (h1.1, tp_up h1.2 o (.inl (G.2.2.1 1, 1, .inr (.inl (va_up f 0 v.toInt64))))))) tp_NX := by
  refine tp_startW (L0 := [some (.ref x), some (.int a0), some (.ref o), none]) (by decide) rfl hl (Nat.le_of_ble_eq_true rfl) rfl ?_
  refine r_aload2 dL_append_0 ?_
  refine r_iconst (v := 0) dL_append_1 (by decide) ?_
  refine r_aload0 dL_append_2 ?_
  refine r_iload1 dL_append_3 ?_
  refine r_sV1 dL_append_4 v_L_56 hM rfl hx rfl rfl rfl (Nat.le_of_ble_eq_true rfl) ⟨(Nat.le_of_ble_eq_true rfl), (Nat.le_of_ble_eq_true rfl)⟩ ⟨(Nat.le_of_ble_eq_true rfl), (Nat.le_of_ble_eq_true rfl)⟩ (fun h1 hP1 => ?_)
  refine r_i2l dL_append_7 ?_
  refine r_last dL_append_8 (hP h1 hP1) (i := 0) rfl (by decide) (by decide) ?_
  refine r_goto (tgt := 18) dL_append_9 (by decide) ?_
  refine r_iconst (v := 0) dL_append_18 (by decide) ?_
  exact r_iret dL_append_19 rfl ⟨(Nat.le_of_ble_eq_true rfl), (Nat.le_of_ble_eq_true rfl)⟩ ⟨rfl, h1, hP1, rfl⟩

set_option maxRecDepth 100000 in
set_option maxHeartbeats 4000000 in
theorem WX_append_1 {l : Launch} {G : tp_G} {h : tp_H} {x o : Nat} {a0 : Int32} {fs : List Value} {PX : String → tp_H → Prop} (hl : l.stackTraces = false) (hx : h.2 x = some (.inr (5, fs))) (hM : tp_Met l G mX5_append 1 6 [.ref x, .int a0] h (fun _ _ => False) PX) (hPX : ∀ E h1, PX E h1 → E = "java/lang/IllegalArgumentException") : tp_Met l G mL_append 1 6 [.ref x, .int a0, .ref o] h (tp_PS (some (.int 1)) (fun h2 => ∃ E, PX E h2)) tp_NX := by
  refine tp_startW (L0 := [some (.ref x), some (.int a0), some (.ref o), none]) (by decide) rfl hl (Nat.le_of_ble_eq_true rfl) rfl ?_
  refine r_aload2 dL_append_0 ?_
  refine r_iconst (v := 0) dL_append_1 (by decide) ?_
  refine r_aload0 dL_append_2 ?_
  refine r_iload1 dL_append_3 ?_
  refine r_callV dL_append_4 v_L_56 hM rfl hx rfl rfl rfl (Nat.le_of_ble_eq_true rfl) ⟨(Nat.le_of_ble_eq_true rfl), (Nat.le_of_ble_eq_true rfl)⟩ ⟨(Nat.le_of_ble_eq_true rfl), (Nat.le_of_ble_eq_true rfl)⟩ (fun r h1 hP1 => hP1.elim) (fun E h1 hp => ?_)
  have e := hPX E h1 hp
  subst e
  refine r_catch (nm := "java/lang/IllegalArgumentException") (pre := []) (suf := [(0, 9, 15, 17)]) (x := (0, 9, 12, 15)) rfl rfl (fun z hz => by cases hz) (by decide) (by decide) cl_L_15 (by decide) (fun q => ?_)
  refine r_astore3 dL_append_12 (Nat.le_of_ble_eq_true rfl) rfl ?_
  refine r_iconst (v := 1) dL_append_13 (by decide) ?_
  exact r_iret dL_append_14 rfl ⟨(Nat.le_of_ble_eq_true rfl), (Nat.le_of_ble_eq_true rfl)⟩ ⟨rfl, _, hp⟩

set_option maxRecDepth 100000 in
set_option maxHeartbeats 4000000 in
theorem WX_append_2 {l : Launch} {G : tp_G} {h : tp_H} {x o : Nat} {a0 : Int32} {fs : List Value} {PX : String → tp_H → Prop} (hl : l.stackTraces = false) (hx : h.2 x = some (.inr (5, fs))) (hM : tp_Met l G mX5_append 1 6 [.ref x, .int a0] h (fun _ _ => False) PX) (hPX : ∀ E h1, PX E h1 → E = "java/lang/IllegalStateException") : tp_Met l G mL_append 1 6 [.ref x, .int a0, .ref o] h (tp_PS (some (.int 2)) (fun h2 => ∃ E, PX E h2)) tp_NX := by
  refine tp_startW (L0 := [some (.ref x), some (.int a0), some (.ref o), none]) (by decide) rfl hl (Nat.le_of_ble_eq_true rfl) rfl ?_
  refine r_aload2 dL_append_0 ?_
  refine r_iconst (v := 0) dL_append_1 (by decide) ?_
  refine r_aload0 dL_append_2 ?_
  refine r_iload1 dL_append_3 ?_
  refine r_callV dL_append_4 v_L_56 hM rfl hx rfl rfl rfl (Nat.le_of_ble_eq_true rfl) ⟨(Nat.le_of_ble_eq_true rfl), (Nat.le_of_ble_eq_true rfl)⟩ ⟨(Nat.le_of_ble_eq_true rfl), (Nat.le_of_ble_eq_true rfl)⟩ (fun r h1 hP1 => hP1.elim) (fun E h1 hp => ?_)
  have e := hPX E h1 hp
  subst e
  refine r_catch (nm := "java/lang/IllegalStateException") (pre := [(0, 9, 12, 15)]) (suf := []) (x := (0, 9, 15, 17)) rfl rfl (fun z hz => by
      rcases List.mem_cons.mp hz with rfl | hz
      · exact Or.inr ⟨by decide, "java/lang/IllegalArgumentException", cl_L_15, by decide⟩
      cases hz) (by decide) (by decide) cl_L_17 (by decide) (fun q => ?_)
  refine r_astore3 dL_append_15 (Nat.le_of_ble_eq_true rfl) rfl ?_
  refine r_iconst (v := 2) dL_append_16 (by decide) ?_
  exact r_iret dL_append_17 rfl ⟨(Nat.le_of_ble_eq_true rfl), (Nat.le_of_ble_eq_true rfl)⟩ ⟨rfl, _, hp⟩

set_option maxRecDepth 100000 in
set_option maxHeartbeats 4000000 in
theorem WL_run {l : Launch} {G : tp_G} {h : tp_H} {x o : Nat} {fs : List Value} {v : Int32} {P : tp_H → Prop} {f : Nat → Int64} (hl : l.stackTraces = false) (hx : h.2 x = some (.inr (5, fs))) (hM : tp_Met l G mX5_run 0 0 [.ref x] h (tp_PS (some (.int v)) P) tp_NX) (hP : ∀ h1, P h1 → h1.2 o = some (.inl (G.2.2.1 1, 1, .inr (.inl f)))) : tp_Met l G mL_run 0 0 [.ref x, .ref o] h (tp_PS (some (.int 0)) (fun h2 => ∃ h1, P h1 ∧ h2 = (h1.1, tp_up h1.2 o (.inl (G.2.2.1 1, 1, .inr (.inl (va_up f 0 v.toInt64))))))) tp_NX := by
  refine tp_startW (L0 := [some (.ref x), some (.ref o), none]) (by decide) rfl hl (Nat.le_of_ble_eq_true rfl) rfl ?_
  refine r_aload1 dL_run_0 ?_
  refine r_iconst (v := 0) dL_run_1 (by decide) ?_
  refine r_aload0 dL_run_2 ?_
  refine r_sV1 dL_run_3 v_L_59 hM rfl hx rfl rfl rfl (Nat.le_of_ble_eq_true rfl) ⟨(Nat.le_of_ble_eq_true rfl), (Nat.le_of_ble_eq_true rfl)⟩ ⟨(Nat.le_of_ble_eq_true rfl), (Nat.le_of_ble_eq_true rfl)⟩ (fun h1 hP1 => ?_)
  refine r_i2l dL_run_6 ?_
  refine r_last dL_run_7 (hP h1 hP1) (i := 0) rfl (by decide) (by decide) ?_
  refine r_goto (tgt := 14) dL_run_8 (by decide) ?_
  refine r_iconst (v := 0) dL_run_14 (by decide) ?_
  exact r_iret dL_run_15 rfl ⟨(Nat.le_of_ble_eq_true rfl), (Nat.le_of_ble_eq_true rfl)⟩ ⟨rfl, h1, hP1, rfl⟩

set_option maxRecDepth 100000 in
set_option maxHeartbeats 4000000 in
theorem WX_run_1 {l : Launch} {G : tp_G} {h : tp_H} {x o : Nat} {fs : List Value} {PX : String → tp_H → Prop} (hl : l.stackTraces = false) (hx : h.2 x = some (.inr (5, fs))) (hM : tp_Met l G mX5_run 1 6 [.ref x] h (fun _ _ => False) PX) (hPX : ∀ E h1, PX E h1 → E = "java/lang/IllegalArgumentException") : tp_Met l G mL_run 1 6 [.ref x, .ref o] h (tp_PS (some (.int 1)) (fun h2 => ∃ E, PX E h2)) tp_NX := by
  refine tp_startW (L0 := [some (.ref x), some (.ref o), none]) (by decide) rfl hl (Nat.le_of_ble_eq_true rfl) rfl ?_
  refine r_aload1 dL_run_0 ?_
  refine r_iconst (v := 0) dL_run_1 (by decide) ?_
  refine r_aload0 dL_run_2 ?_
  refine r_callV dL_run_3 v_L_59 hM rfl hx rfl rfl rfl (Nat.le_of_ble_eq_true rfl) ⟨(Nat.le_of_ble_eq_true rfl), (Nat.le_of_ble_eq_true rfl)⟩ ⟨(Nat.le_of_ble_eq_true rfl), (Nat.le_of_ble_eq_true rfl)⟩ (fun r h1 hP1 => hP1.elim) (fun E h1 hp => ?_)
  have e := hPX E h1 hp
  subst e
  refine r_catch (nm := "java/lang/IllegalArgumentException") (pre := []) (suf := []) (x := (0, 8, 11, 15)) rfl rfl (fun z hz => by cases hz) (by decide) (by decide) cl_L_15 (by decide) (fun q => ?_)
  refine r_astore2 dL_run_11 (Nat.le_of_ble_eq_true rfl) rfl ?_
  refine r_iconst (v := 1) dL_run_12 (by decide) ?_
  exact r_iret dL_run_13 rfl ⟨(Nat.le_of_ble_eq_true rfl), (Nat.le_of_ble_eq_true rfl)⟩ ⟨rfl, _, hp⟩

set_option maxRecDepth 100000 in
set_option maxHeartbeats 4000000 in
theorem WL_undo {l : Launch} {G : tp_G} {h : tp_H} {x o : Nat} {fs : List Value} {v : Int32} {P : tp_H → Prop} {f : Nat → Int64} (hl : l.stackTraces = false) (hx : h.2 x = some (.inr (5, fs))) (hM : tp_Met l G mX5_undo 0 0 [.ref x] h (tp_PS (some (.int v)) P) tp_NX) (hP : ∀ h1, P h1 → h1.2 o = some (.inl (G.2.2.1 1, 1, .inr (.inl f)))) : tp_Met l G mL_undo 0 0 [.ref x, .ref o] h (tp_PS (some (.int 0)) (fun h2 => ∃ h1, P h1 ∧ h2 = (h1.1, tp_up h1.2 o (.inl (G.2.2.1 1, 1, .inr (.inl (va_up f 0 v.toInt64))))))) tp_NX := by
  refine tp_startW (L0 := [some (.ref x), some (.ref o), none]) (by decide) rfl hl (Nat.le_of_ble_eq_true rfl) rfl ?_
  refine r_aload1 dL_undo_0 ?_
  refine r_iconst (v := 0) dL_undo_1 (by decide) ?_
  refine r_aload0 dL_undo_2 ?_
  refine r_sV1 dL_undo_3 v_L_63 hM rfl hx rfl rfl rfl (Nat.le_of_ble_eq_true rfl) ⟨(Nat.le_of_ble_eq_true rfl), (Nat.le_of_ble_eq_true rfl)⟩ ⟨(Nat.le_of_ble_eq_true rfl), (Nat.le_of_ble_eq_true rfl)⟩ (fun h1 hP1 => ?_)
  refine r_i2l dL_undo_6 ?_
  refine r_last dL_undo_7 (hP h1 hP1) (i := 0) rfl (by decide) (by decide) ?_
  refine r_goto (tgt := 14) dL_undo_8 (by decide) ?_
  refine r_iconst (v := 0) dL_undo_14 (by decide) ?_
  exact r_iret dL_undo_15 rfl ⟨(Nat.le_of_ble_eq_true rfl), (Nat.le_of_ble_eq_true rfl)⟩ ⟨rfl, h1, hP1, rfl⟩

set_option maxRecDepth 100000 in
set_option maxHeartbeats 4000000 in
theorem WX_undo_1 {l : Launch} {G : tp_G} {h : tp_H} {x o : Nat} {fs : List Value} {PX : String → tp_H → Prop} (hl : l.stackTraces = false) (hx : h.2 x = some (.inr (5, fs))) (hM : tp_Met l G mX5_undo 1 6 [.ref x] h (fun _ _ => False) PX) (hPX : ∀ E h1, PX E h1 → E = "java/lang/IllegalStateException") : tp_Met l G mL_undo 1 6 [.ref x, .ref o] h (tp_PS (some (.int 1)) (fun h2 => ∃ E, PX E h2)) tp_NX := by
  refine tp_startW (L0 := [some (.ref x), some (.ref o), none]) (by decide) rfl hl (Nat.le_of_ble_eq_true rfl) rfl ?_
  refine r_aload1 dL_undo_0 ?_
  refine r_iconst (v := 0) dL_undo_1 (by decide) ?_
  refine r_aload0 dL_undo_2 ?_
  refine r_callV dL_undo_3 v_L_63 hM rfl hx rfl rfl rfl (Nat.le_of_ble_eq_true rfl) ⟨(Nat.le_of_ble_eq_true rfl), (Nat.le_of_ble_eq_true rfl)⟩ ⟨(Nat.le_of_ble_eq_true rfl), (Nat.le_of_ble_eq_true rfl)⟩ (fun r h1 hP1 => hP1.elim) (fun E h1 hp => ?_)
  have e := hPX E h1 hp
  subst e
  refine r_catch (nm := "java/lang/IllegalStateException") (pre := []) (suf := []) (x := (0, 8, 11, 17)) rfl rfl (fun z hz => by cases hz) (by decide) (by decide) cl_L_17 (by decide) (fun q => ?_)
  refine r_astore2 dL_undo_11 (Nat.le_of_ble_eq_true rfl) rfl ?_
  refine r_iconst (v := 1) dL_undo_12 (by decide) ?_
  exact r_iret dL_undo_13 rfl ⟨(Nat.le_of_ble_eq_true rfl), (Nat.le_of_ble_eq_true rfl)⟩ ⟨rfl, _, hp⟩

set_option maxRecDepth 100000 in
set_option maxHeartbeats 4000000 in
theorem WL_purse {l : Launch} {G : tp_G} {h : tp_H} {x o : Nat} {a0 a1 a2 : Int32} {fs : List Value} {v : Int32} {P : tp_H → Prop} {f : Nat → Int64} (hl : l.stackTraces = false) (hx : h.2 x = some (.inr (5, fs))) (hM : tp_Met l G mX5_purse 0 0 [.ref x, .int a0, .int a1, .int a2] h (tp_PS (some (.int v)) P) tp_NX) (hP : ∀ h1, P h1 → h1.2 o = some (.inl (G.2.2.1 1, 1, .inr (.inl f)))) : tp_Met l G mL_purse 0 0 [.ref x, .int a0, .int a1, .int a2, .ref o] h (tp_PS (some (.int 0)) (fun h2 => ∃ h1, P h1 ∧ h2 = (h1.1, tp_up h1.2 o (.inl (G.2.2.1 1, 1, .inr (.inl (va_up f 0 v.toInt64))))))) tp_NX := by
  refine tp_startW (L0 := [some (.ref x), some (.int a0), some (.int a1), some (.int a2), some (.ref o), none]) (by decide) rfl hl (Nat.le_of_ble_eq_true rfl) rfl ?_
  refine r_aload4 dL_purse_0 ?_
  refine r_iconst (v := 0) dL_purse_2 (by decide) ?_
  refine r_aload0 dL_purse_3 ?_
  refine r_iload1 dL_purse_4 ?_
  refine r_iload2 dL_purse_5 ?_
  refine r_iload3 dL_purse_6 ?_
  refine r_sV1 dL_purse_7 v_L_66 hM rfl hx rfl rfl rfl (Nat.le_of_ble_eq_true rfl) ⟨(Nat.le_of_ble_eq_true rfl), (Nat.le_of_ble_eq_true rfl)⟩ ⟨(Nat.le_of_ble_eq_true rfl), (Nat.le_of_ble_eq_true rfl)⟩ (fun h1 hP1 => ?_)
  refine r_i2l dL_purse_10 ?_
  refine r_last dL_purse_11 (hP h1 hP1) (i := 0) rfl (by decide) (by decide) ?_
  refine r_goto (tgt := 23) dL_purse_12 (by decide) ?_
  refine r_iconst (v := 0) dL_purse_23 (by decide) ?_
  exact r_iret dL_purse_24 rfl ⟨(Nat.le_of_ble_eq_true rfl), (Nat.le_of_ble_eq_true rfl)⟩ ⟨rfl, h1, hP1, rfl⟩

set_option maxRecDepth 100000 in
set_option maxHeartbeats 4000000 in
theorem WX_purse_1 {l : Launch} {G : tp_G} {h : tp_H} {x o : Nat} {a0 a1 a2 : Int32} {fs : List Value} {PX : String → tp_H → Prop} (hl : l.stackTraces = false) (hx : h.2 x = some (.inr (5, fs))) (hM : tp_Met l G mX5_purse 1 6 [.ref x, .int a0, .int a1, .int a2] h (fun _ _ => False) PX) (hPX : ∀ E h1, PX E h1 → E = "java/lang/IndexOutOfBoundsException") : tp_Met l G mL_purse 1 6 [.ref x, .int a0, .int a1, .int a2, .ref o] h (tp_PS (some (.int 1)) (fun h2 => ∃ E, PX E h2)) tp_NX := by
  refine tp_startW (L0 := [some (.ref x), some (.int a0), some (.int a1), some (.int a2), some (.ref o), none]) (by decide) rfl hl (Nat.le_of_ble_eq_true rfl) rfl ?_
  refine r_aload4 dL_purse_0 ?_
  refine r_iconst (v := 0) dL_purse_2 (by decide) ?_
  refine r_aload0 dL_purse_3 ?_
  refine r_iload1 dL_purse_4 ?_
  refine r_iload2 dL_purse_5 ?_
  refine r_iload3 dL_purse_6 ?_
  refine r_callV dL_purse_7 v_L_66 hM rfl hx rfl rfl rfl (Nat.le_of_ble_eq_true rfl) ⟨(Nat.le_of_ble_eq_true rfl), (Nat.le_of_ble_eq_true rfl)⟩ ⟨(Nat.le_of_ble_eq_true rfl), (Nat.le_of_ble_eq_true rfl)⟩ (fun r h1 hP1 => hP1.elim) (fun E h1 hp => ?_)
  have e := hPX E h1 hp
  subst e
  refine r_catch (nm := "java/lang/IndexOutOfBoundsException") (pre := []) (suf := [(0, 12, 19, 15)]) (x := (0, 12, 15, 13)) rfl rfl (fun z hz => by cases hz) (by decide) (by decide) cl_L_13 (by decide) (fun q => ?_)
  refine r_astore5 dL_purse_15 (Nat.le_of_ble_eq_true rfl) rfl ?_
  refine r_iconst (v := 1) dL_purse_17 (by decide) ?_
  exact r_iret dL_purse_18 rfl ⟨(Nat.le_of_ble_eq_true rfl), (Nat.le_of_ble_eq_true rfl)⟩ ⟨rfl, _, hp⟩

set_option maxRecDepth 100000 in
set_option maxHeartbeats 4000000 in
theorem WX_purse_2 {l : Launch} {G : tp_G} {h : tp_H} {x o : Nat} {a0 a1 a2 : Int32} {fs : List Value} {PX : String → tp_H → Prop} (hl : l.stackTraces = false) (hx : h.2 x = some (.inr (5, fs))) (hM : tp_Met l G mX5_purse 1 6 [.ref x, .int a0, .int a1, .int a2] h (fun _ _ => False) PX) (hPX : ∀ E h1, PX E h1 → E = "java/lang/IllegalArgumentException") : tp_Met l G mL_purse 1 6 [.ref x, .int a0, .int a1, .int a2, .ref o] h (tp_PS (some (.int 2)) (fun h2 => ∃ E, PX E h2)) tp_NX := by
  refine tp_startW (L0 := [some (.ref x), some (.int a0), some (.int a1), some (.int a2), some (.ref o), none]) (by decide) rfl hl (Nat.le_of_ble_eq_true rfl) rfl ?_
  refine r_aload4 dL_purse_0 ?_
  refine r_iconst (v := 0) dL_purse_2 (by decide) ?_
  refine r_aload0 dL_purse_3 ?_
  refine r_iload1 dL_purse_4 ?_
  refine r_iload2 dL_purse_5 ?_
  refine r_iload3 dL_purse_6 ?_
  refine r_callV dL_purse_7 v_L_66 hM rfl hx rfl rfl rfl (Nat.le_of_ble_eq_true rfl) ⟨(Nat.le_of_ble_eq_true rfl), (Nat.le_of_ble_eq_true rfl)⟩ ⟨(Nat.le_of_ble_eq_true rfl), (Nat.le_of_ble_eq_true rfl)⟩ (fun r h1 hP1 => hP1.elim) (fun E h1 hp => ?_)
  have e := hPX E h1 hp
  subst e
  refine r_catch (nm := "java/lang/IllegalArgumentException") (pre := [(0, 12, 15, 13)]) (suf := []) (x := (0, 12, 19, 15)) rfl rfl (fun z hz => by
      rcases List.mem_cons.mp hz with rfl | hz
      · exact Or.inr ⟨by decide, "java/lang/IndexOutOfBoundsException", cl_L_13, by decide⟩
      cases hz) (by decide) (by decide) cl_L_15 (by decide) (fun q => ?_)
  refine r_astore5 dL_purse_19 (Nat.le_of_ble_eq_true rfl) rfl ?_
  refine r_iconst (v := 2) dL_purse_21 (by decide) ?_
  exact r_iret dL_purse_22 rfl ⟨(Nat.le_of_ble_eq_true rfl), (Nat.le_of_ble_eq_true rfl)⟩ ⟨rfl, _, hp⟩

set_option maxRecDepth 100000 in
set_option maxHeartbeats 4000000 in
theorem WL_held {l : Launch} {G : tp_G} {h : tp_H} {x o : Nat} {a0 a1 : Int32} {fs : List Value} {v : Int32} {P : tp_H → Prop} {f : Nat → Int64} (hl : l.stackTraces = false) (hx : h.2 x = some (.inr (5, fs))) (hM : tp_Met l G mX5_held 0 0 [.ref x, .int a0, .int a1] h (tp_PS (some (.int v)) P) tp_NX) (hP : ∀ h1, P h1 → h1.2 o = some (.inl (G.2.2.1 1, 1, .inr (.inl f)))) : tp_Met l G mL_held 0 0 [.ref x, .int a0, .int a1, .ref o] h (tp_PS (some (.int 0)) (fun h2 => ∃ h1, P h1 ∧ h2 = (h1.1, tp_up h1.2 o (.inl (G.2.2.1 1, 1, .inr (.inl (va_up f 0 v.toInt64))))))) tp_NX := by
  refine tp_startW (L0 := [some (.ref x), some (.int a0), some (.int a1), some (.ref o), none]) (by decide) rfl hl (Nat.le_of_ble_eq_true rfl) rfl ?_
  refine r_aload3 dL_held_0 ?_
  refine r_iconst (v := 0) dL_held_1 (by decide) ?_
  refine r_aload0 dL_held_2 ?_
  refine r_iload1 dL_held_3 ?_
  refine r_iload2 dL_held_4 ?_
  refine r_sV1 dL_held_5 v_L_69 hM rfl hx rfl rfl rfl (Nat.le_of_ble_eq_true rfl) ⟨(Nat.le_of_ble_eq_true rfl), (Nat.le_of_ble_eq_true rfl)⟩ ⟨(Nat.le_of_ble_eq_true rfl), (Nat.le_of_ble_eq_true rfl)⟩ (fun h1 hP1 => ?_)
  refine r_i2l dL_held_8 ?_
  refine r_last dL_held_9 (hP h1 hP1) (i := 0) rfl (by decide) (by decide) ?_
  refine r_goto (tgt := 21) dL_held_10 (by decide) ?_
  refine r_iconst (v := 0) dL_held_21 (by decide) ?_
  exact r_iret dL_held_22 rfl ⟨(Nat.le_of_ble_eq_true rfl), (Nat.le_of_ble_eq_true rfl)⟩ ⟨rfl, h1, hP1, rfl⟩

set_option maxRecDepth 100000 in
set_option maxHeartbeats 4000000 in
theorem WX_held_1 {l : Launch} {G : tp_G} {h : tp_H} {x o : Nat} {a0 a1 : Int32} {fs : List Value} {PX : String → tp_H → Prop} (hl : l.stackTraces = false) (hx : h.2 x = some (.inr (5, fs))) (hM : tp_Met l G mX5_held 1 6 [.ref x, .int a0, .int a1] h (fun _ _ => False) PX) (hPX : ∀ E h1, PX E h1 → E = "java/lang/IndexOutOfBoundsException") : tp_Met l G mL_held 1 6 [.ref x, .int a0, .int a1, .ref o] h (tp_PS (some (.int 1)) (fun h2 => ∃ E, PX E h2)) tp_NX := by
  refine tp_startW (L0 := [some (.ref x), some (.int a0), some (.int a1), some (.ref o), none]) (by decide) rfl hl (Nat.le_of_ble_eq_true rfl) rfl ?_
  refine r_aload3 dL_held_0 ?_
  refine r_iconst (v := 0) dL_held_1 (by decide) ?_
  refine r_aload0 dL_held_2 ?_
  refine r_iload1 dL_held_3 ?_
  refine r_iload2 dL_held_4 ?_
  refine r_callV dL_held_5 v_L_69 hM rfl hx rfl rfl rfl (Nat.le_of_ble_eq_true rfl) ⟨(Nat.le_of_ble_eq_true rfl), (Nat.le_of_ble_eq_true rfl)⟩ ⟨(Nat.le_of_ble_eq_true rfl), (Nat.le_of_ble_eq_true rfl)⟩ (fun r h1 hP1 => hP1.elim) (fun E h1 hp => ?_)
  have e := hPX E h1 hp
  subst e
  refine r_catch (nm := "java/lang/IndexOutOfBoundsException") (pre := []) (suf := [(0, 10, 17, 15)]) (x := (0, 10, 13, 13)) rfl rfl (fun z hz => by cases hz) (by decide) (by decide) cl_L_13 (by decide) (fun q => ?_)
  refine r_astore4 dL_held_13 (Nat.le_of_ble_eq_true rfl) rfl ?_
  refine r_iconst (v := 1) dL_held_15 (by decide) ?_
  exact r_iret dL_held_16 rfl ⟨(Nat.le_of_ble_eq_true rfl), (Nat.le_of_ble_eq_true rfl)⟩ ⟨rfl, _, hp⟩

set_option maxRecDepth 100000 in
set_option maxHeartbeats 4000000 in
theorem WX_held_2 {l : Launch} {G : tp_G} {h : tp_H} {x o : Nat} {a0 a1 : Int32} {fs : List Value} {PX : String → tp_H → Prop} (hl : l.stackTraces = false) (hx : h.2 x = some (.inr (5, fs))) (hM : tp_Met l G mX5_held 1 6 [.ref x, .int a0, .int a1] h (fun _ _ => False) PX) (hPX : ∀ E h1, PX E h1 → E = "java/lang/IllegalArgumentException") : tp_Met l G mL_held 1 6 [.ref x, .int a0, .int a1, .ref o] h (tp_PS (some (.int 2)) (fun h2 => ∃ E, PX E h2)) tp_NX := by
  refine tp_startW (L0 := [some (.ref x), some (.int a0), some (.int a1), some (.ref o), none]) (by decide) rfl hl (Nat.le_of_ble_eq_true rfl) rfl ?_
  refine r_aload3 dL_held_0 ?_
  refine r_iconst (v := 0) dL_held_1 (by decide) ?_
  refine r_aload0 dL_held_2 ?_
  refine r_iload1 dL_held_3 ?_
  refine r_iload2 dL_held_4 ?_
  refine r_callV dL_held_5 v_L_69 hM rfl hx rfl rfl rfl (Nat.le_of_ble_eq_true rfl) ⟨(Nat.le_of_ble_eq_true rfl), (Nat.le_of_ble_eq_true rfl)⟩ ⟨(Nat.le_of_ble_eq_true rfl), (Nat.le_of_ble_eq_true rfl)⟩ (fun r h1 hP1 => hP1.elim) (fun E h1 hp => ?_)
  have e := hPX E h1 hp
  subst e
  refine r_catch (nm := "java/lang/IllegalArgumentException") (pre := [(0, 10, 13, 13)]) (suf := []) (x := (0, 10, 17, 15)) rfl rfl (fun z hz => by
      rcases List.mem_cons.mp hz with rfl | hz
      · exact Or.inr ⟨by decide, "java/lang/IndexOutOfBoundsException", cl_L_13, by decide⟩
      cases hz) (by decide) (by decide) cl_L_15 (by decide) (fun q => ?_)
  refine r_astore4 dL_held_17 (Nat.le_of_ble_eq_true rfl) rfl ?_
  refine r_iconst (v := 2) dL_held_19 (by decide) ?_
  exact r_iret dL_held_20 rfl ⟨(Nat.le_of_ble_eq_true rfl), (Nat.le_of_ble_eq_true rfl)⟩ ⟨rfl, _, hp⟩

set_option maxRecDepth 100000 in
set_option maxHeartbeats 4000000 in
theorem WL_payment {l : Launch} {G : tp_G} {h : tp_H} {x o : Nat} {a0 a1 : Int32} {fs : List Value} {v : Int32} {P : tp_H → Prop} {f : Nat → Int64} (hl : l.stackTraces = false) (hx : h.2 x = some (.inr (5, fs))) (hM : tp_Met l G mX5_payment 0 0 [.ref x, .int a0, .int a1] h (tp_PS (some (.int v)) P) tp_NX) (hP : ∀ h1, P h1 → h1.2 o = some (.inl (G.2.2.1 1, 1, .inr (.inl f)))) : tp_Met l G mL_payment 0 0 [.ref x, .int a0, .int a1, .ref o] h (tp_PS (some (.int 0)) (fun h2 => ∃ h1, P h1 ∧ h2 = (h1.1, tp_up h1.2 o (.inl (G.2.2.1 1, 1, .inr (.inl (va_up f 0 v.toInt64))))))) tp_NX := by
  refine tp_startW (L0 := [some (.ref x), some (.int a0), some (.int a1), some (.ref o), none]) (by decide) rfl hl (Nat.le_of_ble_eq_true rfl) rfl ?_
  refine r_aload3 dL_payment_0 ?_
  refine r_iconst (v := 0) dL_payment_1 (by decide) ?_
  refine r_aload0 dL_payment_2 ?_
  refine r_iload1 dL_payment_3 ?_
  refine r_iload2 dL_payment_4 ?_
  refine r_sV1 dL_payment_5 v_L_72 hM rfl hx rfl rfl rfl (Nat.le_of_ble_eq_true rfl) ⟨(Nat.le_of_ble_eq_true rfl), (Nat.le_of_ble_eq_true rfl)⟩ ⟨(Nat.le_of_ble_eq_true rfl), (Nat.le_of_ble_eq_true rfl)⟩ (fun h1 hP1 => ?_)
  refine r_i2l dL_payment_8 ?_
  refine r_last dL_payment_9 (hP h1 hP1) (i := 0) rfl (by decide) (by decide) ?_
  refine r_goto (tgt := 21) dL_payment_10 (by decide) ?_
  refine r_iconst (v := 0) dL_payment_21 (by decide) ?_
  exact r_iret dL_payment_22 rfl ⟨(Nat.le_of_ble_eq_true rfl), (Nat.le_of_ble_eq_true rfl)⟩ ⟨rfl, h1, hP1, rfl⟩

set_option maxRecDepth 100000 in
set_option maxHeartbeats 4000000 in
theorem WX_payment_1 {l : Launch} {G : tp_G} {h : tp_H} {x o : Nat} {a0 a1 : Int32} {fs : List Value} {PX : String → tp_H → Prop} (hl : l.stackTraces = false) (hx : h.2 x = some (.inr (5, fs))) (hM : tp_Met l G mX5_payment 1 6 [.ref x, .int a0, .int a1] h (fun _ _ => False) PX) (hPX : ∀ E h1, PX E h1 → E = "java/lang/IndexOutOfBoundsException") : tp_Met l G mL_payment 1 6 [.ref x, .int a0, .int a1, .ref o] h (tp_PS (some (.int 1)) (fun h2 => ∃ E, PX E h2)) tp_NX := by
  refine tp_startW (L0 := [some (.ref x), some (.int a0), some (.int a1), some (.ref o), none]) (by decide) rfl hl (Nat.le_of_ble_eq_true rfl) rfl ?_
  refine r_aload3 dL_payment_0 ?_
  refine r_iconst (v := 0) dL_payment_1 (by decide) ?_
  refine r_aload0 dL_payment_2 ?_
  refine r_iload1 dL_payment_3 ?_
  refine r_iload2 dL_payment_4 ?_
  refine r_callV dL_payment_5 v_L_72 hM rfl hx rfl rfl rfl (Nat.le_of_ble_eq_true rfl) ⟨(Nat.le_of_ble_eq_true rfl), (Nat.le_of_ble_eq_true rfl)⟩ ⟨(Nat.le_of_ble_eq_true rfl), (Nat.le_of_ble_eq_true rfl)⟩ (fun r h1 hP1 => hP1.elim) (fun E h1 hp => ?_)
  have e := hPX E h1 hp
  subst e
  refine r_catch (nm := "java/lang/IndexOutOfBoundsException") (pre := []) (suf := [(0, 10, 17, 15)]) (x := (0, 10, 13, 13)) rfl rfl (fun z hz => by cases hz) (by decide) (by decide) cl_L_13 (by decide) (fun q => ?_)
  refine r_astore4 dL_payment_13 (Nat.le_of_ble_eq_true rfl) rfl ?_
  refine r_iconst (v := 1) dL_payment_15 (by decide) ?_
  exact r_iret dL_payment_16 rfl ⟨(Nat.le_of_ble_eq_true rfl), (Nat.le_of_ble_eq_true rfl)⟩ ⟨rfl, _, hp⟩

set_option maxRecDepth 100000 in
set_option maxHeartbeats 4000000 in
theorem WX_payment_2 {l : Launch} {G : tp_G} {h : tp_H} {x o : Nat} {a0 a1 : Int32} {fs : List Value} {PX : String → tp_H → Prop} (hl : l.stackTraces = false) (hx : h.2 x = some (.inr (5, fs))) (hM : tp_Met l G mX5_payment 1 6 [.ref x, .int a0, .int a1] h (fun _ _ => False) PX) (hPX : ∀ E h1, PX E h1 → E = "java/lang/IllegalArgumentException") : tp_Met l G mL_payment 1 6 [.ref x, .int a0, .int a1, .ref o] h (tp_PS (some (.int 2)) (fun h2 => ∃ E, PX E h2)) tp_NX := by
  refine tp_startW (L0 := [some (.ref x), some (.int a0), some (.int a1), some (.ref o), none]) (by decide) rfl hl (Nat.le_of_ble_eq_true rfl) rfl ?_
  refine r_aload3 dL_payment_0 ?_
  refine r_iconst (v := 0) dL_payment_1 (by decide) ?_
  refine r_aload0 dL_payment_2 ?_
  refine r_iload1 dL_payment_3 ?_
  refine r_iload2 dL_payment_4 ?_
  refine r_callV dL_payment_5 v_L_72 hM rfl hx rfl rfl rfl (Nat.le_of_ble_eq_true rfl) ⟨(Nat.le_of_ble_eq_true rfl), (Nat.le_of_ble_eq_true rfl)⟩ ⟨(Nat.le_of_ble_eq_true rfl), (Nat.le_of_ble_eq_true rfl)⟩ (fun r h1 hP1 => hP1.elim) (fun E h1 hp => ?_)
  have e := hPX E h1 hp
  subst e
  refine r_catch (nm := "java/lang/IllegalArgumentException") (pre := [(0, 10, 13, 13)]) (suf := []) (x := (0, 10, 17, 15)) rfl rfl (fun z hz => by
      rcases List.mem_cons.mp hz with rfl | hz
      · exact Or.inr ⟨by decide, "java/lang/IndexOutOfBoundsException", cl_L_13, by decide⟩
      cases hz) (by decide) (by decide) cl_L_15 (by decide) (fun q => ?_)
  refine r_astore4 dL_payment_17 (Nat.le_of_ble_eq_true rfl) rfl ?_
  refine r_iconst (v := 2) dL_payment_19 (by decide) ?_
  exact r_iret dL_payment_20 rfl ⟨(Nat.le_of_ble_eq_true rfl), (Nat.le_of_ble_eq_true rfl)⟩ ⟨rfl, _, hp⟩

set_option maxRecDepth 100000 in
set_option maxHeartbeats 4000000 in
theorem WL_count {l : Launch} {G : tp_G} {h : tp_H} {x o : Nat} {a0 : Int32} {fs : List Value} {v : Int32} {P : tp_H → Prop} {f : Nat → Int64} (hl : l.stackTraces = false) (hx : h.2 x = some (.inr (5, fs))) (hM : tp_Met l G mX5_count 0 0 [.ref x, .int a0] h (tp_PS (some (.int v)) P) tp_NX) (hP : ∀ h1, P h1 → h1.2 o = some (.inl (G.2.2.1 1, 1, .inr (.inl f)))) : tp_Met l G mL_count 0 0 [.ref x, .int a0, .ref o] h (tp_PS (some (.int 0)) (fun h2 => ∃ h1, P h1 ∧ h2 = (h1.1, tp_up h1.2 o (.inl (G.2.2.1 1, 1, .inr (.inl (va_up f 0 v.toInt64))))))) tp_NX := by
  refine tp_startW (L0 := [some (.ref x), some (.int a0), some (.ref o), none]) (by decide) rfl hl (Nat.le_of_ble_eq_true rfl) rfl ?_
  refine r_aload2 dL_count_0 ?_
  refine r_iconst (v := 0) dL_count_1 (by decide) ?_
  refine r_aload0 dL_count_2 ?_
  refine r_iload1 dL_count_3 ?_
  refine r_sV1 dL_count_4 v_L_75 hM rfl hx rfl rfl rfl (Nat.le_of_ble_eq_true rfl) ⟨(Nat.le_of_ble_eq_true rfl), (Nat.le_of_ble_eq_true rfl)⟩ ⟨(Nat.le_of_ble_eq_true rfl), (Nat.le_of_ble_eq_true rfl)⟩ (fun h1 hP1 => ?_)
  refine r_i2l dL_count_7 ?_
  refine r_last dL_count_8 (hP h1 hP1) (i := 0) rfl (by decide) (by decide) ?_
  refine r_goto (tgt := 15) dL_count_9 (by decide) ?_
  refine r_iconst (v := 0) dL_count_15 (by decide) ?_
  exact r_iret dL_count_16 rfl ⟨(Nat.le_of_ble_eq_true rfl), (Nat.le_of_ble_eq_true rfl)⟩ ⟨rfl, h1, hP1, rfl⟩

set_option maxRecDepth 100000 in
set_option maxHeartbeats 4000000 in
theorem WX_count_1 {l : Launch} {G : tp_G} {h : tp_H} {x o : Nat} {a0 : Int32} {fs : List Value} {PX : String → tp_H → Prop} (hl : l.stackTraces = false) (hx : h.2 x = some (.inr (5, fs))) (hM : tp_Met l G mX5_count 1 6 [.ref x, .int a0] h (fun _ _ => False) PX) (hPX : ∀ E h1, PX E h1 → E = "java/lang/IllegalArgumentException") : tp_Met l G mL_count 1 6 [.ref x, .int a0, .ref o] h (tp_PS (some (.int 1)) (fun h2 => ∃ E, PX E h2)) tp_NX := by
  refine tp_startW (L0 := [some (.ref x), some (.int a0), some (.ref o), none]) (by decide) rfl hl (Nat.le_of_ble_eq_true rfl) rfl ?_
  refine r_aload2 dL_count_0 ?_
  refine r_iconst (v := 0) dL_count_1 (by decide) ?_
  refine r_aload0 dL_count_2 ?_
  refine r_iload1 dL_count_3 ?_
  refine r_callV dL_count_4 v_L_75 hM rfl hx rfl rfl rfl (Nat.le_of_ble_eq_true rfl) ⟨(Nat.le_of_ble_eq_true rfl), (Nat.le_of_ble_eq_true rfl)⟩ ⟨(Nat.le_of_ble_eq_true rfl), (Nat.le_of_ble_eq_true rfl)⟩ (fun r h1 hP1 => hP1.elim) (fun E h1 hp => ?_)
  have e := hPX E h1 hp
  subst e
  refine r_catch (nm := "java/lang/IllegalArgumentException") (pre := []) (suf := []) (x := (0, 9, 12, 15)) rfl rfl (fun z hz => by cases hz) (by decide) (by decide) cl_L_15 (by decide) (fun q => ?_)
  refine r_astore3 dL_count_12 (Nat.le_of_ble_eq_true rfl) rfl ?_
  refine r_iconst (v := 1) dL_count_13 (by decide) ?_
  exact r_iret dL_count_14 rfl ⟨(Nat.le_of_ble_eq_true rfl), (Nat.le_of_ble_eq_true rfl)⟩ ⟨rfl, _, hp⟩

set_option maxRecDepth 100000 in
set_option maxHeartbeats 4000000 in
theorem WL_setting {l : Launch} {G : tp_G} {h : tp_H} {x o : Nat} {a0 : Int32} {fs : List Value} {v : Int32} {P : tp_H → Prop} {f : Nat → Int64} (hl : l.stackTraces = false) (hx : h.2 x = some (.inr (5, fs))) (hM : tp_Met l G mX5_setting 0 0 [.ref x, .int a0] h (tp_PS (some (.int v)) P) tp_NX) (hP : ∀ h1, P h1 → h1.2 o = some (.inl (G.2.2.1 1, 1, .inr (.inl f)))) : tp_Met l G mL_setting 0 0 [.ref x, .int a0, .ref o] h (tp_PS (some (.int 0)) (fun h2 => ∃ h1, P h1 ∧ h2 = (h1.1, tp_up h1.2 o (.inl (G.2.2.1 1, 1, .inr (.inl (va_up f 0 v.toInt64))))))) tp_NX := by
  refine tp_startW (L0 := [some (.ref x), some (.int a0), some (.ref o), none]) (by decide) rfl hl (Nat.le_of_ble_eq_true rfl) rfl ?_
  refine r_aload2 dL_setting_0 ?_
  refine r_iconst (v := 0) dL_setting_1 (by decide) ?_
  refine r_aload0 dL_setting_2 ?_
  refine r_iload1 dL_setting_3 ?_
  refine r_sV1 dL_setting_4 v_L_78 hM rfl hx rfl rfl rfl (Nat.le_of_ble_eq_true rfl) ⟨(Nat.le_of_ble_eq_true rfl), (Nat.le_of_ble_eq_true rfl)⟩ ⟨(Nat.le_of_ble_eq_true rfl), (Nat.le_of_ble_eq_true rfl)⟩ (fun h1 hP1 => ?_)
  refine r_i2l dL_setting_7 ?_
  refine r_last dL_setting_8 (hP h1 hP1) (i := 0) rfl (by decide) (by decide) ?_
  refine r_goto (tgt := 15) dL_setting_9 (by decide) ?_
  refine r_iconst (v := 0) dL_setting_15 (by decide) ?_
  exact r_iret dL_setting_16 rfl ⟨(Nat.le_of_ble_eq_true rfl), (Nat.le_of_ble_eq_true rfl)⟩ ⟨rfl, h1, hP1, rfl⟩

set_option maxRecDepth 100000 in
set_option maxHeartbeats 4000000 in
theorem WX_setting_1 {l : Launch} {G : tp_G} {h : tp_H} {x o : Nat} {a0 : Int32} {fs : List Value} {PX : String → tp_H → Prop} (hl : l.stackTraces = false) (hx : h.2 x = some (.inr (5, fs))) (hM : tp_Met l G mX5_setting 1 6 [.ref x, .int a0] h (fun _ _ => False) PX) (hPX : ∀ E h1, PX E h1 → E = "java/lang/IndexOutOfBoundsException") : tp_Met l G mL_setting 1 6 [.ref x, .int a0, .ref o] h (tp_PS (some (.int 1)) (fun h2 => ∃ E, PX E h2)) tp_NX := by
  refine tp_startW (L0 := [some (.ref x), some (.int a0), some (.ref o), none]) (by decide) rfl hl (Nat.le_of_ble_eq_true rfl) rfl ?_
  refine r_aload2 dL_setting_0 ?_
  refine r_iconst (v := 0) dL_setting_1 (by decide) ?_
  refine r_aload0 dL_setting_2 ?_
  refine r_iload1 dL_setting_3 ?_
  refine r_callV dL_setting_4 v_L_78 hM rfl hx rfl rfl rfl (Nat.le_of_ble_eq_true rfl) ⟨(Nat.le_of_ble_eq_true rfl), (Nat.le_of_ble_eq_true rfl)⟩ ⟨(Nat.le_of_ble_eq_true rfl), (Nat.le_of_ble_eq_true rfl)⟩ (fun r h1 hP1 => hP1.elim) (fun E h1 hp => ?_)
  have e := hPX E h1 hp
  subst e
  refine r_catch (nm := "java/lang/IndexOutOfBoundsException") (pre := []) (suf := []) (x := (0, 9, 12, 13)) rfl rfl (fun z hz => by cases hz) (by decide) (by decide) cl_L_13 (by decide) (fun q => ?_)
  refine r_astore3 dL_setting_12 (Nat.le_of_ble_eq_true rfl) rfl ?_
  refine r_iconst (v := 1) dL_setting_13 (by decide) ?_
  exact r_iret dL_setting_14 rfl ⟨(Nat.le_of_ble_eq_true rfl), (Nat.le_of_ble_eq_true rfl)⟩ ⟨rfl, _, hp⟩

set_option maxRecDepth 100000 in
set_option maxHeartbeats 4000000 in
theorem WL_ifExchanged {l : Launch} {G : tp_G} {h : tp_H} {x o : Nat} {a0 a1 a2 a3 : Int32} {fs : List Value} {v : Int32} {P : tp_H → Prop} {f : Nat → Int64} (hl : l.stackTraces = false) (hx : h.2 x = some (.inr (5, fs))) (hM : tp_Met l G mX5_ifExchanged 0 0 [.ref x, .int a0, .int a1, .int a2, .int a3] h (tp_PS (some (.int v)) P) tp_NX) (hP : ∀ h1, P h1 → h1.2 o = some (.inl (G.2.2.1 1, 1, .inr (.inl f)))) : tp_Met l G mL_ifExchanged 0 0 [.ref x, .int a0, .int a1, .int a2, .int a3, .ref o] h (tp_PS (some (.int 0)) (fun h2 => ∃ h1, P h1 ∧ h2 = (h1.1, tp_up h1.2 o (.inl (G.2.2.1 1, 1, .inr (.inl (va_up f 0 v.toInt64))))))) tp_NX := by
  refine tp_startW (L0 := [some (.ref x), some (.int a0), some (.int a1), some (.int a2), some (.int a3), some (.ref o), none]) (by decide) rfl hl (Nat.le_of_ble_eq_true rfl) rfl ?_
  refine r_aload5 dL_ifExchanged_0 ?_
  refine r_iconst (v := 0) dL_ifExchanged_2 (by decide) ?_
  refine r_aload0 dL_ifExchanged_3 ?_
  refine r_iload1 dL_ifExchanged_4 ?_
  refine r_iload2 dL_ifExchanged_5 ?_
  refine r_iload3 dL_ifExchanged_6 ?_
  refine r_iload4 dL_ifExchanged_7 ?_
  refine r_sV1 dL_ifExchanged_9 v_L_81 hM rfl hx rfl rfl rfl (Nat.le_of_ble_eq_true rfl) ⟨(Nat.le_of_ble_eq_true rfl), (Nat.le_of_ble_eq_true rfl)⟩ ⟨(Nat.le_of_ble_eq_true rfl), (Nat.le_of_ble_eq_true rfl)⟩ (fun h1 hP1 => ?_)
  refine r_i2l dL_ifExchanged_12 ?_
  refine r_last dL_ifExchanged_13 (hP h1 hP1) (i := 0) rfl (by decide) (by decide) ?_
  refine r_goto (tgt := 25) dL_ifExchanged_14 (by decide) ?_
  refine r_iconst (v := 0) dL_ifExchanged_25 (by decide) ?_
  exact r_iret dL_ifExchanged_26 rfl ⟨(Nat.le_of_ble_eq_true rfl), (Nat.le_of_ble_eq_true rfl)⟩ ⟨rfl, h1, hP1, rfl⟩

set_option maxRecDepth 100000 in
set_option maxHeartbeats 4000000 in
theorem WX_ifExchanged_1 {l : Launch} {G : tp_G} {h : tp_H} {x o : Nat} {a0 a1 a2 a3 : Int32} {fs : List Value} {PX : String → tp_H → Prop} (hl : l.stackTraces = false) (hx : h.2 x = some (.inr (5, fs))) (hM : tp_Met l G mX5_ifExchanged 1 6 [.ref x, .int a0, .int a1, .int a2, .int a3] h (fun _ _ => False) PX) (hPX : ∀ E h1, PX E h1 → E = "java/lang/IndexOutOfBoundsException") : tp_Met l G mL_ifExchanged 1 6 [.ref x, .int a0, .int a1, .int a2, .int a3, .ref o] h (tp_PS (some (.int 1)) (fun h2 => ∃ E, PX E h2)) tp_NX := by
  refine tp_startW (L0 := [some (.ref x), some (.int a0), some (.int a1), some (.int a2), some (.int a3), some (.ref o), none]) (by decide) rfl hl (Nat.le_of_ble_eq_true rfl) rfl ?_
  refine r_aload5 dL_ifExchanged_0 ?_
  refine r_iconst (v := 0) dL_ifExchanged_2 (by decide) ?_
  refine r_aload0 dL_ifExchanged_3 ?_
  refine r_iload1 dL_ifExchanged_4 ?_
  refine r_iload2 dL_ifExchanged_5 ?_
  refine r_iload3 dL_ifExchanged_6 ?_
  refine r_iload4 dL_ifExchanged_7 ?_
  refine r_callV dL_ifExchanged_9 v_L_81 hM rfl hx rfl rfl rfl (Nat.le_of_ble_eq_true rfl) ⟨(Nat.le_of_ble_eq_true rfl), (Nat.le_of_ble_eq_true rfl)⟩ ⟨(Nat.le_of_ble_eq_true rfl), (Nat.le_of_ble_eq_true rfl)⟩ (fun r h1 hP1 => hP1.elim) (fun E h1 hp => ?_)
  have e := hPX E h1 hp
  subst e
  refine r_catch (nm := "java/lang/IndexOutOfBoundsException") (pre := []) (suf := [(0, 14, 21, 15)]) (x := (0, 14, 17, 13)) rfl rfl (fun z hz => by cases hz) (by decide) (by decide) cl_L_13 (by decide) (fun q => ?_)
  refine r_astore6 dL_ifExchanged_17 (Nat.le_of_ble_eq_true rfl) rfl ?_
  refine r_iconst (v := 1) dL_ifExchanged_19 (by decide) ?_
  exact r_iret dL_ifExchanged_20 rfl ⟨(Nat.le_of_ble_eq_true rfl), (Nat.le_of_ble_eq_true rfl)⟩ ⟨rfl, _, hp⟩

set_option maxRecDepth 100000 in
set_option maxHeartbeats 4000000 in
theorem WX_ifExchanged_2 {l : Launch} {G : tp_G} {h : tp_H} {x o : Nat} {a0 a1 a2 a3 : Int32} {fs : List Value} {PX : String → tp_H → Prop} (hl : l.stackTraces = false) (hx : h.2 x = some (.inr (5, fs))) (hM : tp_Met l G mX5_ifExchanged 1 6 [.ref x, .int a0, .int a1, .int a2, .int a3] h (fun _ _ => False) PX) (hPX : ∀ E h1, PX E h1 → E = "java/lang/IllegalArgumentException") : tp_Met l G mL_ifExchanged 1 6 [.ref x, .int a0, .int a1, .int a2, .int a3, .ref o] h (tp_PS (some (.int 2)) (fun h2 => ∃ E, PX E h2)) tp_NX := by
  refine tp_startW (L0 := [some (.ref x), some (.int a0), some (.int a1), some (.int a2), some (.int a3), some (.ref o), none]) (by decide) rfl hl (Nat.le_of_ble_eq_true rfl) rfl ?_
  refine r_aload5 dL_ifExchanged_0 ?_
  refine r_iconst (v := 0) dL_ifExchanged_2 (by decide) ?_
  refine r_aload0 dL_ifExchanged_3 ?_
  refine r_iload1 dL_ifExchanged_4 ?_
  refine r_iload2 dL_ifExchanged_5 ?_
  refine r_iload3 dL_ifExchanged_6 ?_
  refine r_iload4 dL_ifExchanged_7 ?_
  refine r_callV dL_ifExchanged_9 v_L_81 hM rfl hx rfl rfl rfl (Nat.le_of_ble_eq_true rfl) ⟨(Nat.le_of_ble_eq_true rfl), (Nat.le_of_ble_eq_true rfl)⟩ ⟨(Nat.le_of_ble_eq_true rfl), (Nat.le_of_ble_eq_true rfl)⟩ (fun r h1 hP1 => hP1.elim) (fun E h1 hp => ?_)
  have e := hPX E h1 hp
  subst e
  refine r_catch (nm := "java/lang/IllegalArgumentException") (pre := [(0, 14, 17, 13)]) (suf := []) (x := (0, 14, 21, 15)) rfl rfl (fun z hz => by
      rcases List.mem_cons.mp hz with rfl | hz
      · exact Or.inr ⟨by decide, "java/lang/IndexOutOfBoundsException", cl_L_13, by decide⟩
      cases hz) (by decide) (by decide) cl_L_15 (by decide) (fun q => ?_)
  refine r_astore6 dL_ifExchanged_21 (Nat.le_of_ble_eq_true rfl) rfl ?_
  refine r_iconst (v := 2) dL_ifExchanged_23 (by decide) ?_
  exact r_iret dL_ifExchanged_24 rfl ⟨(Nat.le_of_ble_eq_true rfl), (Nat.le_of_ble_eq_true rfl)⟩ ⟨rfl, _, hp⟩

set_option maxRecDepth 100000 in
set_option maxHeartbeats 4000000 in
theorem WL_needed {l : Launch} {G : tp_G} {h : tp_H} {x o : Nat} {a0 a1 a2 : Int32} {fs : List Value} {v : Int32} {P : tp_H → Prop} {f : Nat → Int64} (hl : l.stackTraces = false) (hx : h.2 x = some (.inr (5, fs))) (hM : tp_Met l G mX5_needed 0 0 [.ref x, .int a0, .int a1, .int a2] h (tp_PS (some (.int v)) P) tp_NX) (hP : ∀ h1, P h1 → h1.2 o = some (.inl (G.2.2.1 1, 1, .inr (.inl f)))) : tp_Met l G mL_needed 0 0 [.ref x, .int a0, .int a1, .int a2, .ref o] h (tp_PS (some (.int 0)) (fun h2 => ∃ h1, P h1 ∧ h2 = (h1.1, tp_up h1.2 o (.inl (G.2.2.1 1, 1, .inr (.inl (va_up f 0 v.toInt64))))))) tp_NX := by
  refine tp_startW (L0 := [some (.ref x), some (.int a0), some (.int a1), some (.int a2), some (.ref o), none]) (by decide) rfl hl (Nat.le_of_ble_eq_true rfl) rfl ?_
  refine r_aload4 dL_needed_0 ?_
  refine r_iconst (v := 0) dL_needed_2 (by decide) ?_
  refine r_aload0 dL_needed_3 ?_
  refine r_iload1 dL_needed_4 ?_
  refine r_iload2 dL_needed_5 ?_
  refine r_iload3 dL_needed_6 ?_
  refine r_sV1 dL_needed_7 v_L_84 hM rfl hx rfl rfl rfl (Nat.le_of_ble_eq_true rfl) ⟨(Nat.le_of_ble_eq_true rfl), (Nat.le_of_ble_eq_true rfl)⟩ ⟨(Nat.le_of_ble_eq_true rfl), (Nat.le_of_ble_eq_true rfl)⟩ (fun h1 hP1 => ?_)
  refine r_i2l dL_needed_10 ?_
  refine r_last dL_needed_11 (hP h1 hP1) (i := 0) rfl (by decide) (by decide) ?_
  refine r_goto (tgt := 23) dL_needed_12 (by decide) ?_
  refine r_iconst (v := 0) dL_needed_23 (by decide) ?_
  exact r_iret dL_needed_24 rfl ⟨(Nat.le_of_ble_eq_true rfl), (Nat.le_of_ble_eq_true rfl)⟩ ⟨rfl, h1, hP1, rfl⟩

set_option maxRecDepth 100000 in
set_option maxHeartbeats 4000000 in
theorem WX_needed_1 {l : Launch} {G : tp_G} {h : tp_H} {x o : Nat} {a0 a1 a2 : Int32} {fs : List Value} {PX : String → tp_H → Prop} (hl : l.stackTraces = false) (hx : h.2 x = some (.inr (5, fs))) (hM : tp_Met l G mX5_needed 1 6 [.ref x, .int a0, .int a1, .int a2] h (fun _ _ => False) PX) (hPX : ∀ E h1, PX E h1 → E = "java/lang/IndexOutOfBoundsException") : tp_Met l G mL_needed 1 6 [.ref x, .int a0, .int a1, .int a2, .ref o] h (tp_PS (some (.int 1)) (fun h2 => ∃ E, PX E h2)) tp_NX := by
  refine tp_startW (L0 := [some (.ref x), some (.int a0), some (.int a1), some (.int a2), some (.ref o), none]) (by decide) rfl hl (Nat.le_of_ble_eq_true rfl) rfl ?_
  refine r_aload4 dL_needed_0 ?_
  refine r_iconst (v := 0) dL_needed_2 (by decide) ?_
  refine r_aload0 dL_needed_3 ?_
  refine r_iload1 dL_needed_4 ?_
  refine r_iload2 dL_needed_5 ?_
  refine r_iload3 dL_needed_6 ?_
  refine r_callV dL_needed_7 v_L_84 hM rfl hx rfl rfl rfl (Nat.le_of_ble_eq_true rfl) ⟨(Nat.le_of_ble_eq_true rfl), (Nat.le_of_ble_eq_true rfl)⟩ ⟨(Nat.le_of_ble_eq_true rfl), (Nat.le_of_ble_eq_true rfl)⟩ (fun r h1 hP1 => hP1.elim) (fun E h1 hp => ?_)
  have e := hPX E h1 hp
  subst e
  refine r_catch (nm := "java/lang/IndexOutOfBoundsException") (pre := []) (suf := [(0, 12, 19, 15)]) (x := (0, 12, 15, 13)) rfl rfl (fun z hz => by cases hz) (by decide) (by decide) cl_L_13 (by decide) (fun q => ?_)
  refine r_astore5 dL_needed_15 (Nat.le_of_ble_eq_true rfl) rfl ?_
  refine r_iconst (v := 1) dL_needed_17 (by decide) ?_
  exact r_iret dL_needed_18 rfl ⟨(Nat.le_of_ble_eq_true rfl), (Nat.le_of_ble_eq_true rfl)⟩ ⟨rfl, _, hp⟩

set_option maxRecDepth 100000 in
set_option maxHeartbeats 4000000 in
theorem WX_needed_2 {l : Launch} {G : tp_G} {h : tp_H} {x o : Nat} {a0 a1 a2 : Int32} {fs : List Value} {PX : String → tp_H → Prop} (hl : l.stackTraces = false) (hx : h.2 x = some (.inr (5, fs))) (hM : tp_Met l G mX5_needed 1 6 [.ref x, .int a0, .int a1, .int a2] h (fun _ _ => False) PX) (hPX : ∀ E h1, PX E h1 → E = "java/lang/IllegalArgumentException") : tp_Met l G mL_needed 1 6 [.ref x, .int a0, .int a1, .int a2, .ref o] h (tp_PS (some (.int 2)) (fun h2 => ∃ E, PX E h2)) tp_NX := by
  refine tp_startW (L0 := [some (.ref x), some (.int a0), some (.int a1), some (.int a2), some (.ref o), none]) (by decide) rfl hl (Nat.le_of_ble_eq_true rfl) rfl ?_
  refine r_aload4 dL_needed_0 ?_
  refine r_iconst (v := 0) dL_needed_2 (by decide) ?_
  refine r_aload0 dL_needed_3 ?_
  refine r_iload1 dL_needed_4 ?_
  refine r_iload2 dL_needed_5 ?_
  refine r_iload3 dL_needed_6 ?_
  refine r_callV dL_needed_7 v_L_84 hM rfl hx rfl rfl rfl (Nat.le_of_ble_eq_true rfl) ⟨(Nat.le_of_ble_eq_true rfl), (Nat.le_of_ble_eq_true rfl)⟩ ⟨(Nat.le_of_ble_eq_true rfl), (Nat.le_of_ble_eq_true rfl)⟩ (fun r h1 hP1 => hP1.elim) (fun E h1 hp => ?_)
  have e := hPX E h1 hp
  subst e
  refine r_catch (nm := "java/lang/IllegalArgumentException") (pre := [(0, 12, 15, 13)]) (suf := []) (x := (0, 12, 19, 15)) rfl rfl (fun z hz => by
      rcases List.mem_cons.mp hz with rfl | hz
      · exact Or.inr ⟨by decide, "java/lang/IndexOutOfBoundsException", cl_L_13, by decide⟩
      cases hz) (by decide) (by decide) cl_L_15 (by decide) (fun q => ?_)
  refine r_astore5 dL_needed_19 (Nat.le_of_ble_eq_true rfl) rfl ?_
  refine r_iconst (v := 2) dL_needed_21 (by decide) ?_
  exact r_iret dL_needed_22 rfl ⟨(Nat.le_of_ble_eq_true rfl), (Nat.le_of_ble_eq_true rfl)⟩ ⟨rfl, _, hp⟩

set_option maxRecDepth 100000 in
set_option maxHeartbeats 4000000 in
theorem WL_room {l : Launch} {G : tp_G} {h : tp_H} {x o : Nat} {a0 a1 : Int32} {fs : List Value} {v : Int32} {P : tp_H → Prop} {f : Nat → Int64} (hl : l.stackTraces = false) (hx : h.2 x = some (.inr (5, fs))) (hM : tp_Met l G mX5_room 0 0 [.ref x, .int a0, .int a1] h (tp_PS (some (.int v)) P) tp_NX) (hP : ∀ h1, P h1 → h1.2 o = some (.inl (G.2.2.1 1, 1, .inr (.inl f)))) : tp_Met l G mL_room 0 0 [.ref x, .int a0, .int a1, .ref o] h (tp_PS (some (.int 0)) (fun h2 => ∃ h1, P h1 ∧ h2 = (h1.1, tp_up h1.2 o (.inl (G.2.2.1 1, 1, .inr (.inl (va_up f 0 v.toInt64))))))) tp_NX := by
  refine tp_startW (L0 := [some (.ref x), some (.int a0), some (.int a1), some (.ref o), none]) (by decide) rfl hl (Nat.le_of_ble_eq_true rfl) rfl ?_
  refine r_aload3 dL_room_0 ?_
  refine r_iconst (v := 0) dL_room_1 (by decide) ?_
  refine r_aload0 dL_room_2 ?_
  refine r_iload1 dL_room_3 ?_
  refine r_iload2 dL_room_4 ?_
  refine r_sV1 dL_room_5 v_L_87 hM rfl hx rfl rfl rfl (Nat.le_of_ble_eq_true rfl) ⟨(Nat.le_of_ble_eq_true rfl), (Nat.le_of_ble_eq_true rfl)⟩ ⟨(Nat.le_of_ble_eq_true rfl), (Nat.le_of_ble_eq_true rfl)⟩ (fun h1 hP1 => ?_)
  refine r_i2l dL_room_8 ?_
  refine r_last dL_room_9 (hP h1 hP1) (i := 0) rfl (by decide) (by decide) ?_
  refine r_goto (tgt := 17) dL_room_10 (by decide) ?_
  refine r_iconst (v := 0) dL_room_17 (by decide) ?_
  exact r_iret dL_room_18 rfl ⟨(Nat.le_of_ble_eq_true rfl), (Nat.le_of_ble_eq_true rfl)⟩ ⟨rfl, h1, hP1, rfl⟩

set_option maxRecDepth 100000 in
set_option maxHeartbeats 4000000 in
theorem WX_room_1 {l : Launch} {G : tp_G} {h : tp_H} {x o : Nat} {a0 a1 : Int32} {fs : List Value} {PX : String → tp_H → Prop} (hl : l.stackTraces = false) (hx : h.2 x = some (.inr (5, fs))) (hM : tp_Met l G mX5_room 1 6 [.ref x, .int a0, .int a1] h (fun _ _ => False) PX) (hPX : ∀ E h1, PX E h1 → E = "java/lang/IndexOutOfBoundsException") : tp_Met l G mL_room 1 6 [.ref x, .int a0, .int a1, .ref o] h (tp_PS (some (.int 1)) (fun h2 => ∃ E, PX E h2)) tp_NX := by
  refine tp_startW (L0 := [some (.ref x), some (.int a0), some (.int a1), some (.ref o), none]) (by decide) rfl hl (Nat.le_of_ble_eq_true rfl) rfl ?_
  refine r_aload3 dL_room_0 ?_
  refine r_iconst (v := 0) dL_room_1 (by decide) ?_
  refine r_aload0 dL_room_2 ?_
  refine r_iload1 dL_room_3 ?_
  refine r_iload2 dL_room_4 ?_
  refine r_callV dL_room_5 v_L_87 hM rfl hx rfl rfl rfl (Nat.le_of_ble_eq_true rfl) ⟨(Nat.le_of_ble_eq_true rfl), (Nat.le_of_ble_eq_true rfl)⟩ ⟨(Nat.le_of_ble_eq_true rfl), (Nat.le_of_ble_eq_true rfl)⟩ (fun r h1 hP1 => hP1.elim) (fun E h1 hp => ?_)
  have e := hPX E h1 hp
  subst e
  refine r_catch (nm := "java/lang/IndexOutOfBoundsException") (pre := []) (suf := []) (x := (0, 10, 13, 13)) rfl rfl (fun z hz => by cases hz) (by decide) (by decide) cl_L_13 (by decide) (fun q => ?_)
  refine r_astore4 dL_room_13 (Nat.le_of_ble_eq_true rfl) rfl ?_
  refine r_iconst (v := 1) dL_room_15 (by decide) ?_
  exact r_iret dL_room_16 rfl ⟨(Nat.le_of_ble_eq_true rfl), (Nat.le_of_ble_eq_true rfl)⟩ ⟨rfl, _, hp⟩

set_option maxRecDepth 100000 in
set_option maxHeartbeats 4000000 in
theorem WL_whyNot {l : Launch} {G : tp_G} {h : tp_H} {x o : Nat} {a0 a1 a2 a3 a4 : Int32} {fs : List Value} {v : Int32} {P : tp_H → Prop} {f : Nat → Int64} (hl : l.stackTraces = false) (hx : h.2 x = some (.inr (5, fs))) (hM : tp_Met l G mX5_whyNot 0 0 [.ref x, .int a0, .int a1, .int a2, .int a3, .int a4] h (tp_PS (some (.int v)) P) tp_NX) (hP : ∀ h1, P h1 → h1.2 o = some (.inl (G.2.2.1 1, 1, .inr (.inl f)))) : tp_Met l G mL_whyNot 0 0 [.ref x, .int a0, .int a1, .int a2, .int a3, .int a4, .ref o] h (tp_PS (some (.int 0)) (fun h2 => ∃ h1, P h1 ∧ h2 = (h1.1, tp_up h1.2 o (.inl (G.2.2.1 1, 1, .inr (.inl (va_up f 0 v.toInt64))))))) tp_NX := by
  refine tp_startW (L0 := [some (.ref x), some (.int a0), some (.int a1), some (.int a2), some (.int a3), some (.int a4), some (.ref o), none]) (by decide) rfl hl (Nat.le_of_ble_eq_true rfl) rfl ?_
  refine r_aload6 dL_whyNot_0 ?_
  refine r_iconst (v := 0) dL_whyNot_2 (by decide) ?_
  refine r_aload0 dL_whyNot_3 ?_
  refine r_iload1 dL_whyNot_4 ?_
  refine r_iload2 dL_whyNot_5 ?_
  refine r_iload3 dL_whyNot_6 ?_
  refine r_iload4 dL_whyNot_7 ?_
  refine r_iload5 dL_whyNot_9 ?_
  refine r_sV1 dL_whyNot_11 v_L_90 hM rfl hx rfl rfl rfl (Nat.le_of_ble_eq_true rfl) ⟨(Nat.le_of_ble_eq_true rfl), (Nat.le_of_ble_eq_true rfl)⟩ ⟨(Nat.le_of_ble_eq_true rfl), (Nat.le_of_ble_eq_true rfl)⟩ (fun h1 hP1 => ?_)
  refine r_i2l dL_whyNot_14 ?_
  refine r_last dL_whyNot_15 (hP h1 hP1) (i := 0) rfl (by decide) (by decide) ?_
  refine r_goto (tgt := 27) dL_whyNot_16 (by decide) ?_
  refine r_iconst (v := 0) dL_whyNot_27 (by decide) ?_
  exact r_iret dL_whyNot_28 rfl ⟨(Nat.le_of_ble_eq_true rfl), (Nat.le_of_ble_eq_true rfl)⟩ ⟨rfl, h1, hP1, rfl⟩

set_option maxRecDepth 100000 in
set_option maxHeartbeats 4000000 in
theorem WX_whyNot_1 {l : Launch} {G : tp_G} {h : tp_H} {x o : Nat} {a0 a1 a2 a3 a4 : Int32} {fs : List Value} {PX : String → tp_H → Prop} (hl : l.stackTraces = false) (hx : h.2 x = some (.inr (5, fs))) (hM : tp_Met l G mX5_whyNot 1 6 [.ref x, .int a0, .int a1, .int a2, .int a3, .int a4] h (fun _ _ => False) PX) (hPX : ∀ E h1, PX E h1 → E = "java/lang/IndexOutOfBoundsException") : tp_Met l G mL_whyNot 1 6 [.ref x, .int a0, .int a1, .int a2, .int a3, .int a4, .ref o] h (tp_PS (some (.int 1)) (fun h2 => ∃ E, PX E h2)) tp_NX := by
  refine tp_startW (L0 := [some (.ref x), some (.int a0), some (.int a1), some (.int a2), some (.int a3), some (.int a4), some (.ref o), none]) (by decide) rfl hl (Nat.le_of_ble_eq_true rfl) rfl ?_
  refine r_aload6 dL_whyNot_0 ?_
  refine r_iconst (v := 0) dL_whyNot_2 (by decide) ?_
  refine r_aload0 dL_whyNot_3 ?_
  refine r_iload1 dL_whyNot_4 ?_
  refine r_iload2 dL_whyNot_5 ?_
  refine r_iload3 dL_whyNot_6 ?_
  refine r_iload4 dL_whyNot_7 ?_
  refine r_iload5 dL_whyNot_9 ?_
  refine r_callV dL_whyNot_11 v_L_90 hM rfl hx rfl rfl rfl (Nat.le_of_ble_eq_true rfl) ⟨(Nat.le_of_ble_eq_true rfl), (Nat.le_of_ble_eq_true rfl)⟩ ⟨(Nat.le_of_ble_eq_true rfl), (Nat.le_of_ble_eq_true rfl)⟩ (fun r h1 hP1 => hP1.elim) (fun E h1 hp => ?_)
  have e := hPX E h1 hp
  subst e
  refine r_catch (nm := "java/lang/IndexOutOfBoundsException") (pre := []) (suf := [(0, 16, 23, 15)]) (x := (0, 16, 19, 13)) rfl rfl (fun z hz => by cases hz) (by decide) (by decide) cl_L_13 (by decide) (fun q => ?_)
  refine r_astore7 dL_whyNot_19 (Nat.le_of_ble_eq_true rfl) rfl ?_
  refine r_iconst (v := 1) dL_whyNot_21 (by decide) ?_
  exact r_iret dL_whyNot_22 rfl ⟨(Nat.le_of_ble_eq_true rfl), (Nat.le_of_ble_eq_true rfl)⟩ ⟨rfl, _, hp⟩

set_option maxRecDepth 100000 in
set_option maxHeartbeats 4000000 in
theorem WX_whyNot_2 {l : Launch} {G : tp_G} {h : tp_H} {x o : Nat} {a0 a1 a2 a3 a4 : Int32} {fs : List Value} {PX : String → tp_H → Prop} (hl : l.stackTraces = false) (hx : h.2 x = some (.inr (5, fs))) (hM : tp_Met l G mX5_whyNot 1 6 [.ref x, .int a0, .int a1, .int a2, .int a3, .int a4] h (fun _ _ => False) PX) (hPX : ∀ E h1, PX E h1 → E = "java/lang/IllegalArgumentException") : tp_Met l G mL_whyNot 1 6 [.ref x, .int a0, .int a1, .int a2, .int a3, .int a4, .ref o] h (tp_PS (some (.int 2)) (fun h2 => ∃ E, PX E h2)) tp_NX := by
  refine tp_startW (L0 := [some (.ref x), some (.int a0), some (.int a1), some (.int a2), some (.int a3), some (.int a4), some (.ref o), none]) (by decide) rfl hl (Nat.le_of_ble_eq_true rfl) rfl ?_
  refine r_aload6 dL_whyNot_0 ?_
  refine r_iconst (v := 0) dL_whyNot_2 (by decide) ?_
  refine r_aload0 dL_whyNot_3 ?_
  refine r_iload1 dL_whyNot_4 ?_
  refine r_iload2 dL_whyNot_5 ?_
  refine r_iload3 dL_whyNot_6 ?_
  refine r_iload4 dL_whyNot_7 ?_
  refine r_iload5 dL_whyNot_9 ?_
  refine r_callV dL_whyNot_11 v_L_90 hM rfl hx rfl rfl rfl (Nat.le_of_ble_eq_true rfl) ⟨(Nat.le_of_ble_eq_true rfl), (Nat.le_of_ble_eq_true rfl)⟩ ⟨(Nat.le_of_ble_eq_true rfl), (Nat.le_of_ble_eq_true rfl)⟩ (fun r h1 hP1 => hP1.elim) (fun E h1 hp => ?_)
  have e := hPX E h1 hp
  subst e
  refine r_catch (nm := "java/lang/IllegalArgumentException") (pre := [(0, 16, 19, 13)]) (suf := []) (x := (0, 16, 23, 15)) rfl rfl (fun z hz => by
      rcases List.mem_cons.mp hz with rfl | hz
      · exact Or.inr ⟨by decide, "java/lang/IndexOutOfBoundsException", cl_L_13, by decide⟩
      cases hz) (by decide) (by decide) cl_L_15 (by decide) (fun q => ?_)
  refine r_astore7 dL_whyNot_23 (Nat.le_of_ble_eq_true rfl) rfl ?_
  refine r_iconst (v := 2) dL_whyNot_25 (by decide) ?_
  exact r_iret dL_whyNot_26 rfl ⟨(Nat.le_of_ble_eq_true rfl), (Nat.le_of_ble_eq_true rfl)⟩ ⟨rfl, _, hp⟩

set_option maxRecDepth 100000 in
set_option maxHeartbeats 4000000 in
theorem WL_ifClosed {l : Launch} {G : tp_G} {h : tp_H} {x o : Nat} {a0 : Int32} {fs : List Value} {v : Int32} {P : tp_H → Prop} {f : Nat → Int64} (hl : l.stackTraces = false) (hx : h.2 x = some (.inr (5, fs))) (hM : tp_Met l G mX5_ifClosed 0 0 [.ref x, .int a0] h (tp_PS (some (.int v)) P) tp_NX) (hP : ∀ h1, P h1 → h1.2 o = some (.inl (G.2.2.1 1, 1, .inr (.inl f)))) : tp_Met l G mL_ifClosed 0 0 [.ref x, .int a0, .ref o] h (tp_PS (some (.int 0)) (fun h2 => ∃ h1, P h1 ∧ h2 = (h1.1, tp_up h1.2 o (.inl (G.2.2.1 1, 1, .inr (.inl (va_up f 0 v.toInt64))))))) tp_NX := by
  refine tp_startW (L0 := [some (.ref x), some (.int a0), some (.ref o), none]) (by decide) rfl hl (Nat.le_of_ble_eq_true rfl) rfl ?_
  refine r_aload2 dL_ifClosed_0 ?_
  refine r_iconst (v := 0) dL_ifClosed_1 (by decide) ?_
  refine r_aload0 dL_ifClosed_2 ?_
  refine r_iload1 dL_ifClosed_3 ?_
  refine r_sV1 dL_ifClosed_4 v_L_94 hM rfl hx rfl rfl rfl (Nat.le_of_ble_eq_true rfl) ⟨(Nat.le_of_ble_eq_true rfl), (Nat.le_of_ble_eq_true rfl)⟩ ⟨(Nat.le_of_ble_eq_true rfl), (Nat.le_of_ble_eq_true rfl)⟩ (fun h1 hP1 => ?_)
  refine r_i2l dL_ifClosed_7 ?_
  refine r_last dL_ifClosed_8 (hP h1 hP1) (i := 0) rfl (by decide) (by decide) ?_
  refine r_goto (tgt := 15) dL_ifClosed_9 (by decide) ?_
  refine r_iconst (v := 0) dL_ifClosed_15 (by decide) ?_
  exact r_iret dL_ifClosed_16 rfl ⟨(Nat.le_of_ble_eq_true rfl), (Nat.le_of_ble_eq_true rfl)⟩ ⟨rfl, h1, hP1, rfl⟩

set_option maxRecDepth 100000 in
set_option maxHeartbeats 4000000 in
theorem WX_ifClosed_1 {l : Launch} {G : tp_G} {h : tp_H} {x o : Nat} {a0 : Int32} {fs : List Value} {PX : String → tp_H → Prop} (hl : l.stackTraces = false) (hx : h.2 x = some (.inr (5, fs))) (hM : tp_Met l G mX5_ifClosed 1 6 [.ref x, .int a0] h (fun _ _ => False) PX) (hPX : ∀ E h1, PX E h1 → E = "java/lang/IndexOutOfBoundsException") : tp_Met l G mL_ifClosed 1 6 [.ref x, .int a0, .ref o] h (tp_PS (some (.int 1)) (fun h2 => ∃ E, PX E h2)) tp_NX := by
  refine tp_startW (L0 := [some (.ref x), some (.int a0), some (.ref o), none]) (by decide) rfl hl (Nat.le_of_ble_eq_true rfl) rfl ?_
  refine r_aload2 dL_ifClosed_0 ?_
  refine r_iconst (v := 0) dL_ifClosed_1 (by decide) ?_
  refine r_aload0 dL_ifClosed_2 ?_
  refine r_iload1 dL_ifClosed_3 ?_
  refine r_callV dL_ifClosed_4 v_L_94 hM rfl hx rfl rfl rfl (Nat.le_of_ble_eq_true rfl) ⟨(Nat.le_of_ble_eq_true rfl), (Nat.le_of_ble_eq_true rfl)⟩ ⟨(Nat.le_of_ble_eq_true rfl), (Nat.le_of_ble_eq_true rfl)⟩ (fun r h1 hP1 => hP1.elim) (fun E h1 hp => ?_)
  have e := hPX E h1 hp
  subst e
  refine r_catch (nm := "java/lang/IndexOutOfBoundsException") (pre := []) (suf := []) (x := (0, 9, 12, 13)) rfl rfl (fun z hz => by cases hz) (by decide) (by decide) cl_L_13 (by decide) (fun q => ?_)
  refine r_astore3 dL_ifClosed_12 (Nat.le_of_ble_eq_true rfl) rfl ?_
  refine r_iconst (v := 1) dL_ifClosed_13 (by decide) ?_
  exact r_iret dL_ifClosed_14 rfl ⟨(Nat.le_of_ble_eq_true rfl), (Nat.le_of_ble_eq_true rfl)⟩ ⟨rfl, _, hp⟩

set_option maxRecDepth 100000 in
set_option maxHeartbeats 4000000 in
theorem WL_heldShare {l : Launch} {G : tp_G} {h : tp_H} {x o : Nat} {a0 a1 : Int32} {fs : List Value} {v : UInt64} {P : tp_H → Prop} {f : Nat → UInt64} (hl : l.stackTraces = false) (hx : h.2 x = some (.inr (5, fs))) (hM : tp_Met l G mX5_heldShare 0 0 [.ref x, .int a0, .int a1] h (tp_PS (some (.double v)) P) tp_NX) (hP : ∀ h1, P h1 → h1.2 o = some (.inl (G.2.2.1 2, 1, .inr (.inr (.inr (.inl f)))))) : tp_Met l G mL_heldShare 0 0 [.ref x, .int a0, .int a1, .ref o] h (tp_PS (some (.int 0)) (fun h2 => ∃ h1, P h1 ∧ h2 = (h1.1, tp_up h1.2 o (.inl (G.2.2.1 2, 1, .inr (.inr (.inr (.inl (va_up f 0 v))))))))) tp_NX := by
  refine tp_startW (L0 := [some (.ref x), some (.int a0), some (.int a1), some (.ref o), none]) (by decide) rfl hl (Nat.le_of_ble_eq_true rfl) rfl ?_
  refine r_aload3 dL_heldShare_0 ?_
  refine r_iconst (v := 0) dL_heldShare_1 (by decide) ?_
  refine r_aload0 dL_heldShare_2 ?_
  refine r_iload1 dL_heldShare_3 ?_
  refine r_iload2 dL_heldShare_4 ?_
  refine r_sV1 dL_heldShare_5 v_L_97 hM rfl hx rfl rfl rfl (Nat.le_of_ble_eq_true rfl) ⟨(Nat.le_of_ble_eq_true rfl), (Nat.le_of_ble_eq_true rfl)⟩ ⟨(Nat.le_of_ble_eq_true rfl), (Nat.le_of_ble_eq_true rfl)⟩ (fun h1 hP1 => ?_)
  refine r_dast dL_heldShare_8 (hP h1 hP1) (i := 0) rfl (by decide) (by decide) ?_
  refine r_goto (tgt := 16) dL_heldShare_9 (by decide) ?_
  refine r_iconst (v := 0) dL_heldShare_16 (by decide) ?_
  exact r_iret dL_heldShare_17 rfl ⟨(Nat.le_of_ble_eq_true rfl), (Nat.le_of_ble_eq_true rfl)⟩ ⟨rfl, h1, hP1, rfl⟩

set_option maxRecDepth 100000 in
set_option maxHeartbeats 4000000 in
theorem WX_heldShare_1 {l : Launch} {G : tp_G} {h : tp_H} {x o : Nat} {a0 a1 : Int32} {fs : List Value} {PX : String → tp_H → Prop} (hl : l.stackTraces = false) (hx : h.2 x = some (.inr (5, fs))) (hM : tp_Met l G mX5_heldShare 1 6 [.ref x, .int a0, .int a1] h (fun _ _ => False) PX) (hPX : ∀ E h1, PX E h1 → E = "java/lang/IndexOutOfBoundsException") : tp_Met l G mL_heldShare 1 6 [.ref x, .int a0, .int a1, .ref o] h (tp_PS (some (.int 1)) (fun h2 => ∃ E, PX E h2)) tp_NX := by
  refine tp_startW (L0 := [some (.ref x), some (.int a0), some (.int a1), some (.ref o), none]) (by decide) rfl hl (Nat.le_of_ble_eq_true rfl) rfl ?_
  refine r_aload3 dL_heldShare_0 ?_
  refine r_iconst (v := 0) dL_heldShare_1 (by decide) ?_
  refine r_aload0 dL_heldShare_2 ?_
  refine r_iload1 dL_heldShare_3 ?_
  refine r_iload2 dL_heldShare_4 ?_
  refine r_callV dL_heldShare_5 v_L_97 hM rfl hx rfl rfl rfl (Nat.le_of_ble_eq_true rfl) ⟨(Nat.le_of_ble_eq_true rfl), (Nat.le_of_ble_eq_true rfl)⟩ ⟨(Nat.le_of_ble_eq_true rfl), (Nat.le_of_ble_eq_true rfl)⟩ (fun r h1 hP1 => hP1.elim) (fun E h1 hp => ?_)
  have e := hPX E h1 hp
  subst e
  refine r_catch (nm := "java/lang/IndexOutOfBoundsException") (pre := []) (suf := []) (x := (0, 9, 12, 13)) rfl rfl (fun z hz => by cases hz) (by decide) (by decide) cl_L_13 (by decide) (fun q => ?_)
  refine r_astore4 dL_heldShare_12 (Nat.le_of_ble_eq_true rfl) rfl ?_
  refine r_iconst (v := 1) dL_heldShare_14 (by decide) ?_
  exact r_iret dL_heldShare_15 rfl ⟨(Nat.le_of_ble_eq_true rfl), (Nat.le_of_ble_eq_true rfl)⟩ ⟨rfl, _, hp⟩

