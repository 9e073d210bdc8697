def k_rot (q : Nat) : Nat := if q + 1 < 6 then q + 1 else if q = 5 then 0 else q
theorem k_rot_lt {q : Nat} (h : q < 6) : k_rot q < 6 := by
  unfold k_rot
  split
  · omega
  · split <;> omega
theorem k_rot_inj {i j : Nat} (hi : i < 6) (hj : j < 6) (h : k_rot i = k_rot j) : i = j := by
  unfold k_rot at h
  by_cases h1 : i + 1 < 6 <;> by_cases h2 : j + 1 < 6
  · rw [if_pos h1, if_pos h2] at h; omega
  · rw [if_pos h1, if_neg h2, if_pos (by omega)] at h; omega
  · rw [if_neg h1, if_pos (by omega), if_pos h2] at h; omega
  · omega
def kx_mv (x : Nat) (σ : Nat → Nat) (i : Nat) : Nat → Option Nat := fun q => if q + 1 < i then kx_s x σ (q + 1) else kx_s x σ q
theorem kx_mv0 (x : Nat) (σ : Nat → Nat) : kx_mv x σ 1 = kx_s x σ := funext fun q => if_neg (by omega)
theorem kx_mv1 {x : Nat} {σ : Nat → Nat} {i : Nat} (hi : 0 < i) (h6 : i < 6) : va_up (kx_mv x σ i) (i - 1) (some (x + 44 + 42 * σ i)) = kx_mv x σ (i + 1) := by
  funext q
  unfold va_up kx_mv
  by_cases hq : q = i - 1
  · rw [if_pos hq, if_pos (by omega), show q + 1 = i by omega, kx_s_at h6]
  · rw [if_neg hq]
    by_cases h1 : q + 1 < i
    · rw [if_pos h1, if_pos (by omega)]
    · rw [if_neg h1, if_neg (by omega)]
theorem kx_mv2 {x : Nat} {σ : Nat → Nat} : va_up (kx_mv x σ 6) 5 (some (x + 44 + 42 * σ 0)) = kx_s x (fun q => σ (k_rot q)) := by
  funext q
  unfold va_up kx_mv kx_s k_rot
  dsimp only
  by_cases hq : q = 5
  · subst hq; rfl
  · rw [if_neg hq]
    by_cases h1 : q + 1 < 6
    · rw [if_pos h1, if_pos h1, if_pos (by omega), if_pos h1]
    · rw [if_neg h1, if_neg (by omega), if_neg (by omega)]
def kx_us (us : Nat → Nat → Int32) (s : Nat) (u : Nat → Int32) (N P : Nat) : Nat → Nat → Int32 :=
  if s = 6 then va_up (fun j => us (k_rot j)) 5 (k_copy (us (k_rot 5)) u N P) else va_up us s (k_copy (us s) u N P)
set_option maxRecDepth 100000 in
set_option maxHeartbeats 4000000 in
theorem X_dropOldest_lp {l : Launch} {G : tp_G} {x : Nat} {h9 : tp_H} {u : Nat → Int32} {π ρ : Nat → Nat} {us : Nat → Nat → Int32} {σ : Nat → Nat} {st len : Int32} {tx rd : Nat → Int32} (hl : l.stackTraces = false) (hT : kx_S G x h9 u π ρ us σ st len tx rd h9)  : ∀ d (i : Nat), 0 < i → i + d = 6 → tp_Run l G mX5_dropOldestState (tp_rm mX5_dropOldestState 0 0) (tp_QM G 0 0 (tp_PS (none) (fun h1 => kx_S G x h9 u π ρ (fun j => us (k_rot j)) (fun j => σ (k_rot j)) (nI 5) len tx rd h1)) tp_NX) 0 0 (h9.1, tp_up h9.2 (x + 43) (.inl (G.2.2.1 3, 6, .inr (.inr (.inr (.inr (kx_mv x σ i))))))) 9 [some (.ref x), some (.ref (x + 44 + 42 * σ 0)), some (.int (nI i))] [] := by
  intro d
  have hb : ∀ j, j < 6 → ∃ fs, h9.2 (x + 44 + 42 * σ j) = some (.inr (0, fs)) := fun j hj => by
    obtain ⟨π, ρ, hS⟩ := hT.sj hj
    exact ⟨_, hS.ob⟩
  induction d with
  | zero =>
    intro i hi hd
    refine r_iload2 dX5_dropOldestState_9 ?_
    refine r_aload0 dX5_dropOldestState_10 ?_
    refine r_getf dX5_dropOldestState_11 f_X5_16 ((tp_up_n (by omega)).trans hT.ob) rfl ?_
    refine r_alen dX5_dropOldestState_14 (t := 3) (by decide) tp_up_s ?_
    refine r_icmp_ge (tgt := 38) dX5_dropOldestState_15 (by decide) (fun c15 => ?_) (fun c15 => ?_)
    · refine r_aload0 dX5_dropOldestState_38 ?_
      refine r_getf dX5_dropOldestState_39 f_X5_16 ((tp_up_n (by omega)).trans hT.ob) rfl ?_
      refine r_aload0 dX5_dropOldestState_42 ?_
      refine r_getf dX5_dropOldestState_43 f_X5_16 ((tp_up_n (by omega)).trans hT.ob) rfl ?_
      refine r_alen dX5_dropOldestState_46 (t := 3) (by decide) tp_up_s ?_
      refine r_iconst (v := 1) dX5_dropOldestState_47 (by decide) ?_
      refine r_isub dX5_dropOldestState_48 ?_
      refine r_aload1 dX5_dropOldestState_49 ?_
      refine r_aast dX5_dropOldestState_50 (t := 3) (by decide) tp_up_s ((tp_up_n (by have := hT.sp.1 0 (by omega); omega)).trans (hb 0 (by omega)).choose_spec) rfl (i := 5) (tp_m1 (N := 6) (by omega)) (by omega) (by decide) ?_
      rw [tp_up_up, show i = 6 by omega, kx_mv2]
      have hT := hT.one (e := .inl (G.2.2.1 3, 6, .inr (.inr (.inr (.inr (kx_s x (fun q => σ (k_rot q)))))))) (us' := fun j => us (k_rot j)) (σ' := fun j => σ (k_rot j)) (Or.inr (Or.inl rfl)) ((if_neg (by omega)).trans hT.ob) (if_pos rfl) ((if_neg (by omega)).trans hT.bu) (fun j hj => ⟨k_rot j, k_rot_lt hj, rfl, rfl⟩) ⟨fun j hj => hT.sp.1 _ (k_rot_lt hj), fun i j hi hj e => k_rot_inj hi hj (hT.sp.2 _ _ (k_rot_lt hi) (k_rot_lt hj) e)⟩
      refine r_aload0 dX5_dropOldestState_51 ?_
      refine r_aload0 dX5_dropOldestState_52 ?_
      refine r_getf dX5_dropOldestState_53 f_X5_16 (hT.ob) rfl ?_
      refine r_alen dX5_dropOldestState_56 (t := 3) (by decide) hT.sv ?_
      refine r_iconst (v := 1) dX5_dropOldestState_57 (by decide) ?_
      refine r_isub dX5_dropOldestState_58 ?_
      rw [show nI 6 - 1 = nI 5 from rfl]
      refine kx_put_savedStates dX5_dropOldestState_59 f_X5_217 hT (fun h1 hT => ?_)
      exact r_vret dX5_dropOldestState_62 rfl ⟨(Nat.le_of_ble_eq_true rfl), (Nat.le_of_ble_eq_true rfl)⟩ ⟨rfl, hT⟩
    · rw [tp_le (show 6 < 2 ^ 31 by decide) (by omega)] at c15; omega
  | succ d ih =>
    intro i hi hd
    refine r_iload2 dX5_dropOldestState_9 ?_
    refine r_aload0 dX5_dropOldestState_10 ?_
    refine r_getf dX5_dropOldestState_11 f_X5_16 ((tp_up_n (by omega)).trans hT.ob) rfl ?_
    refine r_alen dX5_dropOldestState_14 (t := 3) (by decide) tp_up_s ?_
    refine r_icmp_ge (tgt := 38) dX5_dropOldestState_15 (by decide) (fun c15 => ?_) (fun c15 => ?_)
    · rw [tp_le (show 6 < 2 ^ 31 by decide) (by omega)] at c15; omega
    · refine r_aload0 dX5_dropOldestState_18 ?_
      refine r_getf dX5_dropOldestState_19 f_X5_16 ((tp_up_n (by omega)).trans hT.ob) rfl ?_
      refine r_iload2 dX5_dropOldestState_22 ?_
      refine r_iconst (v := 1) dX5_dropOldestState_23 (by decide) ?_
      refine r_isub dX5_dropOldestState_24 ?_
      refine r_aload0 dX5_dropOldestState_25 ?_
      refine r_getf dX5_dropOldestState_26 f_X5_16 ((tp_up_n (by omega)).trans hT.ob) rfl ?_
      refine r_iload2 dX5_dropOldestState_29 ?_
      refine r_aald (t := 3) dX5_dropOldestState_30 (by decide) tp_up_s (i := i) rfl (by omega) (by decide) (show kx_mv x σ i i = some (x + 44 + 42 * σ i) from (if_neg (by omega)).trans (kx_s_at (by omega))) ?_
      refine r_aast dX5_dropOldestState_31 (t := 3) (by decide) tp_up_s ((tp_up_n (by have := hT.sp.1 i (by omega); omega)).trans (hb i (by omega)).choose_spec) rfl (i := i - 1) (tp_m1 (by omega)) (by omega) (by decide) ?_
      rw [tp_up_up, kx_mv1 hi (by omega)]
      refine r_iinc2 (v := nI (i + 1)) dX5_dropOldestState_32 (Nat.le_of_ble_eq_true rfl) rfl (tp_inc i) ?_
      exact r_goto (tgt := 9) dX5_dropOldestState_35 (by decide) (ih (i + 1) (by omega) (by omega))

set_option maxRecDepth 100000 in
set_option maxHeartbeats 4000000 in
theorem X_dropOldestState {l : Launch} {G : tp_G} {x : Nat} {h0 h : tp_H} {u : Nat → Int32} {π ρ : Nat → Nat} {us : Nat → Nat → Int32} {σ : Nat → Nat} {st len : Int32} {tx rd : Nat → Int32} (hl : l.stackTraces = false) (hT0 : kx_S G x h0 u π ρ us σ st len tx rd h)  : tp_Met l G mX5_dropOldestState 0 0 [.ref x] h (tp_PS (none) (fun h1 => kx_S G x h u π ρ (fun j => us (k_rot j)) (fun j => σ (k_rot j)) (nI 5) len tx rd h1)) tp_NX := by
  have hT := hT0.self
  refine tp_start (L0 := [some (.ref x), none, none]) (by decide) rfl hl (Nat.le_of_ble_eq_true rfl) rfl ?_
  refine r_aload0 dX5_dropOldestState_0 ?_
  refine r_getf dX5_dropOldestState_1 f_X5_16 (hT.ob) rfl ?_
  refine r_iconst (v := 0) dX5_dropOldestState_4 (by decide) ?_
  refine r_aald (t := 3) dX5_dropOldestState_5 (by decide) hT.sv (i := 0) rfl (by omega) (by decide) (kx_s_at (by omega)) ?_
  refine r_astore1 dX5_dropOldestState_6 (Nat.le_of_ble_eq_true rfl) rfl ?_
  refine r_iconst (v := 1) dX5_dropOldestState_7 (by decide) ?_
  refine r_istore2 dX5_dropOldestState_8 (Nat.le_of_ble_eq_true rfl) rfl ?_
  have q := X_dropOldest_lp hl hT 5 1 (by omega) (by omega)
  rw [kx_mv0, show (h.1, tp_up h.2 (x + 43) (.inl (G.2.2.1 3, 6, .inr (.inr (.inr (.inr (kx_s x σ))))))) = h from by
    refine Prod.ext rfl (funext fun a => ?_)
    show tp_up h.2 (x + 43) _ a = h.2 a
    by_cases e : a = x + 43
    · rw [e, tp_up_s, hT.sv]
    · exact tp_up_n e] at q
  exact q

set_option maxRecDepth 100000 in
set_option maxHeartbeats 4000000 in
theorem X_save2 {l : Launch} {G : tp_G} {x : Nat} {h9 h1 : tp_H} {u : Nat → Int32} {π ρ : Nat → Nat} {us : Nat → Nat → Int32} {σ : Nat → Nat} {len : Int32} {tx rd : Nat → Int32} {s N P : Nat} (hl : l.stackTraces = false) (hT : kx_S G x h9 u π ρ us σ (nI s) len tx rd h1) (hs5 : s ≤ 5) (hu8 : u 8 = nI N) (hN : N ≤ 8) (hu9 : u 9 = nI P) (hP9 : P ≤ 12) : tp_Run l G mX5_saveState (tp_rm mX5_saveState 0 0) (tp_QM G 0 0 (tp_PS (none) (fun h2 => ∃ σ1, kx_S G x h9 u π ρ (va_up us s (k_copy (us s) u N P)) σ1 (nI (s + 1)) len tx rd h2)) tp_NX) 0 0 h1 16 [some (.ref x)] [] := by
  have hB := hT.bk
  obtain ⟨π2, ρ2, hS⟩ := hT.sj (j := s) (by omega)
  refine r_aload0 dX5_saveState_16 ?_
  refine r_getf dX5_saveState_17 f_X5_16 (hT.ob) rfl ?_
  refine r_aload0 dX5_saveState_20 ?_
  refine r_getf dX5_saveState_21 f_X5_217 (hT.ob) rfl ?_
  refine r_aald (t := 3) dX5_saveState_24 (by decide) hT.sv (i := s) rfl (by omega) (by decide) (kx_s_at (by omega)) ?_
  refine r_aload0 dX5_saveState_25 ?_
  refine r_getf dX5_saveState_26 f_X5_10 (hT.ob) rfl ?_
  refine r_sV0 dX5_saveState_29 v_X5_222 (K_copyFrom hl hS hB.1 (by have := hT.sp.1 s (by omega); omega) hu8 hN hu9 hP9) rfl (hS.ob) rfl rfl rfl (Nat.le_of_ble_eq_true rfl) ⟨(Nat.le_of_ble_eq_true rfl), (Nat.le_of_ble_eq_true rfl)⟩ ⟨(Nat.le_of_ble_eq_true rfl), (Nat.le_of_ble_eq_true rfl)⟩ (fun h1 hP => ?_)
  have hT := (hT.trans (hT.self.svTo (by omega) hP))
  refine r_aload0 dX5_saveState_32 ?_
  refine r_dup dX5_saveState_33 rfl ?_
  refine r_getf dX5_saveState_34 f_X5_217 (hT.ob) rfl ?_
  refine r_iconst (v := 1) dX5_saveState_37 (by decide) ?_
  refine r_iadd dX5_saveState_38 ?_
  rw [tp_1]
  refine kx_put_savedStates dX5_saveState_39 f_X5_217 hT (fun h1 hT => ?_)
  exact r_vret dX5_saveState_42 rfl ⟨(Nat.le_of_ble_eq_true rfl), (Nat.le_of_ble_eq_true rfl)⟩ ⟨rfl, σ, hT⟩

theorem kx_us6 {us : Nat → Nat → Int32} {u : Nat → Int32} {N P : Nat} : kx_us us 6 u N P = va_up (fun j => us (k_rot j)) 5 (k_copy (us (k_rot 5)) u N P) := if_pos rfl
theorem kx_us5 {us : Nat → Nat → Int32} {s : Nat} {u : Nat → Int32} {N P : Nat} (h : s ≤ 5) : kx_us us s u N P = va_up us s (k_copy (us s) u N P) := if_neg (by omega)
set_option maxRecDepth 100000 in
set_option maxHeartbeats 4000000 in
theorem X_saveState {l : Launch} {G : tp_G} {x : Nat} {h0 h : tp_H} {u : Nat → Int32} {π ρ : Nat → Nat} {us : Nat → Nat → Int32} {σ : Nat → Nat} {st len : Int32} {tx rd : Nat → Int32} (hl : l.stackTraces = false) (hT0 : kx_S G x h0 u π ρ us σ st len tx rd h) {s N P : Nat} (hst : st = nI s) (hs6 : s ≤ 6) (hu8 : u 8 = nI N) (hN : N ≤ 8) (hu9 : u 9 = nI P) (hP9 : P ≤ 12) : tp_Met l G mX5_saveState 0 0 [.ref x] h (tp_PS (none) (fun h1 => ∃ σ1, kx_S G x h u π ρ (kx_us us s u N P) σ1 (nI (z_saveN s)) len tx rd h1)) tp_NX := by
  have hT := hT0.self
  refine tp_start (L0 := [some (.ref x)]) (by decide) rfl hl (Nat.le_of_ble_eq_true rfl) rfl ?_
  refine r_aload0 dX5_saveState_0 ?_
  refine r_getf dX5_saveState_1 f_X5_217 (hT.ob) rfl ?_
  refine r_aload0 dX5_saveState_4 ?_
  refine r_getf dX5_saveState_5 f_X5_16 (hT.ob) rfl ?_
  refine r_alen dX5_saveState_8 (t := 3) (by decide) hT.sv ?_
  refine r_icmp_lt (tgt := 16) dX5_saveState_9 (by decide) (fun c9 => ?_) (fun c9 => ?_)
  · rw [hst, tp_lt (by omega) (show 6 < 2 ^ 31 by decide)] at c9
    rw [kx_us5 (show s ≤ 5 by omega), show z_saveN s = s + 1 from if_neg (by omega)]
    rw [hst] at hT
    exact X_save2 hl hT (by omega) hu8 hN hu9 hP9
  · rw [hst, tp_lt (by omega) (show 6 < 2 ^ 31 by decide)] at c9
    have e6 : s = 6 := by omega
    rw [e6, kx_us6, show z_saveN 6 = 5 + 1 from rfl]
    refine r_aload0 dX5_saveState_12 ?_
    refine r_sV0 dX5_saveState_13 v_X5_341 (X_dropOldestState hl hT) rfl (hT.ob) rfl rfl rfl (Nat.le_of_ble_eq_true rfl) ⟨(Nat.le_of_ble_eq_true rfl), (Nat.le_of_ble_eq_true rfl)⟩ ⟨(Nat.le_of_ble_eq_true rfl), (Nat.le_of_ble_eq_true rfl)⟩ (fun h1 hP => ?_)
    have hT := hT.trans hP
    exact X_save2 (us := fun j => us (k_rot j)) hl hT (by omega) hu8 hN hu9 hP9

