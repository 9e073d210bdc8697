theorem z_hasH_mono {z : Nat → Int32} {w i : Nat} (h : z_hasH z w i = true) : ∀ n, i ≤ n → z_hasH z w n = true
  | 0, hn => by rw [show i = 0 by omega] at h; exact h
  | n + 1, hn => by
    by_cases e : i = n + 1
    · rw [← e]; exact h
    · show (_ || _) = true
      rw [z_hasH_mono h n (by omega)]; rfl
theorem z_hasD_mono {z : Nat → Int32} {w i : Nat} (h : z_hasD z w i = true) : ∀ n, i ≤ n → z_hasD z w n = true
  | 0, hn => by rw [show i = 0 by omega] at h; exact h
  | n + 1, hn => by
    by_cases e : i = n + 1
    · rw [← e]; exact h
    · show (_ || _) = true
      rw [z_hasD_mono h n (by omega)]; rfl
theorem z_hasB_mono {z : Nat → Int32} {w i : Nat} (h : z_hasB z w i = true) : ∀ n, i ≤ n → z_hasB z w n = true
  | 0, hn => by rw [show i = 0 by omega] at h; exact h
  | n + 1, hn => by
    by_cases e : i = n + 1
    · rw [← e]; exact h
    · show (_ || _) = true
      rw [z_hasB_mono h n (by omega)]; rfl
theorem z_hasB_no {z : Nat → Int32} {w : Nat} : ∀ n, (∀ c, c < n → ¬ 0 < z (z_at w c + 1)) → z_hasB z w n = false
  | 0, _ => rfl
  | n + 1, h => by
    show (_ || _) = false
    rw [z_hasB_no n (fun c hc => h c (by omega)), decide_eq_false (h n (by omega))]; rfl
theorem k_why4 {u : Nat → Int32} {w N : Nat} (hu8 : u 8 = nI N) (hN : N ≤ 8) (h : z_hasH u w N = true) : z_whyClose u w = 4 := by
  unfold z_whyClose; rw [hu8, z_nI (by omega), if_pos h]
theorem k_why5 {u : Nat → Int32} {w N P : Nat} (hu8 : u 8 = nI N) (hN : N ≤ 8) (hu9 : u 9 = nI P) (hP9 : P ≤ 12) (h : z_hasH u w N = false) (h5 : z_hasD u w P = true) : z_whyClose u w = 5 := by
  unfold z_whyClose; rw [hu8, z_nI (by omega), if_neg (by rw [h]; decide), hu9, z_nI (by omega), if_pos h5]
theorem k_why6 {u : Nat → Int32} {w N P : Nat} (hu8 : u 8 = nI N) (hN : N ≤ 8) (hu9 : u 9 = nI P) (hP9 : P ≤ 12) (h : z_hasH u w N = false) (h5 : z_hasD u w P = false) (h6 : z_hasB u w 4 = true) : z_whyClose u w = 6 := by
  unfold z_whyClose; rw [hu8, z_nI (by omega), if_neg (by rw [h]; decide), hu9, z_nI (by omega), if_neg (by rw [h5]; decide), if_pos h6]
theorem k_why0 {u : Nat → Int32} {w N P : Nat} (hu8 : u 8 = nI N) (hN : N ≤ 8) (hu9 : u 9 = nI P) (hP9 : P ≤ 12) (h : z_hasH u w N = false) (h5 : z_hasD u w P = false) (h6 : z_hasB u w 4 = false) : z_whyClose u w = 0 := by
  unfold z_whyClose; rw [hu8, z_nI (by omega), if_neg (by rw [h]; decide), hu9, z_nI (by omega), if_neg (by rw [h5]; decide), if_neg (by rw [h6]; decide)]
set_option maxRecDepth 100000 in
set_option maxHeartbeats 4000000 in
theorem K_clo1 {l : Launch} {G : tp_G} {b : Nat} {h : tp_H} {u : Nat → Int32} {π ρ : Nat → Nat} (hl : l.stackTraces = false) (hT : kb_S G b h u π ρ h) {w N P : Nat} (hw : w < 4) (hu8 : u 8 = nI N) (hN : N ≤ 8) (hu9 : u 9 = nI P) (hP9 : P ≤ 12)  : ∀ d (i : Nat), z_hasH u w i = false → i + d = N → (z_hasH u w N = false → tp_Run l G mX0_closingReason (tp_rm mX0_closingReason 0 0) (tp_QM G 0 0 (tp_PR (.int (z_whyClose u w)) h) tp_NX) 0 0 h 31 [some (.ref b), some (.int (nI w)), none] []) → tp_Run l G mX0_closingReason (tp_rm mX0_closingReason 0 0) (tp_QM G 0 0 (tp_PR (.int (z_whyClose u w)) h) tp_NX) 0 0 h 2 [some (.ref b), some (.int (nI w)), some (.int (nI i))] [] := by
  intro d
  induction d with
  | zero =>
    intro i hq hd kk
    refine r_iload2 dX0_closingReason_2 ?_
    refine r_aload0 dX0_closingReason_3 ?_
    refine r_getf dX0_closingReason_4 f_X0_66 (hT.ob) rfl ?_
    refine r_icmp_ge (tgt := 31) dX0_closingReason_7 (by decide) (fun c7 => ?_) (fun c7 => ?_)
    · exact r_fg2 (kk (by rw [show i = N by omega] at hq; exact hq))
    · rw [hu8, tp_le (by omega) (by omega)] at c7; omega
  | succ d ih =>
    intro i hq hd kk
    refine r_iload2 dX0_closingReason_2 ?_
    refine r_aload0 dX0_closingReason_3 ?_
    refine r_getf dX0_closingReason_4 f_X0_66 (hT.ob) rfl ?_
    refine r_icmp_ge (tgt := 31) dX0_closingReason_7 (by decide) (fun c7 => ?_) (fun c7 => ?_)
    · rw [hu8, tp_le (by omega) (by omega)] at c7; omega
    · refine r_aload0 dX0_closingReason_10 ?_
      refine r_getf dX0_closingReason_11 f_X0_37 (hT.ob) rfl ?_
      refine r_iload2 dX0_closingReason_14 ?_
      refine r_aald (t := 4) dX0_closingReason_15 (by decide) hT.hos (i := i) (rfl) (by omega) (by decide) (kFp_at (by omega)) ?_
      refine r_getf dX0_closingReason_16 f_X0_160 (hT.ho (j := i) (by omega)) rfl ?_
      refine r_iload1 dX0_closingReason_19 ?_
      refine r_icmp_ne (tgt := 25) dX0_closingReason_20 (by decide) (fun c20 => ?_) (fun c20 => ?_)
      · refine r_iinc2 (v := nI (i + 1)) dX0_closingReason_25 (Nat.le_of_ble_eq_true rfl) rfl (tp_inc i) ?_
        exact r_goto (tgt := 2) dX0_closingReason_28 (by decide) (ih (i + 1) (by show (_ || _) = false; rw [hq, decide_eq_false c20]; rfl) (by omega) kk)
      · refine r_iconst (v := 4) dX0_closingReason_23 (by decide) ?_
        exact r_iret dX0_closingReason_24 rfl ⟨(Nat.le_of_ble_eq_true rfl), (Nat.le_of_ble_eq_true rfl)⟩ ⟨by rw [k_why4 hu8 hN (z_hasH_mono (i := i + 1) (by show (_ || _) = true; rw [decide_eq_true (by first | exact c20 | exact Classical.not_not.mp c20)]; simp) N (by omega))], rfl⟩

set_option maxRecDepth 100000 in
set_option maxHeartbeats 4000000 in
theorem K_clo2 {l : Launch} {G : tp_G} {b : Nat} {h : tp_H} {u : Nat → Int32} {π ρ : Nat → Nat} (hl : l.stackTraces = false) (hT : kb_S G b h u π ρ h) {w N P : Nat} (hw : w < 4) (hu8 : u 8 = nI N) (hN : N ≤ 8) (hu9 : u 9 = nI P) (hP9 : P ≤ 12) (h4 : z_hasH u w N = false) : ∀ d (i : Nat), z_hasD u w i = false → i + d = P → (z_hasD u w P = false → tp_Run l G mX0_closingReason (tp_rm mX0_closingReason 0 0) (tp_QM G 0 0 (tp_PR (.int (z_whyClose u w)) h) tp_NX) 0 0 h 75 [some (.ref b), some (.int (nI w)), none] []) → tp_Run l G mX0_closingReason (tp_rm mX0_closingReason 0 0) (tp_QM G 0 0 (tp_PR (.int (z_whyClose u w)) h) tp_NX) 0 0 h 33 [some (.ref b), some (.int (nI w)), some (.int (nI i))] [] := by
  intro d
  induction d with
  | zero =>
    intro i hq hd kk
    refine r_iload2 dX0_closingReason_33 ?_
    refine r_aload0 dX0_closingReason_34 ?_
    refine r_getf dX0_closingReason_35 f_X0_72 (hT.ob) rfl ?_
    refine r_icmp_ge (tgt := 75) dX0_closingReason_38 (by decide) (fun c38 => ?_) (fun c38 => ?_)
    · exact r_fg2 (kk (by rw [show i = P by omega] at hq; exact hq))
    · rw [hu9, tp_le (by omega) (by omega)] at c38; omega
  | succ d ih =>
    intro i hq hd kk
    refine r_iload2 dX0_closingReason_33 ?_
    refine r_aload0 dX0_closingReason_34 ?_
    refine r_getf dX0_closingReason_35 f_X0_72 (hT.ob) rfl ?_
    refine r_icmp_ge (tgt := 75) dX0_closingReason_38 (by decide) (fun c38 => ?_) (fun c38 => ?_)
    · rw [hu9, tp_le (by omega) (by omega)] at c38; omega
    · refine r_aload0 dX0_closingReason_41 ?_
      refine r_getf dX0_closingReason_42 f_X0_43 (hT.ob) rfl ?_
      refine r_iload2 dX0_closingReason_45 ?_
      refine r_aald (t := 5) dX0_closingReason_46 (by decide) hT.pas (i := i) (rfl) (by omega) (by decide) (kF_at (by omega)) ?_
      refine r_getf dX0_closingReason_47 f_X0_163 (hT.pa (j := i) (by omega)) rfl ?_
      refine r_iload1 dX0_closingReason_50 ?_
      refine r_icmp_ne (tgt := 69) dX0_closingReason_51 (by decide) (fun c51 => ?_) (fun c51 => ?_)
      · refine r_iinc2 (v := nI (i + 1)) dX0_closingReason_69 (Nat.le_of_ble_eq_true rfl) rfl (tp_inc i) ?_
        exact r_goto (tgt := 33) dX0_closingReason_72 (by decide) (ih (i + 1) (by show (_ || _) = false; rw [hq]; first | (rw [decide_eq_false (fun q => c51 q.1)]; rfl) | (rw [decide_eq_false (fun q => c64 q.2)]; rfl)) (by omega) kk)
      · refine r_aload0 dX0_closingReason_54 ?_
        refine r_getf dX0_closingReason_55 f_X0_43 (hT.ob) rfl ?_
        refine r_iload2 dX0_closingReason_58 ?_
        refine r_aald (t := 5) dX0_closingReason_59 (by decide) hT.pas (i := i) (rfl) (by omega) (by decide) (kF_at (by omega)) ?_
        refine r_getf dX0_closingReason_60 f_X0_164 (hT.pa (j := i) (by omega)) rfl ?_
        refine r_iconst (v := 1) dX0_closingReason_63 (by decide) ?_
        refine r_icmp_ne (tgt := 69) dX0_closingReason_64 (by decide) (fun c64 => ?_) (fun c64 => ?_)
        · refine r_iinc2 (v := nI (i + 1)) dX0_closingReason_69 (Nat.le_of_ble_eq_true rfl) rfl (tp_inc i) ?_
          exact r_goto (tgt := 33) dX0_closingReason_72 (by decide) (ih (i + 1) (by show (_ || _) = false; rw [hq]; first | (rw [decide_eq_false (fun q => c51 q.1)]; rfl) | (rw [decide_eq_false (fun q => c64 q.2)]; rfl)) (by omega) kk)
        · refine r_iconst (v := 5) dX0_closingReason_67 (by decide) ?_
          exact r_iret dX0_closingReason_68 rfl ⟨(Nat.le_of_ble_eq_true rfl), (Nat.le_of_ble_eq_true rfl)⟩ ⟨by rw [k_why5 hu8 hN hu9 hP9 h4 (z_hasD_mono (i := i + 1) (by show (_ || _) = true; rw [decide_eq_true ⟨by first | exact c51 | exact Classical.not_not.mp c51, by first | exact c64 | exact Classical.not_not.mp c64⟩]; simp) P (by omega))], rfl⟩

set_option maxRecDepth 100000 in
set_option maxHeartbeats 4000000 in
theorem K_clo3 {l : Launch} {G : tp_G} {b : Nat} {h : tp_H} {u : Nat → Int32} {π ρ : Nat → Nat} (hl : l.stackTraces = false) (hT : kb_S G b h u π ρ h) {w N P : Nat} (hw : w < 4) (hu8 : u 8 = nI N) (hN : N ≤ 8) (hu9 : u 9 = nI P) (hP9 : P ≤ 12) (h4 : z_hasH u w N = false) (h5 : z_hasD u w P = false) : ∀ d (i : Nat), (∀ c, c < 4 → 4 * w + c < i → ¬ 0 < u (z_at w c + 1)) → i + d = 16 → tp_Run l G mX0_closingReason (tp_rm mX0_closingReason 0 0) (tp_QM G 0 0 (tp_PR (.int (z_whyClose u w)) h) tp_NX) 0 0 h 77 [some (.ref b), some (.int (nI w)), some (.int (nI i))] [] := by
  intro d
  induction d with
  | zero =>
    intro i hq hd
    refine r_iload2 dX0_closingReason_77 ?_
    refine r_aload0 dX0_closingReason_78 ?_
    refine r_getf dX0_closingReason_79 f_X0_31 (hT.ob) rfl ?_
    refine r_alen dX0_closingReason_82 (t := 6) (by decide) hT.pus ?_
    refine r_icmp_ge (tgt := 120) dX0_closingReason_83 (by decide) (fun c83 => ?_) (fun c83 => ?_)
    · refine r_iconst (v := 0) dX0_closingReason_120 (by decide) ?_
      exact r_iret dX0_closingReason_121 rfl ⟨(Nat.le_of_ble_eq_true rfl), (Nat.le_of_ble_eq_true rfl)⟩ ⟨by rw [k_why0 hu8 hN hu9 hP9 h4 h5 (z_hasB_no 4 (fun c hc => hq c hc (by omega)))], rfl⟩
    · rw [tp_le (show 16 < 2 ^ 31 by decide) (by omega)] at c83; omega
  | succ d ih =>
    intro i hq hd
    refine r_iload2 dX0_closingReason_77 ?_
    refine r_aload0 dX0_closingReason_78 ?_
    refine r_getf dX0_closingReason_79 f_X0_31 (hT.ob) rfl ?_
    refine r_alen dX0_closingReason_82 (t := 6) (by decide) hT.pus ?_
    refine r_icmp_ge (tgt := 120) dX0_closingReason_83 (by decide) (fun c83 => ?_) (fun c83 => ?_)
    · rw [tp_le (show 16 < 2 ^ 31 by decide) (by omega)] at c83; omega
    · refine r_aload0 dX0_closingReason_86 ?_
      refine r_getf dX0_closingReason_87 f_X0_31 (hT.ob) rfl ?_
      refine r_iload2 dX0_closingReason_90 ?_
      refine r_aald (t := 6) dX0_closingReason_91 (by decide) hT.pus (i := i) (rfl) (by omega) (by decide) (kF_pu (by omega)) ?_
      refine r_getf dX0_closingReason_92 f_X0_167 (hT.pu (w := i / 4) (c := i % 4) (by omega) (by omega)) rfl ?_
      refine r_iload1 dX0_closingReason_95 ?_
      refine r_icmp_ne (tgt := 114) dX0_closingReason_96 (by decide) (fun c96 => ?_) (fun c96 => ?_)
      · have q96 : ¬ i / 4 = w := by
          have q := tp_eq (show i / 4 < 2 ^ 31 by omega) (show w < 2 ^ 31 by omega)
          first | exact q.mp c96 | exact q.mp (Classical.not_not.mp c96) | exact fun z => c96 (q.mpr z)
        refine r_iinc2 (v := nI (i + 1)) dX0_closingReason_114 (Nat.le_of_ble_eq_true rfl) rfl (tp_inc i) ?_
        exact r_goto (tgt := 77) dX0_closingReason_117 (by decide) (ih (i + 1) (fun c hc hci => by
          by_cases e : 4 * w + c < i
          · exact hq c hc e
          · first | (exact absurd (show i / 4 = w by omega) q96) | (rw [show i / 4 = w by omega, show i % 4 = c by omega] at c108; exact Int32.not_lt.mpr c108)) (by omega))
      · have q96 : i / 4 = w := by
          have q := tp_eq (show i / 4 < 2 ^ 31 by omega) (show w < 2 ^ 31 by omega)
          first | exact q.mp c96 | exact q.mp (Classical.not_not.mp c96) | exact fun z => c96 (q.mpr z)
        refine r_aload0 dX0_closingReason_99 ?_
        refine r_getf dX0_closingReason_100 f_X0_31 (hT.ob) rfl ?_
        refine r_iload2 dX0_closingReason_103 ?_
        refine r_aald (t := 6) dX0_closingReason_104 (by decide) hT.pus (i := i) (rfl) (by omega) (by decide) (kF_pu (by omega)) ?_
        refine r_getf dX0_closingReason_105 f_X0_96 (hT.pu (w := i / 4) (c := i % 4) (by omega) (by omega)) rfl ?_
        refine r_if_le (tgt := 114) dX0_closingReason_108 (by decide) (fun c108 => ?_) (fun c108 => ?_)
        · refine r_iinc2 (v := nI (i + 1)) dX0_closingReason_114 (Nat.le_of_ble_eq_true rfl) rfl (tp_inc i) ?_
          exact r_goto (tgt := 77) dX0_closingReason_117 (by decide) (ih (i + 1) (fun c hc hci => by
            by_cases e : 4 * w + c < i
            · exact hq c hc e
            · first | (exact absurd (show i / 4 = w by omega) q96) | (rw [show i / 4 = w by omega, show i % 4 = c by omega] at c108; exact Int32.not_lt.mpr c108)) (by omega))
        · refine r_bipush (v := 6) dX0_closingReason_111 (by decide) ?_
          exact r_iret dX0_closingReason_113 rfl ⟨(Nat.le_of_ble_eq_true rfl), (Nat.le_of_ble_eq_true rfl)⟩ ⟨by rw [k_why6 hu8 hN hu9 hP9 h4 h5 (z_hasB_mono (i := i % 4 + 1) (by show (_ || _) = true; rw [q96] at c108; rw [decide_eq_true (Int32.not_le.mp c108)]; simp) 4 (by omega))], rfl⟩

set_option maxRecDepth 100000 in
set_option maxHeartbeats 4000000 in
theorem K_closingReason {l : Launch} {G : tp_G} {b : Nat} {h0 h : tp_H} {u : Nat → Int32} {π ρ : Nat → Nat} (hl : l.stackTraces = false) (hT0 : kb_S G b h0 u π ρ h) {w N P : Nat} (hw : w < 4) (hu8 : u 8 = nI N) (hN : N ≤ 8) (hu9 : u 9 = nI P) (hP9 : P ≤ 12) : tp_Met l G mX0_closingReason 0 0 [.ref b, .int (nI w)] h (tp_PR (.int (z_whyClose u w)) h) tp_NX := by
  have hT := hT0.self
  refine tp_start (L0 := [some (.ref b), some (.int (nI w)), none]) (by decide) rfl hl (Nat.le_of_ble_eq_true rfl) rfl ?_
  refine r_iconst (v := 0) dX0_closingReason_0 (by decide) ?_
  refine r_istore2 dX0_closingReason_1 (Nat.le_of_ble_eq_true rfl) rfl ?_
  refine K_clo1 hl hT hw hu8 hN hu9 hP9 N 0 rfl (by omega) (fun h4 => ?_)
  refine r_iconst (v := 0) dX0_closingReason_31 (by decide) ?_
  refine r_istore2 dX0_closingReason_32 (Nat.le_of_ble_eq_true rfl) rfl ?_
  refine K_clo2 hl hT hw hu8 hN hu9 hP9 h4 P 0 rfl (by omega) (fun h5 => ?_)
  refine r_iconst (v := 0) dX0_closingReason_75 (by decide) ?_
  refine r_istore2 dX0_closingReason_76 (Nat.le_of_ble_eq_true rfl) rfl ?_
  exact K_clo3 hl hT hw hu8 hN hu9 hP9 h4 h5 16 0 (fun c _ hc => absurd hc (by omega)) (by omega)

