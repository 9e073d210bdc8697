/-! A CALL OF A STATIC METHOD THAT CATCHES ALL -/
theorem vx_noX {l : Launch} {y : MethodName} {ws : List Cond} {rm : Room} {Pc : Array Value → State → Prop} {Qc : Array Value → State → Outcome → State → Prop} {XC : String → State → State → Prop} {mc ms : Nat} {free : Addr → Prop} (h : vx_Met l y ws rm Pc Qc XC mc ms free) (hX : ∀ E st t, ¬ XC E st t) : Met l y ws rm Pc Qc mc ms free := by
  intro p e h1 h2 h3 s m args below h4 h5 h6 h7
  obtain ⟨n, o, a, b, c, hq⟩ := h p e h1 h2 h3 s m args below h4 h5 h6 h7
  refine ⟨n, o, a, b, c, ?_⟩
  rcases hq with hq | ⟨q, -, E, ce, L, hx, -⟩
  · exact hq
  · exact (hX _ _ _ hx).elim
theorem tp_Met.imp {l : Launch} {G : tp_G} {M : tp_M} {mc ms : Nat} {As : List Value} {h : tp_H} {Post Post' : Option Value → tp_H → Prop} {PX : String → tp_H → Prop} (hM : tp_Met l G M mc ms As h Post PX) (hp : ∀ r h1, Post r h1 → Post' r h1) : tp_Met l G M mc ms As h Post' PX := by
  intro p e h1 h2 h3 s m args below h4 h5 h6 h7
  obtain ⟨n, o, a, b, c, hq⟩ := hM p e h1 h2 h3 s m args below h4 h5 h6 h7
  refine ⟨n, o, a, b, c, ?_⟩
  rcases hq with ⟨⟨⟨r, h8, q1, q2, q3⟩, q4⟩, q5⟩ | hq
  · exact Or.inl ⟨⟨⟨r, h8, q1, hp r h8 q2, q3⟩, q4⟩, q5⟩
  · exact Or.inr hq
section CSW
variable {l : Launch} {G : tp_G} {M : tp_M} {R : Room} {Q : tp_Q} {k n : Nat} {h : tp_H} {pc : Nat} {L : List (Option Value)} {st : List Value}
theorem r_callSW {M' : tp_M} {ix nA mc' ms' : Nat} {As rest : List Value} {Post' : Option Value → tp_H → Prop} {x : Nat × Nat × Nat × Nat} {xs : List (Nat × Nat × Nat × Nat)} (hd : decode M.2.1 pc = .ok (.invokestatic ix, 3)) (hc : tp_CS M.1.cls ix M' nA) (hM : tp_Met l G M' mc' ms' As h Post' tp_NX) (hh : M'.2.2.2.2.2.2 = x :: xs) (hn : As.length = nA) (hst : st = As.reverse ++ rest) (hcat : (rest.map fun v => v.category).sum ≤ 8) (hrm : tp_RM R M') (hk : k + mc' ≤ R.cells ∧ n + ms' ≤ R.slots)
    (kk : ∀ (r : Option Value) (h' : tp_H), Post' r h' → tp_Run l G M R Q (k + mc') (n + ms') h' (pc + 3) L (r.toList ++ rest)) : tp_Run l G M R Q k n h pc L st := by
  subst hst
  intro p e s m args below meth c A H locs ls hR hS hl
  obtain ⟨⟨c1, c2, c3, c4, c5⟩, c6⟩ := hc
  have hcw : tp_cw M' = .codeWith M'.1 M'.2.1 M'.2.2.1 M'.2.2.2.1 M'.2.2.2.2.2.2 := by unfold tp_cw; rw [hh]
  have hT : GoodIn tp_all (va_wsS M.1.cls ix M'.1 (tp_ws M')) := tp_allIn (by
    intro w hw
    simp only [va_wsS, tp_ws, List.mem_append, List.mem_cons, List.not_mem_nil, or_false] at hw
    rcases hw with hw | hw | hw
    · rcases hw with rfl | rfl | rfl
      · exact c1
      · exact c6
      · exact c3
    · subst hw; exact c2
    · exact hw)
  have cw := vx_cwSW (R := R) (own := M.1.cls) (index := ix) (y := M'.1) (bytes := M'.2.1) (maxL := M'.2.2.1) (ret := M'.2.2.2.1) (hh := M'.2.2.2.2.2.2) (Ts := tp_all) (ws := tp_ws M') (ws' := tp_all) (rm := tp_rm M' mc' ms') (mc := mc') (ms := ms') nA A.hts hT (by unfold tp_ws; rw [hcw]) rfl rfl ⟨c4.1, c4.2, c5⟩ hrm
  have hr := vx_runSW (As := As) (rest := rest) (H := H) (locs := locs) (cells := k) (slots := n) (l := l) (e := e) (R := R) (below := below) (meth := meth) (g := F0 m pc ls (As.reverse ++ rest)) ⟨A.hx, A.hb, A.hml, A.hown, A.hts⟩ (vx_noX hM (fun E st t q => by obtain ⟨⟨_, q1, -⟩, -⟩ := q; exact q1)) cw ⟨tp_Kcall, tp_pre A hR hS⟩ rfl hn hl.1 rfl (lv_room hcat) hd hk
  intro T hT X
  obtain ⟨v, st₀, t, T', Ls, h0, X', hL, e1, e2, ⟨⟨r, h', hv, hp, hR'⟩, hF⟩, stp⟩ := hr T hT X
  cases hv
  obtain ⟨k1, k2, k3⟩ := vx_keep h0 e1 hS (fun q _ z => z) (fun q z => z) hL hF
  obtain ⟨t2, a1, b1⟩ := kk v h' hp p e s m args below meth c A T'.heap (locs ++ Ls) ls (by rw [e1]; exact hR') k3 hl T' rfl X'
  exact ⟨t2, stp t2 a1, b1⟩
end CSW
