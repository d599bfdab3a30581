/-! What is left alone stays so -/
section Z24
variable {N ca cb cs d c W P D : Nat} {hi hi2 : zq_I} {hl hl2 : zq_J} {Q : Option Value → zq_G → Prop}
theorem sm_st_fr {a ms mp M T : Nat} (h : sm_st hi a ms mp M T) (e1 : ∀ r, r < M → hi2 (a + 2 * r) 1 = hi (a + 2 * r) 1 ∧ hi2 (a + 1 + 2 * r) = hi (a + 1 + 2 * r)) (e2 : hi2 ms = hi ms) (e3 : hi2 mp = hi mp) : sm_st hi2 a ms mp M T := by
  intro r hr
  rw [(e1 r hr).1, (e1 r hr).2, e2, e3]
  exact h r hr
theorem zm_tr_fr (e : hi2 69 = hi 69) (e2 : hi2 70 = hi 70) : zm_tr hi2 = zm_tr hi := by
  funext w
  unfold zm_tr
  rw [e, e2]
theorem sm_ct_fr (h : sm_ct hi c W P) (e0 : ∀ a, (c ≤ a ∧ a ≤ c + 8) ∨ (67 ≤ a ∧ a ≤ 71) → hi2 a = hi a) (e1 : hi2 60 10 = hi 60 10 ∧ hi2 60 11 = hi 60 11 ∧ hi2 60 12 = hi 60 12) : sm_ct hi2 c W P := by
  unfold sm_ct zm_rest zm_needs at h ⊢
  rw [zm_tr_fr (e0 69 (by omega)) (e0 70 (by omega)), e0 c (by omega), e0 (c + 1) (by omega), e0 (c + 2) (by omega), e0 (c + 3) (by omega), e0 (c + 4) (by omega), e0 (c + 5) (by omega), e0 (c + 6) (by omega), e0 (c + 7) (by omega), e0 (c + 8) (by omega), e0 67 (by omega), e0 68 (by omega), e0 69 (by omega), e0 70 (by omega), e0 71 (by omega), e1.1, e1.2.1, e1.2.2]
  exact h
theorem sm_dd_fr (h : sm_dd hi W D) (e0 : ∀ a, (24 ≤ a ∧ a ≤ 34) ∨ (69 ≤ a ∧ a ≤ 70) ∨ (74 ≤ a ∧ a ≤ 78) → hi2 a = hi a) (e1 : hi2 60 25 = hi 60 25 ∧ hi2 60 26 = hi 60 26 ∧ hi2 60 27 = hi 60 27 ∧ hi2 60 30 = hi 60 30) : sm_dd hi2 W D := by
  unfold sm_dd sm_note at h ⊢
  rw [zm_tr_fr (e0 69 (by omega)) (e0 70 (by omega)), e0 30 (by omega), e0 31 (by omega), e0 32 (by omega), e0 33 (by omega), e0 34 (by omega), e0 74 (by omega), e0 75 (by omega), e0 76 (by omega), e0 77 (by omega), e0 78 (by omega), e1.1, e1.2.1, e1.2.2.1, e1.2.2.2]
  refine ⟨h.1, h.2.1, h.2.2.1, h.2.2.2.1, h.2.2.2.2.1, fun k hk => ?_⟩
  rw [e0 (24 + 2 * k) (by omega), e0 (25 + 2 * k) (by omega)]
  exact h.2.2.2.2.2 k hk
theorem Sim.court (h : Sim hi hl ca cb cs W P D) : ca = 36 ∨ ca = 45 := by
  rcases h.1 with q | q
  · exact Or.inl q.1
  · exact Or.inr q.1
theorem Sim.fr (h : Sim hi hl ca cb cs W P D) (e : ∀ a, a ≠ 0 → a ≠ 60 → a ≠ 35 → a ≠ 61 → hi2 a = hi a) (e1 : hi2 60 10 = hi 60 10 ∧ hi2 60 11 = hi 60 11 ∧ hi2 60 12 = hi 60 12) (e2 : hi2 60 25 = hi 60 25 ∧ hi2 60 26 = hi 60 26 ∧ hi2 60 27 = hi 60 27 ∧ hi2 60 30 = hi 60 30) (ht : sm_tl hi2 hl2) : Sim hi2 hl2 ca cb cs W P D := by
  have hcc := h.court
  obtain ⟨h1, h2, h3, h4, h5, h6, h7⟩ := h
  refine ⟨h1, h2, ht, sm_st_fr h4 (fun r hr => ⟨by rw [e (2 + 2 * r) (by omega) (by omega) (by omega) (by omega)], e _ (by omega) (by omega) (by omega) (by omega)⟩) (e _ (by omega) (by omega) (by omega) (by omega)) (e _ (by omega) (by omega) (by omega) (by omega)), sm_st_fr h5 (fun r hr => ⟨by rw [e (15 + 2 * r) (by omega) (by omega) (by omega) (by omega)], e _ (by omega) (by omega) (by omega) (by omega)⟩) (e _ (by omega) (by omega) (by omega) (by omega)) (e _ (by omega) (by omega) (by omega) (by omega)), sm_ct_fr h6 (fun a ha => e a (by omega) (by omega) (by omega) (by omega)) e1, sm_dd_fr h7 (fun a ha => e a (by omega) (by omega) (by omega) (by omega)) e2⟩
/-- asked, on both sides -/
theorem Sim.ask (h : Sim hi hl ca cb cs W P D) (v : Int32) : Sim (zq_u (zq_u hi 0 9 v) 60 2 v) hl ca cb cs W P D := by
  refine h.fr (fun a h0 h1 h2 h3 => by rw [zq_u_ne h1, zq_u_ne h0]) (by simp [zq_u]) (by simp [zq_u]) ?_
  obtain ⟨-, -, ⟨t1, t2, t3, t4, t5⟩, -⟩ := h
  exact ⟨by simp [zq_u], t2, t3, by simp [zq_u, t4], fun f hf => by simp [zq_u, t5 f hf]⟩
/-- a finding, on both sides -/
def cf (hi : zq_I) (f : Nat) : zq_I := zq_u (zq_u hi 0 12 (nI f)) 35 f (hi 35 f + 1)
def mf (hi : zq_I) (f : Nat) : zq_I := zq_u (zq_u hi 60 0 (nI f)) 61 f (hi 61 f + 1)
theorem Sim.meet (h : Sim hi hl ca cb cs W P D) {f : Nat} (hf : f < 6) : Sim (mf (cf hi f) f) hl ca cb cs W P D := by
  unfold mf cf
  refine h.fr (fun a h0 h1 h2 h3 => by rw [zq_u_ne h3, zq_u_ne h1, zq_u_ne h2, zq_u_ne h0]) (by simp [zq_u]) (by simp [zq_u]) ?_
  obtain ⟨-, -, ⟨t1, t2, t3, t4, t5⟩, -⟩ := h
  refine ⟨by simp [zq_u, t1], t2, t3, by simp [zq_u], fun k hk => ?_⟩
  by_cases e : k = f
  · subst e
    simp [zq_u, t5 k hk]
  · simp [zq_u, e, t5 k hk]
theorem k_EF_found {f : Nat} (hf : f < 6) : zq_P d 13 0 [.ref 0, .int (nI f)] [] (zq_SG N, hi, hl, zq_HR ca cb cs) Q = Q (some (.int (-3))) (zq_SG N, cf hi f, hl, zq_HR ca cb cs) := by
  have h1 : zq_xS (nI f) 6 := zb_x (by omega) (by omega)
  have h2 : (nI f).toNatClampNeg = f := zb_cl (by omega)
  simp only [zr13_0, zr13_1, zr13_2, zr13_5, zr13_6, zr13_9, zr13_10, zr13_11, zr13_12, zr13_13, zr13_14, zr13_15, zr13_17, zs_x0 N, zh_x0 ca cb cs, h1, h2, zq_kill_int, zq_kill_ref, zq_kill_ret, zq_kill_null, zq_kill_long, zq_rf_some, zq_rf_none, true_and, and_true, true_implies, not_true_eq_false, not_false_eq_true, false_implies, Bool.true_eq_false, Bool.false_eq_true, nI_1, zb_i0, zb_i1, zb_i2, Option.toList_some, Option.toList_none, List.cons_append, List.nil_append, true_or, or_true, implies_true]
  simp [cf, zq_u]
theorem k_M_meet {f : Nat} (hf : f < 6) : zq_P d 113 0 [.ref 60, .int (nI f)] [] (zq_SG N, hi, hl, zq_HR ca cb cs) Q = Q (some (.int (-3))) (zq_SG N, mf hi f, hl, zq_HR ca cb cs) := by
  have h1 : zq_xS (nI f) 6 := zb_x (by omega) (by omega)
  have h2 : (nI f).toNatClampNeg = f := zb_cl (by omega)
  simp only [zr113_0, zr113_1, zr113_2, zr113_5, zr113_6, zr113_9, zr113_10, zr113_11, zr113_12, zr113_13, zr113_14, zr113_15, zr113_17, zs_m0 N, zs_m1 N, zs_m2 N, zh_m0 ca cb cs, h1, h2, zq_kill_int, zq_kill_ref, zq_kill_ret, zq_kill_null, zq_kill_long, zq_rf_some, zq_rf_none, true_and, and_true, true_implies, not_true_eq_false, not_false_eq_true, false_implies, Bool.true_eq_false, Bool.false_eq_true, nI_1, zb_i0, zb_i1, zb_i2, Option.toList_some, Option.toList_none, List.cons_append, List.nil_append, true_or, or_true, implies_true]
  simp [mf, zq_u]
theorem k_EF_found1 : zq_P d 13 0 [.ref 0, .int 1] [] (zq_SG N, hi, hl, zq_HR ca cb cs) Q = Q (some (.int (-3))) (zq_SG N, cf hi 1, hl, zq_HR ca cb cs) := k_EF_found (f := 1) (by decide)
theorem k_EF_found2 : zq_P d 13 0 [.ref 0, .int 2] [] (zq_SG N, hi, hl, zq_HR ca cb cs) Q = Q (some (.int (-3))) (zq_SG N, cf hi 2, hl, zq_HR ca cb cs) := k_EF_found (f := 2) (by decide)
theorem k_EF_found3 : zq_P d 13 0 [.ref 0, .int 3] [] (zq_SG N, hi, hl, zq_HR ca cb cs) Q = Q (some (.int (-3))) (zq_SG N, cf hi 3, hl, zq_HR ca cb cs) := k_EF_found (f := 3) (by decide)
theorem k_EF_found4 : zq_P d 13 0 [.ref 0, .int 4] [] (zq_SG N, hi, hl, zq_HR ca cb cs) Q = Q (some (.int (-3))) (zq_SG N, cf hi 4, hl, zq_HR ca cb cs) := k_EF_found (f := 4) (by decide)
theorem k_EF_found5 : zq_P d 13 0 [.ref 0, .int 5] [] (zq_SG N, hi, hl, zq_HR ca cb cs) Q = Q (some (.int (-3))) (zq_SG N, cf hi 5, hl, zq_HR ca cb cs) := k_EF_found (f := 5) (by decide)
theorem k_M_meet1 : zq_P d 113 0 [.ref 60, .int 1] [] (zq_SG N, hi, hl, zq_HR ca cb cs) Q = Q (some (.int (-3))) (zq_SG N, mf hi 1, hl, zq_HR ca cb cs) := k_M_meet (f := 1) (by decide)
theorem k_M_meet2 : zq_P d 113 0 [.ref 60, .int 2] [] (zq_SG N, hi, hl, zq_HR ca cb cs) Q = Q (some (.int (-3))) (zq_SG N, mf hi 2, hl, zq_HR ca cb cs) := k_M_meet (f := 2) (by decide)
theorem k_M_meet3 : zq_P d 113 0 [.ref 60, .int 3] [] (zq_SG N, hi, hl, zq_HR ca cb cs) Q = Q (some (.int (-3))) (zq_SG N, mf hi 3, hl, zq_HR ca cb cs) := k_M_meet (f := 3) (by decide)
theorem k_M_meet4 : zq_P d 113 0 [.ref 60, .int 4] [] (zq_SG N, hi, hl, zq_HR ca cb cs) Q = Q (some (.int (-3))) (zq_SG N, mf hi 4, hl, zq_HR ca cb cs) := k_M_meet (f := 4) (by decide)
theorem k_M_meet5 : zq_P d 113 0 [.ref 60, .int 5] [] (zq_SG N, hi, hl, zq_HR ca cb cs) Q = Q (some (.int (-3))) (zq_SG N, mf hi 5, hl, zq_HR ca cb cs) := k_M_meet (f := 5) (by decide)
end Z24
/-- a call: class and reference answer alike, and stand to each other as before -/
def zq_pair (N yc ym : Nat) (Lc Lm : List Value) : Prop := ∀ hi hl ca cb cs W P D, Sim hi hl ca cb cs W P D → ∃ v hi1 hl1 ca1 cb1 cs1 hi2 hl2 W2 P2 D2, (∀ Q, zq_P 58 yc 0 Lc [] (zq_SG N, hi, hl, zq_HR ca cb cs) Q = Q (some v) (zq_SG N, hi1, hl1, zq_HR ca1 cb1 cs1)) ∧ (∀ Q, zq_P 58 ym 0 Lm [] (zq_SG N, hi1, hl1, zq_HR ca1 cb1 cs1) Q = Q (some v) (zq_SG N, hi2, hl2, zq_HR ca1 cb1 cs1)) ∧ Sim hi2 hl2 ca1 cb1 cs1 W2 P2 D2
