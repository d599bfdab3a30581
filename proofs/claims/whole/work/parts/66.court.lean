/-! fault, court -/
section Z66
variable {N ca cb cs d n j W P D : Nat} {hi hi2 H C : zq_I} {f : Nat → Int32} {hl hl2 : zq_J} {Q : Option Value → zq_G → Prop} {x : Int32}
theorem Sim.spare (h : Sim hi hl ca cb cs W P D) : cb = 36 ∨ cb = 45 := by
  rcases h.1 with q | q
  · exact Or.inr q.2
  · exact Or.inl q.2
/-- a court was read aside -/
theorem Sim.fr3 (h : Sim hi hl ca cb cs W P D) (e : ∀ a, a < 60 → a < cb ∨ cb + 8 < a → hi2 a = hi a) (e1 : ∀ a, 60 < a → a ≠ 72 → a ≠ 73 → hi2 a = hi a) (e2 : ∀ g, g < 18 ∨ 24 < g → hi2 60 g = hi 60 g) : Sim hi2 hl ca cb cs W P D := by
  have hcb := h.spare
  obtain ⟨h1, h2, h3, h4, h5, h6, h7⟩ := h
  refine ⟨h1, h2, ?_, ?_, ?_, ?_, ?_⟩
  · obtain ⟨t1, t2, t3, t4, t5⟩ := h3
    refine ⟨?_, t2, t3, ?_, fun f hf => ?_⟩
    · rw [e 0 (by omega) (by omega), e2 2 (by omega)]; exact t1
    · rw [e 0 (by omega) (by omega), e2 0 (by omega)]; exact t4
    · rw [e 35 (by omega) (by omega), e1 61 (by omega) (by omega) (by omega)]; exact t5 f hf
  · exact sm_st_fr h4 (fun r hr => ⟨by rw [e _ (by omega) (by omega)], e _ (by omega) (by omega)⟩) (e1 _ (by omega) (by omega) (by omega)) (e1 _ (by omega) (by omega) (by omega))
  · exact sm_st_fr h5 (fun r hr => ⟨by rw [e _ (by omega) (by omega)], e _ (by omega) (by omega)⟩) (e1 _ (by omega) (by omega) (by omega)) (e1 _ (by omega) (by omega) (by omega))
  · refine sm_ct_fr h6 (fun a ha => ?_) ⟨e2 _ (by omega), e2 _ (by omega), e2 _ (by omega)⟩
    rcases ha with ha | ha
    · rcases h1 with q | q <;> exact e a (by omega) (by omega)
    · exact e1 a (by omega) (by omega) (by omega)
  · refine sm_dd_fr h7 (fun a ha => ?_) ⟨e2 _ (by omega), e2 _ (by omega), e2 _ (by omega), e2 _ (by omega)⟩
    rcases ha with ha | ha
    · exact e a (by omega) (by omega)
    · exact e1 a (by omega) (by omega) (by omega)
theorem Sim.read (h : Sim hi hl ca cb cs W P D) (e : ∀ y, y < cb ∨ cb + 8 < y → C y = hi y) (m : mrf C H) : Sim H hl ca cb cs W P D := by
  have hcb := h.spare
  refine h.fr3 (fun a a1 a2 => by rw [m.1 a (by omega) (by omega) (by omega), e a a2]) (fun a a1 a2 a3 => by rw [m.1 a (by omega) a2 a3, e a (by omega)]) (fun g hg => by rw [m.2 g hg, e 60 (by omega)])
theorem txt_of (h : Sim hi hl ca cb cs W P D) (hj : j < 4) (e : ∀ y, y < cb ∨ cb + 8 < y → C y = hi y) (e2 : hi 65 j = nI n) (e3 : ∀ k, k < n → hi (15 + 1 + 2 * j) k = hi 66 (60 * j + k)) : txt C (hi (15 + 1 + 2 * j)) n j := by
  have hcb := h.spare
  refine ⟨by rw [e 65 (by omega)]; exact e2, fun i hi' => by rw [e 66 (by omega)]; exact (e3 i hi').symm⟩
end Z66
section Z66b
variable {N : Nat} {x : Int32}
theorem p_fault : zq_pair N 25 127 [.ref 0, .int x, .retAddr 0] [.ref 60, .int x, .retAddr 0] := by
  intro hi hl ca cb cs W P D h
  have hs := zq_Ss_texts (N := N) (ca := ca) (cb := cb) (cs := cs)
  rcases zb_ix x 4 (by omega) with hx | ⟨j, hj, rfl⟩
  · refine ⟨.int (-1), hi, hl, ca, cb, cs, hi, hl, W, P, D, fun Q => ?_, fun Q => ?_, h⟩
    · simp only [zr25_0, zr25_1, zr25_4, zr25_5, zr25_8, zr25_8n, zr25_9, zr25_9n, zr25_10, zr25_10n, zr25_13, zr25_14, zr25_15, zr25_15n, zr25_16, zr25_19, zr25_22, zr25_23, zr25_24, zr25_27, zr25_28, zr25_28n, zr25_29, zr25_30, zr25_33, zr25_36, zs_x0 N, zh_x0 ca cb cs, zq_kill_int, zq_kill_ref, zq_kill_ret, zq_kill_null, zq_kill_long, zq_rf_some, zq_rf_none, true_and, and_true, true_implies, not_true_eq_false, not_false_eq_true, false_implies, Bool.true_eq_false, Bool.false_eq_true, nI_1, zb_i0, zb_i1, zb_i2, Option.toList_some, Option.toList_none, List.cons_append, List.nil_append, true_or, or_true, implies_true, zb_it, zb_if, zb_10, zb_00, zb_n5, zb_n2, zb_m1, zb_m3, zb_m9, or_true, true_or, or_false, false_or, k_EF_stripAt_bad hs hx]
    · simp only [zr127_0, zr127_1, zr127_2, zr127_5, zr127_6, zr127_7, zr127_10, zr127_11, zr127_14, zr127_15, zr127_16, zr127_19, zr126_0, zr126_1, zr126_4, zr126_7, zr126_8, zr126_11, zr126_12, zr126_15, zr126_16, zr126_17, zr126_20, zr126_21, zr126_22, zr126_25, zr126_28, zr126_29, zr124_0, zr124_1, zr124_2, zr124_3, zr124_6, zs_m0 N, zs_m1 N, zs_m2 N, zh_m0 ca cb cs, zq_kill_int, zq_kill_ref, zq_kill_ret, zq_kill_null, zq_kill_long, zq_rf_some, zq_rf_none, true_and, and_true, true_implies, not_true_eq_false, not_false_eq_true, false_implies, Bool.true_eq_false, Bool.false_eq_true, nI_1, zb_i0, zb_i1, zb_i2, Option.toList_some, Option.toList_none, List.cons_append, List.nil_append, true_or, or_true, implies_true, zb_it, zb_if, zb_10, zb_00, zb_n5, zb_n2, zb_m1, zb_m3, zb_m9, or_true, true_or, or_false, false_or, k_M_in, zm_in_bad (M1 := 3) hx (by decide) (by omega)]
  · have hin := zm_in_ok (M1 := 3) hj (by decide) (by omega)
    have hsp := (hs.2 j hj).2
    unfold zq_Sp at hsp
    have h1 : zq_xS (nI j) 4 := zb_x (by omega) (by omega)
    have h2 : (nI j).toNatClampNeg = j := zb_cl (by omega)
    rcases h.2.2.2.2.1 j hj with ⟨e1, e2⟩ | ⟨n, hn, e1, e2, e3⟩
    · refine ⟨.int (-3), cf hi 1, hl, ca, cb, cs, mf (cf hi 1) 1, hl, W, P, D, fun Q => ?_, fun Q => ?_, h.meet (by omega)⟩
      · simp only [zr25_0, zr25_1, zr25_4, zr25_5, zr25_8, zr25_8n, zr25_9, zr25_9n, zr25_10, zr25_10n, zr25_13, zr25_14, zr25_15, zr25_15n, zr25_16, zr25_19, zr25_22, zr25_23, zr25_24, zr25_27, zr25_28, zr25_28n, zr25_29, zr25_30, zr25_33, zr25_36, zr15_0, zr15_1, zr15_4, zr15_7, zr15_8, zr15_11, zr15_12, zs_x0 N, zh_x0 ca cb cs, hsp, zq_kill_int, zq_kill_ref, zq_kill_ret, zq_kill_null, zq_kill_long, zq_rf_some, zq_rf_none, true_and, and_true, true_implies, not_true_eq_false, not_false_eq_true, false_implies, Bool.true_eq_false, Bool.false_eq_true, nI_1, zb_i0, zb_i1, zb_i2, Option.toList_some, Option.toList_none, List.cons_append, List.nil_append, true_or, or_true, implies_true, zb_it, zb_if, zb_10, zb_00, zb_n5, zb_n2, zb_m1, zb_m3, zb_m9, or_true, true_or, or_false, false_or, k_EF_stripAt hs (show 4 ≤ 6 by omega) hj, e1, k_EF_found1]
      · have e4 : cf hi 1 65 j = -9 := by unfold cf; simp [zq_u, e2]
        simp only [zr127_0, zr127_1, zr127_2, zr127_5, zr127_6, zr127_7, zr127_10, zr127_11, zr127_14, zr127_15, zr127_16, zr127_19, zr126_0, zr126_1, zr126_4, zr126_7, zr126_8, zr126_11, zr126_12, zr126_15, zr126_16, zr126_17, zr126_20, zr126_21, zr126_22, zr126_25, zr126_28, zr126_29, zr124_0, zr124_1, zr124_2, zr124_3, zr124_6, zs_m0 N, zs_m1 N, zs_m2 N, zh_m0 ca cb cs, zq_kill_int, zq_kill_ref, zq_kill_ret, zq_kill_null, zq_kill_long, zq_rf_some, zq_rf_none, true_and, and_true, true_implies, not_true_eq_false, not_false_eq_true, false_implies, Bool.true_eq_false, Bool.false_eq_true, nI_1, zb_i0, zb_i1, zb_i2, Option.toList_some, Option.toList_none, List.cons_append, List.nil_append, true_or, or_true, implies_true, zb_it, zb_if, zb_10, zb_00, zb_n5, zb_n2, zb_m1, zb_m3, zb_m9, or_true, true_or, or_false, false_or, k_M_in, hin, h1, h2, e4, k_M_meet1]
    · have q1 : (nI n < 0) = False := eq_false (nI_pos (by omega))
      have hcb := h.spare
      obtain ⟨C, o1, alt⟩ := k_Reader_readCourt (N := N) (ca := ca) (cb := cb) (cs := cs) (d := 52) (hl := hl) hcb hj hn e1 rfl
      have ht := txt_of h hj o1 e2 e3
      obtain ⟨H, mH, alt2⟩ := k_M_goesOn (N := N) (ca := ca) (cb := cb) (cs := cs) (d := 52) (hl := hl) hj hn ht
      have e5 : C 65 j = nI n := ht.1
      rw [show 52 + 5 = 57 from rfl] at alt alt2
      rcases alt with ⟨q, a1, a0, a2⟩ | ⟨r, s, w, a1, -, -, -, -, -, -, -, -, -, a2⟩
      · rcases alt2 with ⟨q', b1, b2⟩ | ⟨r', s', w', b1, -⟩
        · rw [a1] at b1
          have eq : q = q' := Sum.inl.inj b1
          subst eq
          refine ⟨.int (nI q), C, hl, ca, cb, cs, H, hl, W, P, D, fun Q => ?_, fun Q => ?_, h.read o1 mH⟩
          · simp only [zr25_0, zr25_1, zr25_4, zr25_5, zr25_8, zr25_8n, zr25_9, zr25_9n, zr25_10, zr25_10n, zr25_13, zr25_14, zr25_15, zr25_15n, zr25_16, zr25_19, zr25_22, zr25_23, zr25_24, zr25_27, zr25_28, zr25_28n, zr25_29, zr25_30, zr25_33, zr25_36, zr15_0, zr15_1, zr15_4, zr15_7, zr15_8, zr15_11, zr15_12, zs_x0 N, zh_x0 ca cb cs, hsp, zq_kill_int, zq_kill_ref, zq_kill_ret, zq_kill_null, zq_kill_long, zq_rf_some, zq_rf_none, true_and, and_true, true_implies, not_true_eq_false, not_false_eq_true, false_implies, Bool.true_eq_false, Bool.false_eq_true, nI_1, zb_i0, zb_i1, zb_i2, Option.toList_some, Option.toList_none, List.cons_append, List.nil_append, true_or, or_true, implies_true, zb_it, zb_if, zb_10, zb_00, zb_n5, zb_n2, zb_m1, zb_m3, zb_m9, or_true, true_or, or_false, false_or, k_EF_stripAt hs (show 4 ≤ 6 by omega) hj, e1, q1, a2]
          · simp only [zr127_0, zr127_1, zr127_2, zr127_5, zr127_6, zr127_7, zr127_10, zr127_11, zr127_14, zr127_15, zr127_16, zr127_19, zr126_0, zr126_1, zr126_4, zr126_7, zr126_8, zr126_11, zr126_12, zr126_15, zr126_16, zr126_17, zr126_20, zr126_21, zr126_22, zr126_25, zr126_28, zr126_29, zr124_0, zr124_1, zr124_2, zr124_3, zr124_6, zs_m0 N, zs_m1 N, zs_m2 N, zh_m0 ca cb cs, zq_kill_int, zq_kill_ref, zq_kill_ret, zq_kill_null, zq_kill_long, zq_rf_some, zq_rf_none, true_and, and_true, true_implies, not_true_eq_false, not_false_eq_true, false_implies, Bool.true_eq_false, Bool.false_eq_true, nI_1, zb_i0, zb_i1, zb_i2, Option.toList_some, Option.toList_none, List.cons_append, List.nil_append, true_or, or_true, implies_true, zb_it, zb_if, zb_10, zb_00, zb_n5, zb_n2, zb_m1, zb_m3, zb_m9, or_true, true_or, or_false, false_or, k_M_in, hin, h1, h2, e5, q1, b2]
        · rw [a1] at b1; cases b1
      · rcases alt2 with ⟨q', b1, b2⟩ | ⟨r', s', w', b1, -, -, -, b2⟩
        · rw [a1] at b1; cases b1
        · refine ⟨.int (-9), C, hl, ca, cb, cs, H, hl, W, P, D, fun Q => ?_, fun Q => ?_, h.read o1 mH⟩
          · simp only [zr25_0, zr25_1, zr25_4, zr25_5, zr25_8, zr25_8n, zr25_9, zr25_9n, zr25_10, zr25_10n, zr25_13, zr25_14, zr25_15, zr25_15n, zr25_16, zr25_19, zr25_22, zr25_23, zr25_24, zr25_27, zr25_28, zr25_28n, zr25_29, zr25_30, zr25_33, zr25_36, zr15_0, zr15_1, zr15_4, zr15_7, zr15_8, zr15_11, zr15_12, zs_x0 N, zh_x0 ca cb cs, hsp, zq_kill_int, zq_kill_ref, zq_kill_ret, zq_kill_null, zq_kill_long, zq_rf_some, zq_rf_none, true_and, and_true, true_implies, not_true_eq_false, not_false_eq_true, false_implies, Bool.true_eq_false, Bool.false_eq_true, nI_1, zb_i0, zb_i1, zb_i2, Option.toList_some, Option.toList_none, List.cons_append, List.nil_append, true_or, or_true, implies_true, zb_it, zb_if, zb_10, zb_00, zb_n5, zb_n2, zb_m1, zb_m3, zb_m9, or_true, true_or, or_false, false_or, k_EF_stripAt hs (show 4 ≤ 6 by omega) hj, e1, q1, a2]
          · simp only [zr127_0, zr127_1, zr127_2, zr127_5, zr127_6, zr127_7, zr127_10, zr127_11, zr127_14, zr127_15, zr127_16, zr127_19, zr126_0, zr126_1, zr126_4, zr126_7, zr126_8, zr126_11, zr126_12, zr126_15, zr126_16, zr126_17, zr126_20, zr126_21, zr126_22, zr126_25, zr126_28, zr126_29, zr124_0, zr124_1, zr124_2, zr124_3, zr124_6, zs_m0 N, zs_m1 N, zs_m2 N, zh_m0 ca cb cs, zq_kill_int, zq_kill_ref, zq_kill_ret, zq_kill_null, zq_kill_long, zq_rf_some, zq_rf_none, true_and, and_true, true_implies, not_true_eq_false, not_false_eq_true, false_implies, Bool.true_eq_false, Bool.false_eq_true, nI_1, zb_i0, zb_i1, zb_i2, Option.toList_some, Option.toList_none, List.cons_append, List.nil_append, true_or, or_true, implies_true, zb_it, zb_if, zb_10, zb_00, zb_n5, zb_n2, zb_m1, zb_m3, zb_m9, or_true, true_or, or_false, false_or, k_M_in, hin, h1, h2, e5, q1, b2]
end Z66b
section Z66c
variable {N ca cb cs d n j W P D : Nat} {hi hi2 H C : zq_I} {f : Nat → Int32} {hl hl2 : zq_J} {Q : Option Value → zq_G → Prop} {x : Int32} {s : rdT} {w : wyT} {r : Nat}
/-- the reference takes a court over -/
theorem k_M_court_take {v1 v2 : Int32} {v3 : Value} (hs3 : s.1 ≤ 3) (hw7 : w.1 ≤ 7) (h19 : H 60 19 = nI r) (hp : MP H s) (hw : MW H w) :
    ∃ H', (∀ a, a < 60 ∨ (60 < a ∧ a < 67) ∨ a = 76 ∨ a = 78 → H' a = H a) ∧ (∀ g, g < 10 → H' 60 g = H 60 g) ∧ (H' 60 10 = nI w.1 ∧ H' 60 11 = nI r ∧ H' 60 12 = nI s.1 ∧ H' 60 25 = 0 ∧ H' 60 26 = 0 ∧ H' 60 27 = 0 ∧ H' 60 30 = 0) ∧ (∀ k, k < s.1 → H' 67 k = nI (s.2.1 k) ∧ H' 68 k = nI (s.2.2 k)) ∧ (∀ v, v < w.1 → H' 69 v = nI (w.2.1 v) ∧ H' 70 v = nI (w.2.2.1 v) ∧ H' 71 v = nI (w.2.2.2 v) ∧ H' 74 v = (-9) ∧ H' 75 v = 0) ∧ (∀ k, k < 3 → H' 77 k = 0) ∧
      ∀ Q, zq_P (d + 1) 137 25 [.ref 60, .int v1, .int v2, v3] [] (zq_SG N, H, hl, zq_HR ca cb cs) Q = Q (some (.int (nI w.1))) (zq_SG N, H', hl, zq_HR ca cb cs) := by
  generalize hH1 : zq_u (zq_u (zq_u H 60 10 (nI w.1)) 60 11 (nI r)) 60 12 (nI s.1) = H1
  have o1 : ∀ a, a ≠ 60 → H1 a = H a := fun a ha => by rw [← hH1, zq_u_ne ha, zq_u_ne ha, zq_u_ne ha]
  have f1 : ∀ g, g < 10 → H1 60 g = H 60 g := fun g hg => by rw [← hH1, zq_u_kn (by omega), zq_u_kn (by omega), zq_u_kn (by omega)]
  have c10 : H1 60 10 = nI w.1 := by rw [← hH1, zq_u_kn (by omega), zq_u_kn (by omega), zq_u_eq]
  have c11 : H1 60 11 = nI r := by rw [← hH1, zq_u_kn (by omega), zq_u_eq]
  have c12 : H1 60 12 = nI s.1 := by rw [← hH1, zq_u_eq]
  -- people
  obtain ⟨H2, ⟨p1, p2⟩, lp2⟩ := zq_loopE (β := Option Value → zq_G → Prop) (n := s.1) (I := fun k (X : zq_I) => (∀ a, a ≠ 67 → a ≠ 68 → X a = H1 a) ∧ ∀ i, i < k → X 67 i = nI (s.2.1 i) ∧ X 68 i = nI (s.2.2 i)) (f := fun Q k (X : zq_I) => zq_P (d + 1) 137 51 [.ref 60, .int v1, .int v2, .int (nI k)] [] (zq_SG N, X, hl, zq_HR ca cb cs) Q) (fun k hk X hX => by
    obtain ⟨q1, q2⟩ := hX
    have h3 : (nI k < nI s.1) = True := eq_true ((nI_ltI (by omega) (by omega)).mpr hk)
    have x1 : zq_xS (nI k) 3 := zb_x (by omega) (by omega)
    have x2 : (nI k).toNatClampNeg = k := zb_cl (by omega)
    have x3 : zq_xS (nI (2 * k)) 6 := zb_x (by omega) (by omega)
    have x4 : (nI (2 * k)).toNatClampNeg = 2 * k := zb_cl (by omega)
    have x5 : zq_xS (nI (2 * k + 1)) 6 := zb_x (by omega) (by omega)
    have x6 : (nI (2 * k + 1)).toNatClampNeg = 2 * k + 1 := zb_cl (by omega)
    have y12 : X 60 12 = nI s.1 := by rw [q1 60 (by omega) (by omega)]; exact c12
    have y1 : X 72 (2 * k) = nI (s.2.1 k) := by rw [q1 72 (by omega) (by omega), o1 72 (by omega)]; exact (hp.2 k hk).1
    have y2 : ∀ v, zq_u X 67 k v 72 (2 * k + 1) = nI (s.2.2 k) := fun v => by rw [zq_u_ne (by omega), q1 72 (by omega) (by omega), o1 72 (by omega)]; exact (hp.2 k hk).2
    refine ⟨zq_u (zq_u X 67 k (nI (s.2.1 k))) 68 k (nI (s.2.2 k)), ⟨fun a a1 a2 => by rw [zq_u_ne a2, zq_u_ne a1]; exact q1 a a1 a2, fun i hi' => ?_⟩, fun Q => ?_⟩
    · by_cases e : i = k
      · subst e
        rw [zq_u_ne (by omega), zq_u_eq, zq_u_eq]
        exact ⟨rfl, rfl⟩
      · rw [zq_u_ne (by omega), zq_u_kn e, zq_u_kn e, zq_u_ne (by omega)]
        exact q2 i (by omega)
    · rw [zr137_51]
      simp only [zr137_0, zr137_1, zr137_2, zr137_5, zr137_6, zr137_7, zr137_10, zr137_11, zr137_12, zr137_13, zr137_14, zr137_17, zr137_19, zr137_22, zr137_24, zr137_25, zr137_26, zr137_27, zr137_30, zr137_33, zr137_34, zr137_35, zr137_38, zr137_41, zr137_42, zr137_43, zr137_46, zr137_49, zr137_50, zr137_52, zr137_53, zr137_56, zr137_59, zr137_60, zr137_63, zr137_64, zr137_65, zr137_68, zr137_69, zr137_70, zr137_71, zr137_72, zr137_73, zr137_74, zr137_77, zr137_78, zr137_79, zr137_82, zr137_83, zr137_84, zr137_85, zr137_86, zr137_87, zr137_88, zr137_89, zr137_92, zr137_95, zr137_96, zr137_98, zr137_99, zr137_102, zr137_105, zr137_106, zr137_109, zr137_110, zr137_111, zr137_114, zr137_115, zr137_116, zr137_117, zr137_118, zr137_119, zr137_120, zr137_123, zr137_124, zr137_125, zr137_128, zr137_129, zr137_130, zr137_131, zr137_132, zr137_133, zr137_134, zr137_135, zr137_136, zr137_139, zr137_140, zr137_141, zr137_144, zr137_145, zr137_146, zr137_147, zr137_148, zr137_149, zr137_150, zr137_151, zr137_152, zr137_155, zr137_156, zr137_158, zr137_159, zr137_160, zr137_163, zr137_164, zr137_165, zr137_166, zr137_169, zr137_172, zr137_173, zr137_174, zr137_177, zr137_178, zr137_179, zr137_182, zr137_183, zr137_184, zr137_187, zr137_188, zr137_189, zr137_192, zr137_193, zr137_195, zr137_196, zr137_199, zr137_200, zr137_203, zr137_204, zr137_205, zr137_206, zr137_209, zr137_212, zr137_213, zr137_216, zs_m0 N, zs_m1 N, zs_m2 N, zh_m0 ca cb cs, zq_kill_int, zq_kill_ref, zq_kill_ret, zq_kill_null, zq_kill_long, zq_rf_some, zq_rf_none, true_and, and_true, true_implies, not_true_eq_false, not_false_eq_true, false_implies, Bool.true_eq_false, Bool.false_eq_true, nI_1, zb_i0, zb_i1, zb_i2, Option.toList_some, Option.toList_none, List.cons_append, List.nil_append, true_or, or_true, implies_true, zb_it, zb_if, zb_10, zb_00, zb_n5, zb_n2, zb_m1, zb_m3, zb_m9, or_true, true_or, or_false, false_or, y12, h3, x1, x2, zb_m2, x3, x4, y1, x5, x6, y2]) H1 ⟨fun _ _ _ => rfl, fun i hi' => absurd hi' (Nat.not_lt_zero _)⟩
  -- ways
  obtain ⟨H3, ⟨w1, w2⟩, lp3⟩ := zq_loopE (β := Option Value → zq_G → Prop) (n := w.1) (I := fun k (X : zq_I) => (∀ a, a ≠ 69 → a ≠ 70 → a ≠ 71 → a ≠ 74 → a ≠ 75 → X a = H2 a) ∧ ∀ v, v < k → X 69 v = nI (w.2.1 v) ∧ X 70 v = nI (w.2.2.1 v) ∧ X 71 v = nI (w.2.2.2 v) ∧ X 74 v = (-9) ∧ X 75 v = 0) (f := fun Q k (X : zq_I) => zq_P (d + 1) 137 97 [.ref 60, .int v1, .int v2, .int (nI k)] [] (zq_SG N, X, hl, zq_HR ca cb cs) Q) (fun k hk X hX => by
    obtain ⟨q1, q2⟩ := hX
    have h3 : (nI k < nI w.1) = True := eq_true ((nI_ltI (by omega) (by omega)).mpr hk)
    have x1 : zq_xS (nI k) 7 := zb_x (by omega) (by omega)
    have x2 : (nI k).toNatClampNeg = k := zb_cl (by omega)
    have x3 : zq_xS (nI (3 * k)) 21 := zb_x (by omega) (by omega)
    have x4 : (nI (3 * k)).toNatClampNeg = 3 * k := zb_cl (by omega)
    have x5 : zq_xS (nI (3 * k + 1)) 21 := zb_x (by omega) (by omega)
    have x6 : (nI (3 * k + 1)).toNatClampNeg = 3 * k + 1 := zb_cl (by omega)
    have x7 : zq_xS (nI (3 * k + 2)) 21 := zb_x (by omega) (by omega)
    have x8 : (nI (3 * k + 2)).toNatClampNeg = 3 * k + 2 := zb_cl (by omega)
    have y10 : X 60 10 = nI w.1 := by rw [q1 60 (by omega) (by omega) (by omega) (by omega) (by omega), p1 60 (by omega) (by omega)]; exact c10
    have y73 : X 73 = H 73 := by rw [q1 73 (by omega) (by omega) (by omega) (by omega) (by omega), p1 73 (by omega) (by omega), o1 73 (by omega)]
    have y1 : X 73 (3 * k) = nI (w.2.1 k) := by rw [y73]; exact (hw.2 k hk).1
    have y2 : ∀ v, zq_u X 69 k v 73 (3 * k + 1) = nI (w.2.2.1 k) := fun v => by rw [zq_u_ne (by omega), y73]; exact (hw.2 k hk).2.1
    have y3 : ∀ v v2, zq_u (zq_u X 69 k v) 70 k v2 73 (3 * k + 2) = nI (w.2.2.2 k) := fun v v2 => by rw [zq_u_ne (by omega), zq_u_ne (by omega), y73]; exact (hw.2 k hk).2.2
    refine ⟨zq_u (zq_u (zq_u (zq_u (zq_u X 69 k (nI (w.2.1 k))) 70 k (nI (w.2.2.1 k))) 71 k (nI (w.2.2.2 k))) 74 k (-9)) 75 k 0, ⟨fun a a1 a2 a3 a4 a5 => by rw [zq_u_ne a5, zq_u_ne a4, zq_u_ne a3, zq_u_ne a2, zq_u_ne a1]; exact q1 a a1 a2 a3 a4 a5, fun i hi' => ?_⟩, fun Q => ?_⟩
    · by_cases e : i = k
      · subst e
        simp [zq_u]
      · have := q2 i (by omega)
        simpa [zq_u, e] using this
    · rw [zr137_97]
      simp only [zr137_0, zr137_1, zr137_2, zr137_5, zr137_6, zr137_7, zr137_10, zr137_11, zr137_12, zr137_13, zr137_14, zr137_17, zr137_19, zr137_22, zr137_24, zr137_25, zr137_26, zr137_27, zr137_30, zr137_33, zr137_34, zr137_35, zr137_38, zr137_41, zr137_42, zr137_43, zr137_46, zr137_49, zr137_50, zr137_52, zr137_53, zr137_56, zr137_59, zr137_60, zr137_63, zr137_64, zr137_65, zr137_68, zr137_69, zr137_70, zr137_71, zr137_72, zr137_73, zr137_74, zr137_77, zr137_78, zr137_79, zr137_82, zr137_83, zr137_84, zr137_85, zr137_86, zr137_87, zr137_88, zr137_89, zr137_92, zr137_95, zr137_96, zr137_98, zr137_99, zr137_102, zr137_105, zr137_106, zr137_109, zr137_110, zr137_111, zr137_114, zr137_115, zr137_116, zr137_117, zr137_118, zr137_119, zr137_120, zr137_123, zr137_124, zr137_125, zr137_128, zr137_129, zr137_130, zr137_131, zr137_132, zr137_133, zr137_134, zr137_135, zr137_136, zr137_139, zr137_140, zr137_141, zr137_144, zr137_145, zr137_146, zr137_147, zr137_148, zr137_149, zr137_150, zr137_151, zr137_152, zr137_155, zr137_156, zr137_158, zr137_159, zr137_160, zr137_163, zr137_164, zr137_165, zr137_166, zr137_169, zr137_172, zr137_173, zr137_174, zr137_177, zr137_178, zr137_179, zr137_182, zr137_183, zr137_184, zr137_187, zr137_188, zr137_189, zr137_192, zr137_193, zr137_195, zr137_196, zr137_199, zr137_200, zr137_203, zr137_204, zr137_205, zr137_206, zr137_209, zr137_212, zr137_213, zr137_216, zs_m0 N, zs_m1 N, zs_m2 N, zh_m0 ca cb cs, zq_kill_int, zq_kill_ref, zq_kill_ret, zq_kill_null, zq_kill_long, zq_rf_some, zq_rf_none, true_and, and_true, true_implies, not_true_eq_false, not_false_eq_true, false_implies, Bool.true_eq_false, Bool.false_eq_true, nI_1, zb_i0, zb_i1, zb_i2, Option.toList_some, Option.toList_none, List.cons_append, List.nil_append, true_or, or_true, implies_true, zb_it, zb_if, zb_10, zb_00, zb_n5, zb_n2, zb_m1, zb_m3, zb_m9, or_true, true_or, or_false, false_or, y10, h3, x1, x2, zb_m3', x3, x4, y1, x5, x6, y2, zb_p2, x7, x8, y3]) H2 ⟨fun _ _ _ _ _ _ => rfl, fun i hi' => absurd hi' (Nat.not_lt_zero _)⟩
  generalize hH4 : zq_u (zq_u (zq_u (zq_u H3 60 25 0) 60 26 0) 60 27 0) 60 30 0 = H4
  have o4 : ∀ a, a ≠ 60 → H4 a = H3 a := fun a ha => by rw [← hH4, zq_u_ne ha, zq_u_ne ha, zq_u_ne ha, zq_u_ne ha]
  have g4 : ∀ g, g < 25 → H4 60 g = H1 60 g := fun g hg => by rw [← hH4, zq_u_kn (by omega), zq_u_kn (by omega), zq_u_kn (by omega), zq_u_kn (by omega), w1 60 (by omega) (by omega) (by omega) (by omega) (by omega), p1 60 (by omega) (by omega)]
  -- kept ones
  obtain ⟨H5, ⟨t1, t2⟩, lp5⟩ := zq_loopE (β := Option Value → zq_G → Prop) (n := 3) (I := fun k (X : zq_I) => (∀ a, a ≠ 77 → X a = H4 a) ∧ ∀ i, i < k → X 77 i = 0) (f := fun Q k (X : zq_I) => zq_P (d + 1) 137 194 [.ref 60, .int v1, .int v2, .int (nI k)] [] (zq_SG N, X, hl, zq_HR ca cb cs) Q) (fun k hk X hX => by
    obtain ⟨q1, q2⟩ := hX
    have x1 : zq_xS (nI k) 3 := zb_x (by omega) (by omega)
    have x2 : (nI k).toNatClampNeg = k := zb_cl (by omega)
    refine ⟨zq_u X 77 k 0, ⟨fun a a1 => by rw [zq_u_ne a1]; exact q1 a a1, fun i hi' => ?_⟩, fun Q => ?_⟩
    · by_cases e : i = k
      · subst e; exact zq_u_eq
      · rw [zq_u_kn e]; exact q2 i (by omega)
    · rw [zr137_194]
      simp only [zr137_0, zr137_1, zr137_2, zr137_5, zr137_6, zr137_7, zr137_10, zr137_11, zr137_12, zr137_13, zr137_14, zr137_17, zr137_19, zr137_22, zr137_24, zr137_25, zr137_26, zr137_27, zr137_30, zr137_33, zr137_34, zr137_35, zr137_38, zr137_41, zr137_42, zr137_43, zr137_46, zr137_49, zr137_50, zr137_52, zr137_53, zr137_56, zr137_59, zr137_60, zr137_63, zr137_64, zr137_65, zr137_68, zr137_69, zr137_70, zr137_71, zr137_72, zr137_73, zr137_74, zr137_77, zr137_78, zr137_79, zr137_82, zr137_83, zr137_84, zr137_85, zr137_86, zr137_87, zr137_88, zr137_89, zr137_92, zr137_95, zr137_96, zr137_98, zr137_99, zr137_102, zr137_105, zr137_106, zr137_109, zr137_110, zr137_111, zr137_114, zr137_115, zr137_116, zr137_117, zr137_118, zr137_119, zr137_120, zr137_123, zr137_124, zr137_125, zr137_128, zr137_129, zr137_130, zr137_131, zr137_132, zr137_133, zr137_134, zr137_135, zr137_136, zr137_139, zr137_140, zr137_141, zr137_144, zr137_145, zr137_146, zr137_147, zr137_148, zr137_149, zr137_150, zr137_151, zr137_152, zr137_155, zr137_156, zr137_158, zr137_159, zr137_160, zr137_163, zr137_164, zr137_165, zr137_166, zr137_169, zr137_172, zr137_173, zr137_174, zr137_177, zr137_178, zr137_179, zr137_182, zr137_183, zr137_184, zr137_187, zr137_188, zr137_189, zr137_192, zr137_193, zr137_195, zr137_196, zr137_199, zr137_200, zr137_203, zr137_204, zr137_205, zr137_206, zr137_209, zr137_212, zr137_213, zr137_216, zs_m0 N, zs_m1 N, zs_m2 N, zh_m0 ca cb cs, zq_kill_int, zq_kill_ref, zq_kill_ret, zq_kill_null, zq_kill_long, zq_rf_some, zq_rf_none, true_and, and_true, true_implies, not_true_eq_false, not_false_eq_true, false_implies, Bool.true_eq_false, Bool.false_eq_true, nI_1, zb_i0, zb_i1, zb_i2, Option.toList_some, Option.toList_none, List.cons_append, List.nil_append, true_or, or_true, implies_true, zb_it, zb_if, zb_10, zb_00, zb_n5, zb_n2, zb_m1, zb_m3, zb_m9, or_true, true_or, or_false, false_or, zb_l3 hk, x1, x2]) H4 ⟨fun _ _ => rfl, fun i hi' => absurd hi' (Nat.not_lt_zero _)⟩
  have k60 : H5 60 = H4 60 := t1 60 (by omega)
  refine ⟨H5, fun a ha => ?_, fun g hg => ?_, ⟨?_, ?_, ?_, ?_, ?_, ?_, ?_⟩, fun k hk => ?_, fun v hv => ?_, fun k hk => t2 k hk, fun Q => ?_⟩
  · rw [t1 a (by omega), o4 a (by omega), w1 a (by omega) (by omega) (by omega) (by omega) (by omega), p1 a (by omega) (by omega), o1 a (by omega)]
  · rw [k60, g4 g (by omega), f1 g hg]
  · rw [k60, g4 _ (by omega)]; exact c10
  · rw [k60, g4 _ (by omega)]; exact c11
  · rw [k60, g4 _ (by omega)]; exact c12
  · rw [k60, ← hH4, zq_u_kn (by omega), zq_u_kn (by omega), zq_u_kn (by omega), zq_u_eq]
  · rw [k60, ← hH4, zq_u_kn (by omega), zq_u_kn (by omega), zq_u_eq]
  · rw [k60, ← hH4, zq_u_kn (by omega), zq_u_eq]
  · rw [k60, ← hH4, zq_u_eq]
  · rw [t1 67 (by omega), t1 68 (by omega), o4 67 (by omega), o4 68 (by omega), w1 67 (by omega) (by omega) (by omega) (by omega) (by omega), w1 68 (by omega) (by omega) (by omega) (by omega) (by omega)]
    exact p2 k hk
  · rw [t1 69 (by omega), t1 70 (by omega), t1 71 (by omega), t1 74 (by omega), t1 75 (by omega), o4 69 (by omega), o4 70 (by omega), o4 71 (by omega), o4 74 (by omega), o4 75 (by omega)]
    exact w2 v hv
  · have h21 : H 60 21 = nI w.1 := hw.1
    have z19 : ∀ v, zq_u H 60 10 v 60 19 = nI r := fun v => by rw [zq_u_kn (by omega)]; exact h19
    have z20 : ∀ v v2, zq_u (zq_u H 60 10 v) 60 11 v2 60 20 = nI s.1 := fun v v2 => by rw [zq_u_kn (by omega), zq_u_kn (by omega)]; exact hp.1
    have e2 : zq_P (d + 1) 137 51 [.ref 60, .int v1, .int v2, .int 0] [] (zq_SG N, H1, hl, zq_HR ca cb cs) Q = _ := lp2 Q
    have e3 : zq_P (d + 1) 137 97 [.ref 60, .int v1, .int v2, .int 0] [] (zq_SG N, H2, hl, zq_HR ca cb cs) Q = _ := lp3 Q
    have e5 : zq_P (d + 1) 137 194 [.ref 60, .int v1, .int v2, .int 0] [] (zq_SG N, H4, hl, zq_HR ca cb cs) Q = _ := lp5 Q
    have fP : (nI s.1 < nI s.1) = False := eq_false (nI_nlt (Nat.le_refl _) (by omega))
    have fW : (nI w.1 < nI w.1) = False := eq_false (nI_nlt (Nat.le_refl _) (by omega))
    have f3 : (nI 3 < 3) = False := eq_false (by decide)
    have a12 : H2 60 12 = nI s.1 := by rw [p1 60 (by omega) (by omega)]; exact c12
    have a10 : H3 60 10 = nI w.1 := by rw [w1 60 (by omega) (by omega) (by omega) (by omega) (by omega), p1 60 (by omega) (by omega)]; exact c10
    have b10 : H5 60 10 = nI w.1 := by rw [k60, g4 _ (by omega)]; exact c10
    simp only [zr137_0, zr137_1, zr137_2, zr137_5, zr137_6, zr137_7, zr137_10, zr137_11, zr137_12, zr137_13, zr137_14, zr137_17, zr137_19, zr137_22, zr137_24, zr137_25, zr137_26, zr137_27, zr137_30, zr137_33, zr137_34, zr137_35, zr137_38, zr137_41, zr137_42, zr137_43, zr137_46, zr137_49, zr137_50, zr137_52, zr137_53, zr137_56, zr137_59, zr137_60, zr137_63, zr137_64, zr137_65, zr137_68, zr137_69, zr137_70, zr137_71, zr137_72, zr137_73, zr137_74, zr137_77, zr137_78, zr137_79, zr137_82, zr137_83, zr137_84, zr137_85, zr137_86, zr137_87, zr137_88, zr137_89, zr137_92, zr137_95, zr137_96, zr137_98, zr137_99, zr137_102, zr137_105, zr137_106, zr137_109, zr137_110, zr137_111, zr137_114, zr137_115, zr137_116, zr137_117, zr137_118, zr137_119, zr137_120, zr137_123, zr137_124, zr137_125, zr137_128, zr137_129, zr137_130, zr137_131, zr137_132, zr137_133, zr137_134, zr137_135, zr137_136, zr137_139, zr137_140, zr137_141, zr137_144, zr137_145, zr137_146, zr137_147, zr137_148, zr137_149, zr137_150, zr137_151, zr137_152, zr137_155, zr137_156, zr137_158, zr137_159, zr137_160, zr137_163, zr137_164, zr137_165, zr137_166, zr137_169, zr137_172, zr137_173, zr137_174, zr137_177, zr137_178, zr137_179, zr137_182, zr137_183, zr137_184, zr137_187, zr137_188, zr137_189, zr137_192, zr137_193, zr137_195, zr137_196, zr137_199, zr137_200, zr137_203, zr137_204, zr137_205, zr137_206, zr137_209, zr137_212, zr137_213, zr137_216, zs_m0 N, zs_m1 N, zs_m2 N, zh_m0 ca cb cs, zq_kill_int, zq_kill_ref, zb_it, zb_if, zb_10, zb_00, zb_n5, zb_n2, zb_m1, zb_m3, zb_m9, or_true, true_or, or_false, false_or, true_and, h21, z19, z20, hH1]
    refine Eq.trans e2 ?_
    rw [zr137_51]
    simp only [zr137_0, zr137_1, zr137_2, zr137_5, zr137_6, zr137_7, zr137_10, zr137_11, zr137_12, zr137_13, zr137_14, zr137_17, zr137_19, zr137_22, zr137_24, zr137_25, zr137_26, zr137_27, zr137_30, zr137_33, zr137_34, zr137_35, zr137_38, zr137_41, zr137_42, zr137_43, zr137_46, zr137_49, zr137_50, zr137_52, zr137_53, zr137_56, zr137_59, zr137_60, zr137_63, zr137_64, zr137_65, zr137_68, zr137_69, zr137_70, zr137_71, zr137_72, zr137_73, zr137_74, zr137_77, zr137_78, zr137_79, zr137_82, zr137_83, zr137_84, zr137_85, zr137_86, zr137_87, zr137_88, zr137_89, zr137_92, zr137_95, zr137_96, zr137_98, zr137_99, zr137_102, zr137_105, zr137_106, zr137_109, zr137_110, zr137_111, zr137_114, zr137_115, zr137_116, zr137_117, zr137_118, zr137_119, zr137_120, zr137_123, zr137_124, zr137_125, zr137_128, zr137_129, zr137_130, zr137_131, zr137_132, zr137_133, zr137_134, zr137_135, zr137_136, zr137_139, zr137_140, zr137_141, zr137_144, zr137_145, zr137_146, zr137_147, zr137_148, zr137_149, zr137_150, zr137_151, zr137_152, zr137_155, zr137_156, zr137_158, zr137_159, zr137_160, zr137_163, zr137_164, zr137_165, zr137_166, zr137_169, zr137_172, zr137_173, zr137_174, zr137_177, zr137_178, zr137_179, zr137_182, zr137_183, zr137_184, zr137_187, zr137_188, zr137_189, zr137_192, zr137_193, zr137_195, zr137_196, zr137_199, zr137_200, zr137_203, zr137_204, zr137_205, zr137_206, zr137_209, zr137_212, zr137_213, zr137_216, zs_m0 N, zs_m1 N, zs_m2 N, zh_m0 ca cb cs, zq_kill_int, zq_kill_ref, zq_kill_int, zq_kill_ref, zq_kill_ret, zq_kill_null, zq_kill_long, zq_rf_some, zq_rf_none, true_and, and_true, true_implies, not_true_eq_false, not_false_eq_true, false_implies, Bool.true_eq_false, Bool.false_eq_true, nI_1, zb_i0, zb_i1, zb_i2, Option.toList_some, Option.toList_none, List.cons_append, List.nil_append, true_or, or_true, implies_true, zb_it, zb_if, zb_10, zb_00, zb_n5, zb_n2, zb_m1, zb_m3, zb_m9, or_true, true_or, or_false, false_or, a12, fP]
    refine Eq.trans e3 ?_
    rw [zr137_97]
    simp only [zr137_0, zr137_1, zr137_2, zr137_5, zr137_6, zr137_7, zr137_10, zr137_11, zr137_12, zr137_13, zr137_14, zr137_17, zr137_19, zr137_22, zr137_24, zr137_25, zr137_26, zr137_27, zr137_30, zr137_33, zr137_34, zr137_35, zr137_38, zr137_41, zr137_42, zr137_43, zr137_46, zr137_49, zr137_50, zr137_52, zr137_53, zr137_56, zr137_59, zr137_60, zr137_63, zr137_64, zr137_65, zr137_68, zr137_69, zr137_70, zr137_71, zr137_72, zr137_73, zr137_74, zr137_77, zr137_78, zr137_79, zr137_82, zr137_83, zr137_84, zr137_85, zr137_86, zr137_87, zr137_88, zr137_89, zr137_92, zr137_95, zr137_96, zr137_98, zr137_99, zr137_102, zr137_105, zr137_106, zr137_109, zr137_110, zr137_111, zr137_114, zr137_115, zr137_116, zr137_117, zr137_118, zr137_119, zr137_120, zr137_123, zr137_124, zr137_125, zr137_128, zr137_129, zr137_130, zr137_131, zr137_132, zr137_133, zr137_134, zr137_135, zr137_136, zr137_139, zr137_140, zr137_141, zr137_144, zr137_145, zr137_146, zr137_147, zr137_148, zr137_149, zr137_150, zr137_151, zr137_152, zr137_155, zr137_156, zr137_158, zr137_159, zr137_160, zr137_163, zr137_164, zr137_165, zr137_166, zr137_169, zr137_172, zr137_173, zr137_174, zr137_177, zr137_178, zr137_179, zr137_182, zr137_183, zr137_184, zr137_187, zr137_188, zr137_189, zr137_192, zr137_193, zr137_195, zr137_196, zr137_199, zr137_200, zr137_203, zr137_204, zr137_205, zr137_206, zr137_209, zr137_212, zr137_213, zr137_216, zs_m0 N, zs_m1 N, zs_m2 N, zh_m0 ca cb cs, zq_kill_int, zq_kill_ref, zq_kill_int, zq_kill_ref, zq_kill_ret, zq_kill_null, zq_kill_long, zq_rf_some, zq_rf_none, true_and, and_true, true_implies, not_true_eq_false, not_false_eq_true, false_implies, Bool.true_eq_false, Bool.false_eq_true, nI_1, zb_i0, zb_i1, zb_i2, Option.toList_some, Option.toList_none, List.cons_append, List.nil_append, true_or, or_true, implies_true, zb_it, zb_if, zb_10, zb_00, zb_n5, zb_n2, zb_m1, zb_m3, zb_m9, or_true, true_or, or_false, false_or, a10, fW, hH4]
    refine Eq.trans e5 ?_
    rw [zr137_194]
    simp only [zr137_0, zr137_1, zr137_2, zr137_5, zr137_6, zr137_7, zr137_10, zr137_11, zr137_12, zr137_13, zr137_14, zr137_17, zr137_19, zr137_22, zr137_24, zr137_25, zr137_26, zr137_27, zr137_30, zr137_33, zr137_34, zr137_35, zr137_38, zr137_41, zr137_42, zr137_43, zr137_46, zr137_49, zr137_50, zr137_52, zr137_53, zr137_56, zr137_59, zr137_60, zr137_63, zr137_64, zr137_65, zr137_68, zr137_69, zr137_70, zr137_71, zr137_72, zr137_73, zr137_74, zr137_77, zr137_78, zr137_79, zr137_82, zr137_83, zr137_84, zr137_85, zr137_86, zr137_87, zr137_88, zr137_89, zr137_92, zr137_95, zr137_96, zr137_98, zr137_99, zr137_102, zr137_105, zr137_106, zr137_109, zr137_110, zr137_111, zr137_114, zr137_115, zr137_116, zr137_117, zr137_118, zr137_119, zr137_120, zr137_123, zr137_124, zr137_125, zr137_128, zr137_129, zr137_130, zr137_131, zr137_132, zr137_133, zr137_134, zr137_135, zr137_136, zr137_139, zr137_140, zr137_141, zr137_144, zr137_145, zr137_146, zr137_147, zr137_148, zr137_149, zr137_150, zr137_151, zr137_152, zr137_155, zr137_156, zr137_158, zr137_159, zr137_160, zr137_163, zr137_164, zr137_165, zr137_166, zr137_169, zr137_172, zr137_173, zr137_174, zr137_177, zr137_178, zr137_179, zr137_182, zr137_183, zr137_184, zr137_187, zr137_188, zr137_189, zr137_192, zr137_193, zr137_195, zr137_196, zr137_199, zr137_200, zr137_203, zr137_204, zr137_205, zr137_206, zr137_209, zr137_212, zr137_213, zr137_216, zs_m0 N, zs_m1 N, zs_m2 N, zh_m0 ca cb cs, zq_kill_int, zq_kill_ref, zq_kill_int, zq_kill_ref, zq_kill_ret, zq_kill_null, zq_kill_long, zq_rf_some, zq_rf_none, true_and, and_true, true_implies, not_true_eq_false, not_false_eq_true, false_implies, Bool.true_eq_false, Bool.false_eq_true, nI_1, zb_i0, zb_i1, zb_i2, Option.toList_some, Option.toList_none, List.cons_append, List.nil_append, true_or, or_true, implies_true, zb_it, zb_if, zb_10, zb_00, zb_n5, zb_n2, zb_m1, zb_m3, zb_m9, or_true, true_or, or_false, false_or, f3, b10]
end Z66c
