/-! The reference reads a court -/
theorem kb_111 : kb 111 = none := by decide
section Z65
variable {N ca cb cs d n i j P W : Nat} {H M : zq_I} {f : Nat → Int32} {hl : zq_J} {Q : Option Value → zq_G → Prop} {x : Int32}
theorem k_M_court_people (hj : j < 4) (hn : n ≤ 60) : ∀ m P, P + m = 3 → ∀ i (rnd trn : Nat → Nat) H (v2 : Value), i ≤ n → txt H f n j → H 60 18 = nI i → MP H (P, rnd, trn) → H 60 21 = 0 →
    ∃ H', mrf H H' ∧ H' 60 19 = H 60 19 ∧ H' 60 21 = 0 ∧ ((∃ q, ppl f n m i (P, rnd, trn) = .inl q ∧ H' 60 18 = nI q ∧ ∀ Q, zq_P (d + 3) 129 30 [.ref 60, .int (nI j), v2] [] (zq_SG N, H, hl, zq_HR ca cb cs) Q = Q (some (.int 0)) (zq_SG N, H', hl, zq_HR ca cb cs)) ∨
      ∃ i' s v2', ppl f n m i (P, rnd, trn) = .inr (i', s) ∧ i' ≤ n ∧ H' 60 18 = nI i' ∧ MP H' s ∧ s.1 ≤ 3 ∧ (¬ (i' < n ∧ f i' = 111) ∨ s.1 = 3) ∧ ∀ Q, zq_P (d + 3) 129 30 [.ref 60, .int (nI j), v2] [] (zq_SG N, H, hl, zq_HR ca cb cs) Q = zq_P (d + 3) 129 30 [.ref 60, .int (nI j), v2'] [] (zq_SG N, H', hl, zq_HR ca cb cs) Q) := by
  have h1 : zq_xS (nI j) 4 := zb_x (by omega) (by omega)
  have h2 : (nI j).toNatClampNeg = j := zb_cl (by omega)
  intro m
  induction m with
  | zero =>
    intro P hP i rnd trn H v2 hi ht h18 hp h21
    exact ⟨H, mrf_rfl H, rfl, h21, Or.inr ⟨i, (P, rnd, trn), v2, rfl, hi, h18, hp, by show P ≤ 3; omega, Or.inr (by show P = 3; omega), fun Q => rfl⟩⟩
  | succ m ih =>
    intro P hP i rnd trn H v2 hi ht h18 hp h21
    rw [ppl_s]
    by_cases q : i < n ∧ f i = 111
    · rw [if_pos q]
      have q1 : (nI i < nI n) = True := eq_true ((nI_ltI (by omega) (by omega)).mpr q.1)
      have hr := fun Q => k_M_here (N := N) (ca := ca) (cb := cb) (cs := cs) (d := d + 2) (hl := hl) (Q := Q) hj hn ht h18 hi
      have eb : her f n i = 111 := by unfold her; rw [if_pos q.1]; exact q.2
      obtain ⟨H1, m1, m19, m21, alt⟩ := k_M_readsOne (N := N) (ca := ca) (cb := cb) (cs := cs) (d := d) (hl := hl) hj hn ht h18 q.1 (by omega) hp h21
      rcases alt with ⟨q0, hq0, a18, e0⟩ | ⟨r, t, hr7, hr2, hr8, a18, hp1, e0⟩
      · refine ⟨H1, m1, m19, by rw [m21]; exact h21, Or.inl ⟨q0, ?_, a18, fun Q => ?_⟩⟩
        · rcases hq0 with ⟨z1, z2⟩ | ⟨r, z1, ⟨z2, z3⟩ | ⟨z2, z3, z4⟩⟩
          · rw [z1, z2]
          · rw [z1]; dsimp only; rw [if_pos z2, z3]
          · rw [z1]; dsimp only; rw [if_neg z2, z3, z4]
        · rw [zr129_30]
          simp only [zr129_0, zr129_1, zr129_2, zr129_5, zr129_6, zr129_7, zr129_10, zr129_11, zr129_12, zr129_15, zr129_16, zr129_17, zr129_20, zr129_23, zr129_24, zr129_25, zr129_26, zr129_27, zr129_31, zr129_34, zr129_35, zr129_38, zr129_39, zr129_40, zr129_43, zr129_44, zr129_45, zr129_48, zr129_50, zr129_53, zr129_54, zr129_55, zr129_58, zr129_61, zr129_62, zr129_63, zr129_66, zr129_67, zr129_68, zr129_71, zr129_72, zr129_73, zr129_74, zr129_75, zr129_78, zr129_81, zr129_82, zr129_85, zr129_88, zr129_89, zr129_92, zr129_93, zs_m0 N, zs_m1 N, zs_m2 N, zh_m0 ca cb cs, zq_kill_int, zq_kill_ref, zq_kill_ret, zq_kill_null, zq_kill_long, zq_rf_some, zq_rf_none, true_and, and_true, true_implies, not_true_eq_false, not_false_eq_true, false_implies, Bool.true_eq_false, Bool.false_eq_true, nI_1, zb_i0, zb_i1, zb_i2, Option.toList_some, Option.toList_none, List.cons_append, List.nil_append, true_or, or_true, implies_true, zb_it, zb_if, zb_10, zb_00, zb_n5, zb_n2, zb_m1, zb_m3, zb_m9, or_true, true_or, or_false, false_or, h1, h2, h18, ht.1, q1, hr, eb, e0]
      · obtain ⟨t1, t2, -⟩ := fgv_some (by have := (fgv_some (by omega) hr7).2.1; omega) hr8
        rw [hr7]
        dsimp only
        rw [if_neg hr2, hr8]
        dsimp only
        have ht1 := txt_fr ht m1
        have sk1 := fun Q => k_M_skip (N := N) (ca := ca) (cb := cb) (cs := cs) (d := d + 1) (hl := hl) (Q := Q) hj hn 60 (i + 3) H1 (by omega) (by omega) ht1 a18
        generalize hH2 : zq_u H1 60 18 (nI (sk f n 60 (i + 3))) = H2 at sk1
        have m2 : mrf H1 H2 := by rw [← hH2]; exact mrf_60 (by omega)
        have o2 : ∀ g, g ≠ 18 → H2 60 g = H1 60 g := fun g hg => by rw [← hH2, zq_u_kn hg]
        obtain ⟨H', k1, k2, k3, k4⟩ := ih (P + 1) (by omega) (skp f n (i + 3)) (upn rnd P r) (upn trn P t) H2 (.int 1) (sk_le _ _ (by omega)) (txt_fr ht1 m2) (by rw [← hH2, zq_u_eq]) ⟨by rw [o2 _ (by omega)]; exact hp1.1, by rw [← hH2, zq_u_ne (by omega)]; exact hp1.2⟩ (by rw [o2 _ (by omega), m21]; exact h21)
        have step : ∀ Q, zq_P (d + 3) 129 30 [.ref 60, .int (nI j), v2] [] (zq_SG N, H, hl, zq_HR ca cb cs) Q = zq_P (d + 3) 129 30 [.ref 60, .int (nI j), .int 1] [] (zq_SG N, H2, hl, zq_HR ca cb cs) Q := fun Q => by
          rw [zr129_30]
          simp only [zr129_0, zr129_1, zr129_2, zr129_5, zr129_6, zr129_7, zr129_10, zr129_11, zr129_12, zr129_15, zr129_16, zr129_17, zr129_20, zr129_23, zr129_24, zr129_25, zr129_26, zr129_27, zr129_31, zr129_34, zr129_35, zr129_38, zr129_39, zr129_40, zr129_43, zr129_44, zr129_45, zr129_48, zr129_50, zr129_53, zr129_54, zr129_55, zr129_58, zr129_61, zr129_62, zr129_63, zr129_66, zr129_67, zr129_68, zr129_71, zr129_72, zr129_73, zr129_74, zr129_75, zr129_78, zr129_81, zr129_82, zr129_85, zr129_88, zr129_89, zr129_92, zr129_93, zs_m0 N, zs_m1 N, zs_m2 N, zh_m0 ca cb cs, zq_kill_int, zq_kill_ref, zq_kill_ret, zq_kill_null, zq_kill_long, zq_rf_some, zq_rf_none, true_and, and_true, true_implies, not_true_eq_false, not_false_eq_true, false_implies, Bool.true_eq_false, Bool.false_eq_true, nI_1, zb_i0, zb_i1, zb_i2, Option.toList_some, Option.toList_none, List.cons_append, List.nil_append, true_or, or_true, implies_true, zb_it, zb_if, zb_10, zb_00, zb_n5, zb_n2, zb_m1, zb_m3, zb_m9, or_true, true_or, or_false, false_or, h1, h2, h18, ht.1, q1, hr, eb, e0, sk1]
        refine ⟨H', mrf_tr m1 (mrf_tr m2 k1), by rw [k2, o2 _ (by omega), m19], k3, ?_⟩
        rcases k4 with ⟨q0, z1, z2, z3⟩ | ⟨i', s, v2', z1, z2, z3, z4, z5, z6, z7⟩
        · exact Or.inl ⟨q0, z1, z2, fun Q => (step Q).trans (z3 Q)⟩
        · exact Or.inr ⟨i', s, v2', z1, z2, z3, z4, z5, z6, fun Q => (step Q).trans (z7 Q)⟩
    · rw [if_neg q]
      exact ⟨H, mrf_rfl H, rfl, h21, Or.inr ⟨i, (P, rnd, trn), v2, rfl, hi, h18, hp, by show P ≤ 3; omega, Or.inl q, fun Q => rfl⟩⟩
theorem k_M_court_ways (hj : j < 4) (hn : n ≤ 60) (hP : P ≤ 3) : ∀ m W, W + m = 7 → ∀ i (kd tb nd : Nat → Nat) H (v2 : Value), i ≤ n → txt H f n j → H 60 18 = nI i → MW H (W, kd, tb, nd) → H 60 20 = nI P → (¬ (i < n ∧ f i = 111) ∨ P = 3 ∨ 0 < W) →
    ∃ H', mrf H H' ∧ H' 60 19 = H 60 19 ∧ H' 60 20 = H 60 20 ∧ H' 72 = H 72 ∧ ((∃ q, (wys f n P m i (W, kd, tb, nd) = .inl q ∨ ∃ s, wys f n P m i (W, kd, tb, nd) = .inr (q, s) ∧ (q < n ∨ s.1 = 0)) ∧ H' 60 18 = nI q ∧ ∀ Q, zq_P (d + 3) 129 30 [.ref 60, .int (nI j), v2] [] (zq_SG N, H, hl, zq_HR ca cb cs) Q = Q (some (.int 0)) (zq_SG N, H', hl, zq_HR ca cb cs)) ∨
      ∃ i' s, wys f n P m i (W, kd, tb, nd) = .inr (i', s) ∧ ¬ (i' < n ∨ s.1 = 0) ∧ MW H' s ∧ ∀ Q, zq_P (d + 3) 129 30 [.ref 60, .int (nI j), v2] [] (zq_SG N, H, hl, zq_HR ca cb cs) Q = Q (some (.int 1)) (zq_SG N, H', hl, zq_HR ca cb cs)) := by
  have h1 : zq_xS (nI j) 4 := zb_x (by omega) (by omega)
  have h2 : (nI j).toNatClampNeg = j := zb_cl (by omega)
  have h8 := zb_p8 P hP
  -- at the end of the text
  have fin : ∀ (W i : Nat) (H : zq_I) (v2 : Value), W ≤ 7 → ¬ i < n → i ≤ n → txt H f n j → H 60 18 = nI i → H 60 21 = nI W → (W = 0 → ∀ Q, zq_P (d + 3) 129 30 [.ref 60, .int (nI j), v2] [] (zq_SG N, H, hl, zq_HR ca cb cs) Q = Q (some (.int 0)) (zq_SG N, H, hl, zq_HR ca cb cs)) ∧ (¬ W = 0 → ∀ Q, zq_P (d + 3) 129 30 [.ref 60, .int (nI j), v2] [] (zq_SG N, H, hl, zq_HR ca cb cs) Q = Q (some (.int 1)) (zq_SG N, H, hl, zq_HR ca cb cs)) := by
    intro W i H v2 hW hi hi2 ht h18 h21
    have q1 : (nI i < nI n) = False := eq_false (nI_nlt (by omega) (by omega))
    refine ⟨fun hW0 Q => ?_, fun hW0 Q => ?_⟩
    · have e0 : ((0 : Int32) < nI W) = False := by rw [hW0]; exact eq_false (by decide)
      rw [zr129_30]
      simp only [zr129_0, zr129_1, zr129_2, zr129_5, zr129_6, zr129_7, zr129_10, zr129_11, zr129_12, zr129_15, zr129_16, zr129_17, zr129_20, zr129_23, zr129_24, zr129_25, zr129_26, zr129_27, zr129_31, zr129_34, zr129_35, zr129_38, zr129_39, zr129_40, zr129_43, zr129_44, zr129_45, zr129_48, zr129_50, zr129_53, zr129_54, zr129_55, zr129_58, zr129_61, zr129_62, zr129_63, zr129_66, zr129_67, zr129_68, zr129_71, zr129_72, zr129_73, zr129_74, zr129_75, zr129_78, zr129_81, zr129_82, zr129_85, zr129_88, zr129_89, zr129_92, zr129_93, zs_m0 N, zs_m1 N, zs_m2 N, zh_m0 ca cb cs, zq_kill_int, zq_kill_ref, zq_kill_ret, zq_kill_null, zq_kill_long, zq_rf_some, zq_rf_none, true_and, and_true, true_implies, not_true_eq_false, not_false_eq_true, false_implies, Bool.true_eq_false, Bool.false_eq_true, nI_1, zb_i0, zb_i1, zb_i2, Option.toList_some, Option.toList_none, List.cons_append, List.nil_append, true_or, or_true, implies_true, zb_it, zb_if, zb_10, zb_00, zb_n5, zb_n2, zb_m1, zb_m3, zb_m9, or_true, true_or, or_false, false_or, h1, h2, h18, ht.1, q1, h21, e0]
    · have e0 : ((0 : Int32) < nI W) = True := eq_true (nI_lt (a := 0) (by omega) (by omega))
      rw [zr129_30]
      simp only [zr129_0, zr129_1, zr129_2, zr129_5, zr129_6, zr129_7, zr129_10, zr129_11, zr129_12, zr129_15, zr129_16, zr129_17, zr129_20, zr129_23, zr129_24, zr129_25, zr129_26, zr129_27, zr129_31, zr129_34, zr129_35, zr129_38, zr129_39, zr129_40, zr129_43, zr129_44, zr129_45, zr129_48, zr129_50, zr129_53, zr129_54, zr129_55, zr129_58, zr129_61, zr129_62, zr129_63, zr129_66, zr129_67, zr129_68, zr129_71, zr129_72, zr129_73, zr129_74, zr129_75, zr129_78, zr129_81, zr129_82, zr129_85, zr129_88, zr129_89, zr129_92, zr129_93, zs_m0 N, zs_m1 N, zs_m2 N, zh_m0 ca cb cs, zq_kill_int, zq_kill_ref, zq_kill_ret, zq_kill_null, zq_kill_long, zq_rf_some, zq_rf_none, true_and, and_true, true_implies, not_true_eq_false, not_false_eq_true, false_implies, Bool.true_eq_false, Bool.false_eq_true, nI_1, zb_i0, zb_i1, zb_i2, Option.toList_some, Option.toList_none, List.cons_append, List.nil_append, true_or, or_true, implies_true, zb_it, zb_if, zb_10, zb_00, zb_n5, zb_n2, zb_m1, zb_m3, zb_m9, or_true, true_or, or_false, false_or, h1, h2, h18, ht.1, q1, h21, e0]
  -- an 'o' behind the people
  have no_o : ∀ (W i : Nat) (H : zq_I) (v2 : Value), W ≤ 7 → i < n → f i = 111 → txt H f n j → H 60 18 = nI i → H 60 21 = nI W → H 60 20 = nI P → (P = 3 ∨ 0 < W) → ∀ Q, zq_P (d + 3) 129 30 [.ref 60, .int (nI j), v2] [] (zq_SG N, H, hl, zq_HR ca cb cs) Q = Q (some (.int 0)) (zq_SG N, H, hl, zq_HR ca cb cs) := by
    intro W i H v2 hW hi ho ht h18 h21 h20 hor Q
    have q1 : (nI i < nI n) = True := eq_true ((nI_ltI (by omega) (by omega)).mpr hi)
    have hr := fun Q => k_M_here (N := N) (ca := ca) (cb := cb) (cs := cs) (d := d + 2) (hl := hl) (Q := Q) hj hn ht h18 (by omega)
    have eb : her f n i = 111 := by unfold her; rw [if_pos hi]; exact ho
    have ro : ∀ Q, zq_P (d + 2) 134 0 [.ref 60, .int (nI j)] [] (zq_SG N, H, hl, zq_HR ca cb cs) Q = Q (some (.int 0)) (zq_SG N, H, hl, zq_HR ca cb cs) := fun Q => by
      by_cases q3 : P = 3
      · have e3 : (nI P = 3) = True := eq_true (by rw [q3]; rfl)
        simp only [zr134_0, zr134_1, zr134_4, zr134_5, zr134_8, zr134_9, zr134_12, zr134_15, zr134_16, zr134_17, zr134_18, zr134_19, zr134_22, zr134_23, zr134_24, zr134_27, zr134_28, zr134_29, zr134_30, zr134_32, zr134_35, zr134_38, zr134_39, zr134_40, zr134_41, zr134_44, zr134_45, zr134_46, zr134_49, zr134_50, zr134_51, zr134_54, zr134_55, zr134_56, zr134_57, zr134_58, zr134_59, zr134_62, zr134_63, zr134_64, zr134_67, zr134_70, zr134_71, zr134_72, zr134_73, zr134_76, zr134_77, zr134_78, zr134_81, zr134_82, zr134_83, zr134_84, zr134_85, zr134_88, zr134_89, zr134_90, zr134_91, zr134_94, zr134_95, zr134_96, zr134_99, zr134_100, zs_m0 N, zs_m1 N, zs_m2 N, zh_m0 ca cb cs, zq_kill_int, zq_kill_ref, zq_kill_ret, zq_kill_null, zq_kill_long, zq_rf_some, zq_rf_none, true_and, and_true, true_implies, not_true_eq_false, not_false_eq_true, false_implies, Bool.true_eq_false, Bool.false_eq_true, nI_1, zb_i0, zb_i1, zb_i2, Option.toList_some, Option.toList_none, List.cons_append, List.nil_append, true_or, or_true, implies_true, zb_it, zb_if, zb_10, zb_00, zb_n5, zb_n2, zb_m1, zb_m3, zb_m9, or_true, true_or, or_false, false_or, h20, e3]
      · have e3 : (nI P = 3) = False := by rw [show (3 : Int32) = nI 3 from rfl, zb_eq (by omega) (by omega)]; exact eq_false q3
        have e0 : ((0 : Int32) < nI W) = True := eq_true (nI_lt (a := 0) (by omega) (by omega))
        simp only [zr134_0, zr134_1, zr134_4, zr134_5, zr134_8, zr134_9, zr134_12, zr134_15, zr134_16, zr134_17, zr134_18, zr134_19, zr134_22, zr134_23, zr134_24, zr134_27, zr134_28, zr134_29, zr134_30, zr134_32, zr134_35, zr134_38, zr134_39, zr134_40, zr134_41, zr134_44, zr134_45, zr134_46, zr134_49, zr134_50, zr134_51, zr134_54, zr134_55, zr134_56, zr134_57, zr134_58, zr134_59, zr134_62, zr134_63, zr134_64, zr134_67, zr134_70, zr134_71, zr134_72, zr134_73, zr134_76, zr134_77, zr134_78, zr134_81, zr134_82, zr134_83, zr134_84, zr134_85, zr134_88, zr134_89, zr134_90, zr134_91, zr134_94, zr134_95, zr134_96, zr134_99, zr134_100, zs_m0 N, zs_m1 N, zs_m2 N, zh_m0 ca cb cs, zq_kill_int, zq_kill_ref, zq_kill_ret, zq_kill_null, zq_kill_long, zq_rf_some, zq_rf_none, true_and, and_true, true_implies, not_true_eq_false, not_false_eq_true, false_implies, Bool.true_eq_false, Bool.false_eq_true, nI_1, zb_i0, zb_i1, zb_i2, Option.toList_some, Option.toList_none, List.cons_append, List.nil_append, true_or, or_true, implies_true, zb_it, zb_if, zb_10, zb_00, zb_n5, zb_n2, zb_m1, zb_m3, zb_m9, or_true, true_or, or_false, false_or, h20, e3, h21, e0]
    rw [zr129_30]
    simp only [zr129_0, zr129_1, zr129_2, zr129_5, zr129_6, zr129_7, zr129_10, zr129_11, zr129_12, zr129_15, zr129_16, zr129_17, zr129_20, zr129_23, zr129_24, zr129_25, zr129_26, zr129_27, zr129_31, zr129_34, zr129_35, zr129_38, zr129_39, zr129_40, zr129_43, zr129_44, zr129_45, zr129_48, zr129_50, zr129_53, zr129_54, zr129_55, zr129_58, zr129_61, zr129_62, zr129_63, zr129_66, zr129_67, zr129_68, zr129_71, zr129_72, zr129_73, zr129_74, zr129_75, zr129_78, zr129_81, zr129_82, zr129_85, zr129_88, zr129_89, zr129_92, zr129_93, zs_m0 N, zs_m1 N, zs_m2 N, zh_m0 ca cb cs, zq_kill_int, zq_kill_ref, zq_kill_ret, zq_kill_null, zq_kill_long, zq_rf_some, zq_rf_none, true_and, and_true, true_implies, not_true_eq_false, not_false_eq_true, false_implies, Bool.true_eq_false, Bool.false_eq_true, nI_1, zb_i0, zb_i1, zb_i2, Option.toList_some, Option.toList_none, List.cons_append, List.nil_append, true_or, or_true, implies_true, zb_it, zb_if, zb_10, zb_00, zb_n5, zb_n2, zb_m1, zb_m3, zb_m9, or_true, true_or, or_false, false_or, h1, h2, h18, ht.1, q1, hr, eb, ro]
  intro m
  induction m with
  | zero =>
    intro W hW i kd tb nd H v2 hi ht h18 hw h20 hor
    by_cases q : i < n
    · refine ⟨H, mrf_rfl H, rfl, rfl, rfl, Or.inl ⟨i, Or.inr ⟨(W, kd, tb, nd), rfl, Or.inl q⟩, h18, fun Q => ?_⟩⟩
      by_cases ho : f i = 111
      · exact no_o W i H v2 (by omega) q ho ht h18 hw.1 h20 (Or.inr (by omega)) Q
      · have q1 : (nI i < nI n) = True := eq_true ((nI_ltI (by omega) (by omega)).mpr q)
        have hr := fun d Q => k_M_here (N := N) (ca := ca) (cb := cb) (cs := cs) (d := d) (hl := hl) (Q := Q) hj hn ht h18 hi
        have eb : her f n i = f i := if_pos q
        have h21 : H 60 21 = nI W := hw.1
        have e7 : (nI W = 7) = True := eq_true (by rw [show W = 7 by omega]; rfl)
        have rwy : ∀ Q, zq_P (d + 2) 135 0 [.ref 60, .int (nI j), .retAddr 0, .retAddr 0] [] (zq_SG N, H, hl, zq_HR ca cb cs) Q = Q (some (.int 0)) (zq_SG N, H, hl, zq_HR ca cb cs) := fun Q => by
          simp only [zr135_0, zr135_1, zr135_2, zr135_5, zr135_8, zr135_9, zr135_10, zr135_12, zr135_15, zr135_16, zr135_19, zr135_21, zr135_24, zr135_25, zr135_26, zr135_27, zr135_28, zr135_31, zr135_32, zr135_33, zr135_34, zr135_37, zr135_38, zr135_39, zr135_40, zr135_41, zr135_42, zr135_45, zr135_46, zr135_47, zr135_50, zr135_51, zr135_52, zr135_53, zr135_55, zr135_58, zr135_61, zr135_62, zr135_63, zr135_64, zr135_67, zr135_68, zr135_69, zr135_70, zr135_71, zr135_74, zr135_75, zr135_76, zr135_77, zr135_78, zr135_79, zr135_80, zr135_83, zr135_84, zr135_85, zr135_86, zr135_89, zr135_92, zr135_93, zr135_94, zr135_95, zr135_98, zr135_99, zr135_100, zr135_101, zr135_102, zr135_105, zr135_106, zr135_107, zr135_108, zr135_111, zr135_112, zr135_113, zr135_116, zr135_117, zs_m0 N, zs_m1 N, zs_m2 N, zh_m0 ca cb cs, zq_kill_int, zq_kill_ref, zq_kill_ret, zq_kill_null, zq_kill_long, zq_rf_some, zq_rf_none, true_and, and_true, true_implies, not_true_eq_false, not_false_eq_true, false_implies, Bool.true_eq_false, Bool.false_eq_true, nI_1, zb_i0, zb_i1, zb_i2, Option.toList_some, Option.toList_none, List.cons_append, List.nil_append, true_or, or_true, implies_true, zb_it, zb_if, zb_10, zb_00, zb_n5, zb_n2, zb_m1, zb_m3, zb_m9, or_true, true_or, or_false, false_or, hr, eb, k_M_kindBy, h21, e7]
          by_cases z : mmi (kb (f i)) = -9 <;> simp [z]
        rw [zr129_30]
        simp only [zr129_0, zr129_1, zr129_2, zr129_5, zr129_6, zr129_7, zr129_10, zr129_11, zr129_12, zr129_15, zr129_16, zr129_17, zr129_20, zr129_23, zr129_24, zr129_25, zr129_26, zr129_27, zr129_31, zr129_34, zr129_35, zr129_38, zr129_39, zr129_40, zr129_43, zr129_44, zr129_45, zr129_48, zr129_50, zr129_53, zr129_54, zr129_55, zr129_58, zr129_61, zr129_62, zr129_63, zr129_66, zr129_67, zr129_68, zr129_71, zr129_72, zr129_73, zr129_74, zr129_75, zr129_78, zr129_81, zr129_82, zr129_85, zr129_88, zr129_89, zr129_92, zr129_93, zs_m0 N, zs_m1 N, zs_m2 N, zh_m0 ca cb cs, zq_kill_int, zq_kill_ref, zq_kill_ret, zq_kill_null, zq_kill_long, zq_rf_some, zq_rf_none, true_and, and_true, true_implies, not_true_eq_false, not_false_eq_true, false_implies, Bool.true_eq_false, Bool.false_eq_true, nI_1, zb_i0, zb_i1, zb_i2, Option.toList_some, Option.toList_none, List.cons_append, List.nil_append, true_or, or_true, implies_true, zb_it, zb_if, zb_10, zb_00, zb_n5, zb_n2, zb_m1, zb_m3, zb_m9, or_true, true_or, or_false, false_or, h1, h2, h18, ht.1, q1, hr, eb, ho, rwy]
    · obtain ⟨f0, f1⟩ := fin W i H v2 (by omega) q hi ht h18 hw.1
      refine ⟨H, mrf_rfl H, rfl, rfl, rfl, Or.inr ⟨i, (W, kd, tb, nd), rfl, ?_, hw, f1 (by omega)⟩⟩
      show ¬ (i < n ∨ W = 0)
      omega
  | succ m ih =>
    intro W hW i kd tb nd H v2 hi ht h18 hw h20 hor
    rw [wys_s]
    by_cases q : i < n
    · rw [if_pos q]
      by_cases ho : f i = 111
      · refine ⟨H, mrf_rfl H, rfl, rfl, rfl, Or.inl ⟨i, Or.inl ?_, h18, fun Q => ?_⟩⟩
        · rw [ho, kb_111]
        · refine no_o W i H v2 (by omega) q ho ht h18 hw.1 h20 ?_ Q
          rcases hor with z | z
          · exact absurd ⟨q, ho⟩ z
          · exact z
      · have q1 : (nI i < nI n) = True := eq_true ((nI_ltI (by omega) (by omega)).mpr q)
        have hr := fun Q => k_M_here (N := N) (ca := ca) (cb := cb) (cs := cs) (d := d + 2) (hl := hl) (Q := Q) hj hn ht h18 hi
        have eb : her f n i = f i := if_pos q
        obtain ⟨H1, m1, m19, m20, m72, alt⟩ := k_M_readsWay (N := N) (ca := ca) (cb := cb) (cs := cs) (d := d) (hl := hl) hj hn ht h18 q hP (by omega) hw h20
        rcases alt with ⟨q0, hq0, a18, e0⟩ | ⟨k, t, u, hk, hr9, hrq, a18, hw1, e0⟩
        · refine ⟨H1, m1, m19, m20, m72, Or.inl ⟨q0, Or.inl ?_, a18, fun Q => ?_⟩⟩
          · rcases hq0 with ⟨z1, z2⟩ | ⟨k, z1, ⟨z2, z3⟩ | ⟨t, z2, z3, z4⟩⟩
            · rw [z1, z2]
            · rw [z1]; dsimp only; rw [z2, z3]
            · rw [z1]; dsimp only; rw [z2]; dsimp only; rw [z3, z4]
          · rw [zr129_30]
            simp only [zr129_0, zr129_1, zr129_2, zr129_5, zr129_6, zr129_7, zr129_10, zr129_11, zr129_12, zr129_15, zr129_16, zr129_17, zr129_20, zr129_23, zr129_24, zr129_25, zr129_26, zr129_27, zr129_31, zr129_34, zr129_35, zr129_38, zr129_39, zr129_40, zr129_43, zr129_44, zr129_45, zr129_48, zr129_50, zr129_53, zr129_54, zr129_55, zr129_58, zr129_61, zr129_62, zr129_63, zr129_66, zr129_67, zr129_68, zr129_71, zr129_72, zr129_73, zr129_74, zr129_75, zr129_78, zr129_81, zr129_82, zr129_85, zr129_88, zr129_89, zr129_92, zr129_93, zs_m0 N, zs_m1 N, zs_m2 N, zh_m0 ca cb cs, zq_kill_int, zq_kill_ref, zq_kill_ret, zq_kill_null, zq_kill_long, zq_rf_some, zq_rf_none, true_and, and_true, true_implies, not_true_eq_false, not_false_eq_true, false_implies, Bool.true_eq_false, Bool.false_eq_true, nI_1, zb_i0, zb_i1, zb_i2, Option.toList_some, Option.toList_none, List.cons_append, List.nil_append, true_or, or_true, implies_true, zb_it, zb_if, zb_10, zb_00, zb_n5, zb_n2, zb_m1, zb_m3, zb_m9, or_true, true_or, or_false, false_or, h1, h2, h18, ht.1, q1, hr, eb, ho, e0]
        · obtain ⟨t1, t2, -⟩ := fgv_some (by omega) hrq
          rw [hk]
          dsimp only
          rw [hr9]
          dsimp only
          rw [hrq]
          dsimp only
          have ht1 := txt_fr ht m1
          have sk1 := fun Q => k_M_skip (N := N) (ca := ca) (cb := cb) (cs := cs) (d := d + 1) (hl := hl) (Q := Q) hj hn 60 (i + 3) H1 (by omega) (by omega) ht1 a18
          generalize hH2 : zq_u H1 60 18 (nI (sk f n 60 (i + 3))) = H2 at sk1
          have m2 : mrf H1 H2 := by rw [← hH2]; exact mrf_60 (by omega)
          have o2 : ∀ g, g ≠ 18 → H2 60 g = H1 60 g := fun g hg => by rw [← hH2, zq_u_kn hg]
          have o2a : ∀ a, a ≠ 60 → H2 a = H1 a := fun a ha => by rw [← hH2, zq_u_ne ha]
          obtain ⟨H', k1, k2, k3, k4, k5⟩ := ih (W + 1) (by omega) (skp f n (i + 3)) (upn kd W k) (upn tb W t) (upn nd W u) H2 (.int 1) (sk_le _ _ (by omega)) (txt_fr ht1 m2) (by rw [← hH2, zq_u_eq]) ⟨by rw [o2 _ (by omega)]; exact hw1.1, by rw [o2a _ (by omega)]; exact hw1.2⟩ (by rw [o2 _ (by omega), m20]; exact h20) (Or.inr (Or.inr (by omega)))
          have step : ∀ Q, zq_P (d + 3) 129 30 [.ref 60, .int (nI j), v2] [] (zq_SG N, H, hl, zq_HR ca cb cs) Q = zq_P (d + 3) 129 30 [.ref 60, .int (nI j), .int 1] [] (zq_SG N, H2, hl, zq_HR ca cb cs) Q := fun Q => by
            rw [zr129_30]
            simp only [zr129_0, zr129_1, zr129_2, zr129_5, zr129_6, zr129_7, zr129_10, zr129_11, zr129_12, zr129_15, zr129_16, zr129_17, zr129_20, zr129_23, zr129_24, zr129_25, zr129_26, zr129_27, zr129_31, zr129_34, zr129_35, zr129_38, zr129_39, zr129_40, zr129_43, zr129_44, zr129_45, zr129_48, zr129_50, zr129_53, zr129_54, zr129_55, zr129_58, zr129_61, zr129_62, zr129_63, zr129_66, zr129_67, zr129_68, zr129_71, zr129_72, zr129_73, zr129_74, zr129_75, zr129_78, zr129_81, zr129_82, zr129_85, zr129_88, zr129_89, zr129_92, zr129_93, zs_m0 N, zs_m1 N, zs_m2 N, zh_m0 ca cb cs, zq_kill_int, zq_kill_ref, zq_kill_ret, zq_kill_null, zq_kill_long, zq_rf_some, zq_rf_none, true_and, and_true, true_implies, not_true_eq_false, not_false_eq_true, false_implies, Bool.true_eq_false, Bool.false_eq_true, nI_1, zb_i0, zb_i1, zb_i2, Option.toList_some, Option.toList_none, List.cons_append, List.nil_append, true_or, or_true, implies_true, zb_it, zb_if, zb_10, zb_00, zb_n5, zb_n2, zb_m1, zb_m3, zb_m9, or_true, true_or, or_false, false_or, h1, h2, h18, ht.1, q1, hr, eb, ho, e0, sk1]
          refine ⟨H', mrf_tr m1 (mrf_tr m2 k1), by rw [k2, o2 _ (by omega), m19], by rw [k3, o2 _ (by omega), m20], by rw [k4, o2a _ (by omega), m72], ?_⟩
          rcases k5 with ⟨q0, z1, z2, z3⟩ | ⟨i', s, z1, z2, z3, z4⟩
          · exact Or.inl ⟨q0, z1, z2, fun Q => (step Q).trans (z3 Q)⟩
          · exact Or.inr ⟨i', s, z1, z2, z3, fun Q => (step Q).trans (z4 Q)⟩
    · rw [if_neg q]
      obtain ⟨f0, f1⟩ := fin W i H v2 (by omega) q hi ht h18 hw.1
      by_cases hW0 : W = 0
      · exact ⟨H, mrf_rfl H, rfl, rfl, rfl, Or.inl ⟨i, Or.inr ⟨(W, kd, tb, nd), rfl, Or.inr hW0⟩, h18, f0 hW0⟩⟩
      · refine ⟨H, mrf_rfl H, rfl, rfl, rfl, Or.inr ⟨i, (W, kd, tb, nd), rfl, ?_, hw, f1 hW0⟩⟩
        show ¬ (i < n ∨ W = 0)
        omega
theorem k_M_goesOn (hj : j < 4) (hn : n ≤ 60) (ht : txt H f n j) :
    ∃ H', mrf H H' ∧ ((∃ q, rdc f n = .inl q ∧ ∀ Q, zq_P (d + 5) 128 0 [.ref 60, .int (nI j)] [] (zq_SG N, H, hl, zq_HR ca cb cs) Q = Q (some (.int (nI q))) (zq_SG N, H', hl, zq_HR ca cb cs)) ∨
      ∃ r s w, rdc f n = .inr (r, s, w) ∧ H' 60 19 = nI r ∧ MP H' s ∧ MW H' w ∧ ∀ Q, zq_P (d + 5) 128 0 [.ref 60, .int (nI j)] [] (zq_SG N, H, hl, zq_HR ca cb cs) Q = Q (some (.int (-9))) (zq_SG N, H', hl, zq_HR ca cb cs)) := by
  generalize hH1 : zq_u (zq_u (zq_u H 60 18 0) 60 20 0) 60 21 0 = H1
  have m1 : mrf H H1 := by rw [← hH1]; exact mrf_tr (mrf_60 (by omega)) (mrf_tr (mrf_60 (by omega)) (mrf_60 (by omega)))
  have t1 := txt_fr ht m1
  have a18 : H1 60 18 = nI 0 := by rw [← hH1, zq_u_kn (by omega), zq_u_kn (by omega), zq_u_eq]; rfl
  have a20 : H1 60 20 = nI 0 := by rw [← hH1, zq_u_kn (by omega), zq_u_eq]; rfl
  have a21 : H1 60 21 = nI 0 := by rw [← hH1, zq_u_eq]; rfl
  have i0 := sk_le (f := f) (n := n) 60 0 (by omega)
  have sk1 := fun Q => k_M_skip (N := N) (ca := ca) (cb := cb) (cs := cs) (d := d + 1) (hl := hl) (Q := Q) hj hn 60 0 H1 (by omega) (by omega) t1 a18
  replace i0 : skp f n 0 ≤ n := i0
  generalize hH2 : zq_u H1 60 18 (nI (sk f n 60 0)) = H2 at sk1
  have m2 : mrf H H2 := by rw [← hH2]; exact mrf_tr m1 (mrf_60 (by omega))
  have t2 := txt_fr ht m2
  have b18 : H2 60 18 = nI (skp f n 0) := by rw [← hH2, zq_u_eq]
  have o2 : ∀ g, g ≠ 18 → H2 60 g = H1 60 g := fun g hg => by rw [← hH2, zq_u_kn hg]
  -- from the start of readsCourt
  have hr := fun Q => k_M_here (N := N) (ca := ca) (cb := cb) (cs := cs) (d := d + 2) (hl := hl) (Q := Q) hj hn t2 b18 i0
  have b1 := her_in (f := f) (n := n) (i := skp f n 0) (y := 107) (by decide)
  have bad : ∀ (H' : zq_I) (q : Nat), H' 60 18 = nI q → (∀ Q, zq_P (d + 4) 129 0 [.ref 60, .int (nI j), .retAddr 0] [] (zq_SG N, H, hl, zq_HR ca cb cs) Q = Q (some (.int 0)) (zq_SG N, H', hl, zq_HR ca cb cs)) → ∀ Q, zq_P (d + 5) 128 0 [.ref 60, .int (nI j)] [] (zq_SG N, H, hl, zq_HR ca cb cs) Q = Q (some (.int (nI q))) (zq_SG N, H', hl, zq_HR ca cb cs) := fun H' q h18 e Q => by
    simp only [zr128_0, zr128_1, zr128_2, zr128_5, zr128_8, zr128_10, zr128_13, zr128_14, zr128_17, zs_m0 N, zs_m1 N, zs_m2 N, zh_m0 ca cb cs, zq_kill_int, zq_kill_ref, zq_kill_ret, zq_kill_null, zq_kill_long, zq_rf_some, zq_rf_none, true_and, and_true, true_implies, not_true_eq_false, not_false_eq_true, false_implies, Bool.true_eq_false, Bool.false_eq_true, nI_1, zb_i0, zb_i1, zb_i2, Option.toList_some, Option.toList_none, List.cons_append, List.nil_append, true_or, or_true, implies_true, zb_it, zb_if, zb_10, zb_00, zb_n5, zb_n2, zb_m1, zb_m3, zb_m9, or_true, true_or, or_false, false_or, e, h18]
  have good : ∀ (H' : zq_I), (∀ Q, zq_P (d + 4) 129 0 [.ref 60, .int (nI j), .retAddr 0] [] (zq_SG N, H, hl, zq_HR ca cb cs) Q = Q (some (.int 1)) (zq_SG N, H', hl, zq_HR ca cb cs)) → ∀ Q, zq_P (d + 5) 128 0 [.ref 60, .int (nI j)] [] (zq_SG N, H, hl, zq_HR ca cb cs) Q = Q (some (.int (-9))) (zq_SG N, H', hl, zq_HR ca cb cs) := fun H' e Q => by
    simp only [zr128_0, zr128_1, zr128_2, zr128_5, zr128_8, zr128_10, zr128_13, zr128_14, zr128_17, zs_m0 N, zs_m1 N, zs_m2 N, zh_m0 ca cb cs, zq_kill_int, zq_kill_ref, zq_kill_ret, zq_kill_null, zq_kill_long, zq_rf_some, zq_rf_none, true_and, and_true, true_implies, not_true_eq_false, not_false_eq_true, false_implies, Bool.true_eq_false, Bool.false_eq_true, nI_1, zb_i0, zb_i1, zb_i2, Option.toList_some, Option.toList_none, List.cons_append, List.nil_append, true_or, or_true, implies_true, zb_it, zb_if, zb_10, zb_00, zb_n5, zb_n2, zb_m1, zb_m3, zb_m9, or_true, true_or, or_false, false_or, e]
  unfold rdc
  generalize hp0 : skp f n 0 = p0 at *
  by_cases q : p0 < n ∧ f p0 = 107
  · rw [if_pos q]
    have b2 : (her f n p0 = 107) = True := by rw [b1]; exact eq_true q
    generalize hH3 : zq_u H2 60 18 (nI (p0 + 1)) = H3
    have m3 : mrf H H3 := by rw [← hH3]; exact mrf_tr m2 (mrf_60 (by omega))
    have t3 := txt_fr ht m3
    have c18 : H3 60 18 = nI (p0 + 1) := by rw [← hH3, zq_u_eq]
    have o3 : ∀ g, g ≠ 18 → H3 60 g = H1 60 g := fun g hg => by rw [← hH3, zq_u_kn hg, o2 g hg]
    cases h6 : fgv f n (p0 + 1) 6 with
    | none =>
      have nn : ∀ Q, zq_P (d + 2) 133 0 [.ref 60, .int (nI j), .int 0, .int 6, .retAddr 0] [] (zq_SG N, H3, hl, zq_HR ca cb cs) Q = Q (some (.int 0)) (zq_SG N, H3, hl, zq_HR ca cb cs) := fun Q => k_M_figure_no (d := d + 1) (h := 6) (lo := 0) hj hn t3 c18 (by omega) (by omega) (by omega) (Or.inl h6)
      refine ⟨H3, m3, Or.inl ⟨p0 + 1, rfl, bad H3 (p0 + 1) c18 fun Q => ?_⟩⟩
      simp only [zr129_0, zr129_1, zr129_2, zr129_5, zr129_6, zr129_7, zr129_10, zr129_11, zr129_12, zr129_15, zr129_16, zr129_17, zr129_20, zr129_23, zr129_24, zr129_25, zr129_26, zr129_27, zr129_31, zr129_34, zr129_35, zr129_38, zr129_39, zr129_40, zr129_43, zr129_44, zr129_45, zr129_48, zr129_50, zr129_53, zr129_54, zr129_55, zr129_58, zr129_61, zr129_62, zr129_63, zr129_66, zr129_67, zr129_68, zr129_71, zr129_72, zr129_73, zr129_74, zr129_75, zr129_78, zr129_81, zr129_82, zr129_85, zr129_88, zr129_89, zr129_92, zr129_93, zr130_0, zr130_1, zr130_2, zr130_5, zr130_6, zr130_7, zr130_10, zr130_12, zr130_15, zr130_16, zr130_17, zr130_18, zr130_19, zr130_22, zr130_23, zr130_24, zr130_27, zr130_28, zr130_29, zr130_30, zr130_32, zr130_35, zr130_38, zr130_39, zr130_40, zr130_41, zr130_42, zr130_45, zr130_48, zr130_49, zs_m0 N, zs_m1 N, zs_m2 N, zh_m0 ca cb cs, zq_kill_int, zq_kill_ref, zq_kill_ret, zq_kill_null, zq_kill_long, zq_rf_some, zq_rf_none, true_and, and_true, true_implies, not_true_eq_false, not_false_eq_true, false_implies, Bool.true_eq_false, Bool.false_eq_true, nI_1, zb_i0, zb_i1, zb_i2, Option.toList_some, Option.toList_none, List.cons_append, List.nil_append, true_or, or_true, implies_true, zb_it, zb_if, zb_10, zb_00, zb_n5, zb_n2, zb_m1, zb_m3, zb_m9, or_true, true_or, or_false, false_or, hH1, sk1, hr, b2, b18, hH3, nn]
    | some r =>
      obtain ⟨r1, r2, -⟩ := fgv_some (by omega) h6
      have ok6 : ∀ Q, zq_P (d + 2) 133 0 [.ref 60, .int (nI j), .int 0, .int 6, .retAddr 0] [] (zq_SG N, H3, hl, zq_HR ca cb cs) Q = Q (some (.int 1)) (zq_SG N, fgh H3 r (p0 + 1), hl, zq_HR ca cb cs) := fun Q => k_M_figure_ok (d := d + 1) (h := 6) (lo := 0) hj hn t3 c18 (by omega) (by omega) h6 (by omega)
      dsimp only
      generalize hH4 : fgh H3 r (p0 + 1) = H4 at ok6
      have m4 : mrf H H4 := by rw [← hH4]; exact mrf_tr m3 fgh_mrf
      have d18 : H4 60 18 = nI (p0 + 2) := by rw [← hH4]; exact fgh_18
      have d24 : H4 60 24 = nI r := by rw [← hH4]; exact fgh_24
      have o4 : ∀ g, g ≠ 18 → g ≠ 24 → H4 60 g = H1 60 g := fun g g1 g2 => by rw [← hH4, fgh_o g1 g2, o3 g g1]
      generalize hH5 : zq_u H4 60 19 (nI r) = H5
      have m5 : mrf H H5 := by rw [← hH5]; exact mrf_tr m4 (mrf_60 (by omega))
      have t5 := txt_fr ht m5
      have e18 : H5 60 18 = nI (p0 + 2) := by rw [← hH5, zq_u_kn (by omega)]; exact d18
      have sk5 := fun Q => k_M_skip (N := N) (ca := ca) (cb := cb) (cs := cs) (d := d + 2) (hl := hl) (Q := Q) hj hn 60 (p0 + 2) H5 (by omega) (by omega) t5 e18
      generalize hH6 : zq_u H5 60 18 (nI (sk f n 60 (p0 + 2))) = H6 at sk5
      have m6 : mrf H H6 := by rw [← hH6]; exact mrf_tr m5 (mrf_60 (by omega))
      have t6 := txt_fr ht m6
      have o6 : ∀ g, g ≠ 18 → g ≠ 24 → g ≠ 19 → H6 60 g = H1 60 g := fun g g1 g2 g3 => by rw [← hH6, zq_u_kn g1, ← hH5, zq_u_kn g3, o4 g g1 g2]
      have f19 : H6 60 19 = nI r := by rw [← hH6, zq_u_kn (by omega), ← hH5, zq_u_eq]
      have f21 : H6 60 21 = 0 := by rw [o6 _ (by omega) (by omega) (by omega)]; exact a21
      have none0 : ∀ k, ¬ k < 0 := fun k => Nat.not_lt_zero k
      have start : ∀ Q, zq_P (d + 4) 129 0 [.ref 60, .int (nI j), .retAddr 0] [] (zq_SG N, H, hl, zq_HR ca cb cs) Q = zq_P (d + 4) 129 30 [.ref 60, .int (nI j), .retAddr 0] [] (zq_SG N, H6, hl, zq_HR ca cb cs) Q := fun Q => by
        simp only [zr129_0, zr129_1, zr129_2, zr129_5, zr129_6, zr129_7, zr129_10, zr129_11, zr129_12, zr129_15, zr129_16, zr129_17, zr129_20, zr129_23, zr129_24, zr129_25, zr129_26, zr129_27, zr129_31, zr129_34, zr129_35, zr129_38, zr129_39, zr129_40, zr129_43, zr129_44, zr129_45, zr129_48, zr129_50, zr129_53, zr129_54, zr129_55, zr129_58, zr129_61, zr129_62, zr129_63, zr129_66, zr129_67, zr129_68, zr129_71, zr129_72, zr129_73, zr129_74, zr129_75, zr129_78, zr129_81, zr129_82, zr129_85, zr129_88, zr129_89, zr129_92, zr129_93, zr130_0, zr130_1, zr130_2, zr130_5, zr130_6, zr130_7, zr130_10, zr130_12, zr130_15, zr130_16, zr130_17, zr130_18, zr130_19, zr130_22, zr130_23, zr130_24, zr130_27, zr130_28, zr130_29, zr130_30, zr130_32, zr130_35, zr130_38, zr130_39, zr130_40, zr130_41, zr130_42, zr130_45, zr130_48, zr130_49, zs_m0 N, zs_m1 N, zs_m2 N, zh_m0 ca cb cs, zq_kill_int, zq_kill_ref, zq_kill_ret, zq_kill_null, zq_kill_long, zq_rf_some, zq_rf_none, true_and, and_true, true_implies, not_true_eq_false, not_false_eq_true, false_implies, Bool.true_eq_false, Bool.false_eq_true, nI_1, zb_i0, zb_i1, zb_i2, Option.toList_some, Option.toList_none, List.cons_append, List.nil_append, true_or, or_true, implies_true, zb_it, zb_if, zb_10, zb_00, zb_n5, zb_n2, zb_m1, zb_m3, zb_m9, or_true, true_or, or_false, false_or, hH1, sk1, hr, b2, b18, hH3, ok6, d24, hH5, sk5]
      obtain ⟨H7, k1, k2, k3, k4⟩ := k_M_court_people (N := N) (ca := ca) (cb := cb) (cs := cs) (d := d + 1) (hl := hl) hj hn 3 0 (by omega) (skp f n (p0 + 2)) (fun _ => 0) (fun _ => 0) H6 (.retAddr 0) (sk_le _ _ (by omega)) t6 (by rw [← hH6, zq_u_eq]) ⟨by rw [o6 _ (by omega) (by omega) (by omega)]; exact a20, fun k hk => absurd hk (none0 k)⟩ f21
      rcases k4 with ⟨q0, z1, z2, z3⟩ | ⟨i', s, v2', z1, z2, z3, z4, z5, z6, z7⟩
      · rw [z1]
        dsimp only
        exact ⟨H7, mrf_tr m6 k1, Or.inl ⟨q0, rfl, bad H7 q0 z2 fun Q => (start Q).trans (z3 Q)⟩⟩
      · rw [z1]
        dsimp only
        obtain ⟨H8, l1, l2, l3, l4, l5⟩ := k_M_court_ways (N := N) (ca := ca) (cb := cb) (cs := cs) (d := d + 1) (hl := hl) (P := s.1) hj hn z5 7 0 (by omega) i' (fun _ => 0) (fun _ => 0) (fun _ => 0) H7 v2' z2 (txt_fr t6 k1) z3 ⟨k3, fun k hk => absurd hk (none0 k)⟩ z4.1 (by
          rcases z6 with z | z
          · exact Or.inl z
          · exact Or.inr (Or.inl z))
        rcases l5 with ⟨q0, y1, y2, y3⟩ | ⟨i5, s5, y1, y2, y3, y4⟩
        · refine ⟨H8, mrf_tr m6 (mrf_tr k1 l1), Or.inl ⟨q0, ?_, bad H8 q0 y2 fun Q => (start Q).trans ((z7 Q).trans (y3 Q))⟩⟩
          rcases y1 with y1 | ⟨s5, y1, y5⟩
          · rw [y1]
          · rw [y1]; dsimp only; rw [if_pos y5]
        · refine ⟨H8, mrf_tr m6 (mrf_tr k1 l1), Or.inr ⟨r, s, s5, ?_, ?_, ⟨by rw [l3]; exact z4.1, by rw [l4]; exact z4.2⟩, y3, good H8 fun Q => (start Q).trans ((z7 Q).trans (y4 Q))⟩⟩
          · rw [y1]; dsimp only; rw [if_neg y2]
          · rw [l2, k2]; exact f19
  · rw [if_neg q]
    have b2 : (her f n p0 = 107) = False := by rw [b1]; exact eq_false q
    refine ⟨H2, m2, Or.inl ⟨p0, rfl, bad H2 p0 b18 fun Q => ?_⟩⟩
    simp only [zr129_0, zr129_1, zr129_2, zr129_5, zr129_6, zr129_7, zr129_10, zr129_11, zr129_12, zr129_15, zr129_16, zr129_17, zr129_20, zr129_23, zr129_24, zr129_25, zr129_26, zr129_27, zr129_31, zr129_34, zr129_35, zr129_38, zr129_39, zr129_40, zr129_43, zr129_44, zr129_45, zr129_48, zr129_50, zr129_53, zr129_54, zr129_55, zr129_58, zr129_61, zr129_62, zr129_63, zr129_66, zr129_67, zr129_68, zr129_71, zr129_72, zr129_73, zr129_74, zr129_75, zr129_78, zr129_81, zr129_82, zr129_85, zr129_88, zr129_89, zr129_92, zr129_93, zr130_0, zr130_1, zr130_2, zr130_5, zr130_6, zr130_7, zr130_10, zr130_12, zr130_15, zr130_16, zr130_17, zr130_18, zr130_19, zr130_22, zr130_23, zr130_24, zr130_27, zr130_28, zr130_29, zr130_30, zr130_32, zr130_35, zr130_38, zr130_39, zr130_40, zr130_41, zr130_42, zr130_45, zr130_48, zr130_49, zs_m0 N, zs_m1 N, zs_m2 N, zh_m0 ca cb cs, zq_kill_int, zq_kill_ref, zq_kill_ret, zq_kill_null, zq_kill_long, zq_rf_some, zq_rf_none, true_and, and_true, true_implies, not_true_eq_false, not_false_eq_true, false_implies, Bool.true_eq_false, Bool.false_eq_true, nI_1, zb_i0, zb_i1, zb_i2, Option.toList_some, Option.toList_none, List.cons_append, List.nil_append, true_or, or_true, implies_true, zb_it, zb_if, zb_10, zb_00, zb_n5, zb_n2, zb_m1, zb_m3, zb_m9, or_true, true_or, or_false, false_or, hH1, sk1, hr, b2]
end Z65
